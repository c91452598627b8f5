section
-- ===== PART A: goes FIRST, ahead of the names: the tables' words, and 'selects' of the private methods out of them =====
/-- a private method of a class that the tables say can be made, by its rows of tables_1 -/
def lw_okq (q : MethodName × Nat) : Prop := (q.1.cls ≠ "java/lang/invoke/MethodHandle" ∧ q.1.cls ≠ "java/lang/invoke/VarHandle") ∧ Cond.instantiable q.1.cls q.2 ∈ tables_1 ∧ Cond.privateMethod q.1 ∈ tables_1 ∧ Cond.instanceMethod q.1 ∈ tables_1
theorem lw_p0 : lw_okq (⟨"TrimSheet$Cargo", "rankByWeight", "(II)V"⟩, 14) := ⟨⟨by decide +kernel, by decide +kernel⟩, List.mem_of_getElem? (i := 22) (by decide +kernel), List.mem_of_getElem? (i := 321) (by decide +kernel), List.mem_of_getElem? (i := 322) (by decide +kernel)⟩
theorem lw_p1 : lw_okq (⟨"TrimSheet", "limitsOf", "(I)LTrimSheet$Limits;"⟩, 10) := ⟨⟨by decide +kernel, by decide +kernel⟩, List.mem_of_getElem? (i := 14) (by decide +kernel), List.mem_of_getElem? (i := 360) (by decide +kernel), List.mem_of_getElem? (i := 361) (by decide +kernel)⟩
theorem lw_p2 : lw_okq (⟨"TrimSheet$Cargo", "isTooMuchForFloor", "(II)Z"⟩, 14) := ⟨⟨by decide +kernel, by decide +kernel⟩, List.mem_of_getElem? (i := 22) (by decide +kernel), List.mem_of_getElem? (i := 407) (by decide +kernel), List.mem_of_getElem? (i := 408) (by decide +kernel)⟩
theorem lw_p3 : lw_okq (⟨"TrimSheet$Cargo", "isTooNear", "(II)Z"⟩, 14) := ⟨⟨by decide +kernel, by decide +kernel⟩, List.mem_of_getElem? (i := 22) (by decide +kernel), List.mem_of_getElem? (i := 411) (by decide +kernel), List.mem_of_getElem? (i := 412) (by decide +kernel)⟩
theorem lw_p4 : lw_okq (⟨"TrimSheet", "dryWeight", "()I"⟩, 10) := ⟨⟨by decide +kernel, by decide +kernel⟩, List.mem_of_getElem? (i := 14) (by decide +kernel), List.mem_of_getElem? (i := 463) (by decide +kernel), List.mem_of_getElem? (i := 464) (by decide +kernel)⟩
theorem lw_p5 : lw_okq (⟨"TrimSheet", "dryMoment", "()J"⟩, 10) := ⟨⟨by decide +kernel, by decide +kernel⟩, List.mem_of_getElem? (i := 14) (by decide +kernel), List.mem_of_getElem? (i := 488) (by decide +kernel), List.mem_of_getElem? (i := 489) (by decide +kernel)⟩
theorem lw_p6 : lw_okq (⟨"TrimSheet$Cabin", "leanIn", "(II)J"⟩, 5) := ⟨⟨by decide +kernel, by decide +kernel⟩, List.mem_of_getElem? (i := 90) (by decide +kernel), List.mem_of_getElem? (i := 504) (by decide +kernel), List.mem_of_getElem? (i := 505) (by decide +kernel)⟩
theorem lw_p7 : lw_okq (⟨"TrimSheet$Flight", "firstOutside", "(III)I"⟩, 4) := ⟨⟨by decide +kernel, by decide +kernel⟩, List.mem_of_getElem? (i := 161) (by decide +kernel), List.mem_of_getElem? (i := 562) (by decide +kernel), List.mem_of_getElem? (i := 563) (by decide +kernel)⟩
theorem lw_p8 : lw_okq (⟨"TrimSheet$Flight", "firstWithoutRoom", "(IZII)I"⟩, 4) := ⟨⟨by decide +kernel, by decide +kernel⟩, List.mem_of_getElem? (i := 161) (by decide +kernel), List.mem_of_getElem? (i := 566) (by decide +kernel), List.mem_of_getElem? (i := 567) (by decide +kernel)⟩
theorem lw_p9 : lw_okq (⟨"TrimSheet$Flight", "room", "(IZI)J"⟩, 4) := ⟨⟨by decide +kernel, by decide +kernel⟩, List.mem_of_getElem? (i := 161) (by decide +kernel), List.mem_of_getElem? (i := 570) (by decide +kernel), List.mem_of_getElem? (i := 571) (by decide +kernel)⟩
theorem lw_p10 : lw_okq (⟨"TrimSheet$Flight", "isHollow", "(IZ)Z"⟩, 4) := ⟨⟨by decide +kernel, by decide +kernel⟩, List.mem_of_getElem? (i := 161) (by decide +kernel), List.mem_of_getElem? (i := 576) (by decide +kernel), List.mem_of_getElem? (i := 577) (by decide +kernel)⟩
theorem lw_p11 : lw_okq (⟨"TrimSheet$Flight", "bottom", "(IZII)I"⟩, 4) := ⟨⟨by decide +kernel, by decide +kernel⟩, List.mem_of_getElem? (i := 161) (by decide +kernel), List.mem_of_getElem? (i := 581) (by decide +kernel), List.mem_of_getElem? (i := 582) (by decide +kernel)⟩
theorem lw_p12 : lw_okq (⟨"TrimSheet", "lean", "(I)J"⟩, 10) := ⟨⟨by decide +kernel, by decide +kernel⟩, List.mem_of_getElem? (i := 14) (by decide +kernel), List.mem_of_getElem? (i := 620) (by decide +kernel), List.mem_of_getElem? (i := 621) (by decide +kernel)⟩
theorem lw_p13 : lw_okq (⟨"TrimSheet$Cargo", "nearestPlace", "(IIJ)I"⟩, 14) := ⟨⟨by decide +kernel, by decide +kernel⟩, List.mem_of_getElem? (i := 22) (by decide +kernel), List.mem_of_getElem? (i := 628) (by decide +kernel), List.mem_of_getElem? (i := 629) (by decide +kernel)⟩
theorem lw_p14 : lw_okq (⟨"TrimSheet$Swapper", "doFirstGoodSwapOf", "(IJ)Z"⟩, 1) := ⟨⟨by decide +kernel, by decide +kernel⟩, List.mem_of_getElem? (i := 180) (by decide +kernel), List.mem_of_getElem? (i := 646) (by decide +kernel), List.mem_of_getElem? (i := 647) (by decide +kernel)⟩
theorem lw_p15 : lw_okq (⟨"TrimSheet$Swapper", "isNearerSwapped", "(IIJ)Z"⟩, 1) := ⟨⟨by decide +kernel, by decide +kernel⟩, List.mem_of_getElem? (i := 180) (by decide +kernel), List.mem_of_getElem? (i := 650) (by decide +kernel), List.mem_of_getElem? (i := 651) (by decide +kernel)⟩
def lw_privs_1 : List (MethodName × Nat) := [(⟨"TrimSheet$Cargo", "rankByWeight", "(II)V"⟩, 14), (⟨"TrimSheet", "limitsOf", "(I)LTrimSheet$Limits;"⟩, 10), (⟨"TrimSheet$Cargo", "isTooMuchForFloor", "(II)Z"⟩, 14), (⟨"TrimSheet$Cargo", "isTooNear", "(II)Z"⟩, 14), (⟨"TrimSheet", "dryWeight", "()I"⟩, 10), (⟨"TrimSheet", "dryMoment", "()J"⟩, 10), (⟨"TrimSheet$Cabin", "leanIn", "(II)J"⟩, 5), (⟨"TrimSheet$Flight", "firstOutside", "(III)I"⟩, 4), (⟨"TrimSheet$Flight", "firstWithoutRoom", "(IZII)I"⟩, 4), (⟨"TrimSheet$Flight", "room", "(IZI)J"⟩, 4), (⟨"TrimSheet$Flight", "isHollow", "(IZ)Z"⟩, 4), (⟨"TrimSheet$Flight", "bottom", "(IZII)I"⟩, 4), (⟨"TrimSheet", "lean", "(I)J"⟩, 10), (⟨"TrimSheet$Cargo", "nearestPlace", "(IIJ)I"⟩, 14), (⟨"TrimSheet$Swapper", "doFirstGoodSwapOf", "(IJ)Z"⟩, 1), (⟨"TrimSheet$Swapper", "isNearerSwapped", "(IIJ)Z"⟩, 1)]
theorem lw_r1 : ∀ q ∈ lw_privs_1, lw_okq q := List.forall_mem_cons.mpr ⟨lw_p0, List.forall_mem_cons.mpr ⟨lw_p1, List.forall_mem_cons.mpr ⟨lw_p2, List.forall_mem_cons.mpr ⟨lw_p3, List.forall_mem_cons.mpr ⟨lw_p4, List.forall_mem_cons.mpr ⟨lw_p5, List.forall_mem_cons.mpr ⟨lw_p6, List.forall_mem_cons.mpr ⟨lw_p7, List.forall_mem_cons.mpr ⟨lw_p8, List.forall_mem_cons.mpr ⟨lw_p9, List.forall_mem_cons.mpr ⟨lw_p10, List.forall_mem_cons.mpr ⟨lw_p11, List.forall_mem_cons.mpr ⟨lw_p12, List.forall_mem_cons.mpr ⟨lw_p13, List.forall_mem_cons.mpr ⟨lw_p14, List.forall_mem_cons.mpr ⟨lw_p15, fun _ h => absurd h List.not_mem_nil⟩⟩⟩⟩⟩⟩⟩⟩⟩⟩⟩⟩⟩⟩⟩⟩
theorem lw_p16 : lw_okq (⟨"TrimSheet$Swapper", "swapIfBothFit", "(II)Z"⟩, 1) := ⟨⟨by decide +kernel, by decide +kernel⟩, List.mem_of_getElem? (i := 180) (by decide +kernel), List.mem_of_getElem? (i := 655) (by decide +kernel), List.mem_of_getElem? (i := 656) (by decide +kernel)⟩
theorem lw_p17 : lw_okq (⟨"TrimSheet$Swapper", "moveIfGood", "(IIJ)Z"⟩, 1) := ⟨⟨by decide +kernel, by decide +kernel⟩, List.mem_of_getElem? (i := 180) (by decide +kernel), List.mem_of_getElem? (i := 666) (by decide +kernel), List.mem_of_getElem? (i := 667) (by decide +kernel)⟩
theorem lw_p18 : lw_okq (⟨"TrimSheet$Swapper", "firstGoodPlace", "(IIJJ)I"⟩, 1) := ⟨⟨by decide +kernel, by decide +kernel⟩, List.mem_of_getElem? (i := 180) (by decide +kernel), List.mem_of_getElem? (i := 671) (by decide +kernel), List.mem_of_getElem? (i := 672) (by decide +kernel)⟩
theorem lw_p19 : lw_okq (⟨"TrimSheet$Search", "gatherWaiting", "()Z"⟩, 10) := ⟨⟨by decide +kernel, by decide +kernel⟩, List.mem_of_getElem? (i := 190) (by decide +kernel), List.mem_of_getElem? (i := 684) (by decide +kernel), List.mem_of_getElem? (i := 685) (by decide +kernel)⟩
theorem lw_p20 : lw_okq (⟨"TrimSheet$Search", "gatherFree", "()Z"⟩, 10) := ⟨⟨by decide +kernel, by decide +kernel⟩, List.mem_of_getElem? (i := 190) (by decide +kernel), List.mem_of_getElem? (i := 689) (by decide +kernel), List.mem_of_getElem? (i := 690) (by decide +kernel)⟩
theorem lw_p21 : lw_okq (⟨"TrimSheet$Search", "tryAllFrom", "(IIJ)V"⟩, 10) := ⟨⟨by decide +kernel, by decide +kernel⟩, List.mem_of_getElem? (i := 190) (by decide +kernel), List.mem_of_getElem? (i := 699) (by decide +kernel), List.mem_of_getElem? (i := 700) (by decide +kernel)⟩
theorem lw_p22 : lw_okq (⟨"TrimSheet$Search", "keepIfBetter", "(IJ)V"⟩, 10) := ⟨⟨by decide +kernel, by decide +kernel⟩, List.mem_of_getElem? (i := 190) (by decide +kernel), List.mem_of_getElem? (i := 704) (by decide +kernel), List.mem_of_getElem? (i := 705) (by decide +kernel)⟩
theorem lw_p23 : lw_okq (⟨"TrimSheet$Cabin", "nearestRow", "(IJ)I"⟩, 5) := ⟨⟨by decide +kernel, by decide +kernel⟩, List.mem_of_getElem? (i := 90) (by decide +kernel), List.mem_of_getElem? (i := 721) (by decide +kernel), List.mem_of_getElem? (i := 722) (by decide +kernel)⟩
theorem lw_p24 : lw_okq (⟨"TrimSheetModel", "isHold", "(I)Z"⟩, 39) := ⟨⟨by decide +kernel, by decide +kernel⟩, List.mem_of_getElem? (i := 739) (by decide +kernel), List.mem_of_getElem? (i := 882) (by decide +kernel), List.mem_of_getElem? (i := 883) (by decide +kernel)⟩
theorem lw_p25 : lw_okq (⟨"TrimSheetModel", "isItem", "(I)Z"⟩, 39) := ⟨⟨by decide +kernel, by decide +kernel⟩, List.mem_of_getElem? (i := 739) (by decide +kernel), List.mem_of_getElem? (i := 927) (by decide +kernel), List.mem_of_getElem? (i := 928) (by decide +kernel)⟩
theorem lw_p26 : lw_okq (⟨"TrimSheetModel", "isSlot", "(II)Z"⟩, 39) := ⟨⟨by decide +kernel, by decide +kernel⟩, List.mem_of_getElem? (i := 739) (by decide +kernel), List.mem_of_getElem? (i := 931) (by decide +kernel), List.mem_of_getElem? (i := 932) (by decide +kernel)⟩
theorem lw_p27 : lw_okq (⟨"TrimSheetModel", "fitsAt", "(II)I"⟩, 39) := ⟨⟨by decide +kernel, by decide +kernel⟩, List.mem_of_getElem? (i := 739) (by decide +kernel), List.mem_of_getElem? (i := 935) (by decide +kernel), List.mem_of_getElem? (i := 936) (by decide +kernel)⟩
theorem lw_p28 : lw_okq (⟨"TrimSheetModel", "weightOf", "(I)I"⟩, 39) := ⟨⟨by decide +kernel, by decide +kernel⟩, List.mem_of_getElem? (i := 739) (by decide +kernel), List.mem_of_getElem? (i := 939) (by decide +kernel), List.mem_of_getElem? (i := 940) (by decide +kernel)⟩
theorem lw_p29 : lw_okq (⟨"TrimSheetModel", "weightAt", "(I)I"⟩, 39) := ⟨⟨by decide +kernel, by decide +kernel⟩, List.mem_of_getElem? (i := 739) (by decide +kernel), List.mem_of_getElem? (i := 943) (by decide +kernel), List.mem_of_getElem? (i := 944) (by decide +kernel)⟩
theorem lw_p30 : lw_okq (⟨"TrimSheetModel", "put", "(II)V"⟩, 39) := ⟨⟨by decide +kernel, by decide +kernel⟩, List.mem_of_getElem? (i := 739) (by decide +kernel), List.mem_of_getElem? (i := 952) (by decide +kernel), List.mem_of_getElem? (i := 953) (by decide +kernel)⟩
theorem lw_p31 : lw_okq (⟨"TrimSheetModel", "take", "(I)V"⟩, 39) := ⟨⟨by decide +kernel, by decide +kernel⟩, List.mem_of_getElem? (i := 739) (by decide +kernel), List.mem_of_getElem? (i := 960) (by decide +kernel), List.mem_of_getElem? (i := 961) (by decide +kernel)⟩
def lw_privs_2 : List (MethodName × Nat) := [(⟨"TrimSheet$Swapper", "swapIfBothFit", "(II)Z"⟩, 1), (⟨"TrimSheet$Swapper", "moveIfGood", "(IIJ)Z"⟩, 1), (⟨"TrimSheet$Swapper", "firstGoodPlace", "(IIJJ)I"⟩, 1), (⟨"TrimSheet$Search", "gatherWaiting", "()Z"⟩, 10), (⟨"TrimSheet$Search", "gatherFree", "()Z"⟩, 10), (⟨"TrimSheet$Search", "tryAllFrom", "(IIJ)V"⟩, 10), (⟨"TrimSheet$Search", "keepIfBetter", "(IJ)V"⟩, 10), (⟨"TrimSheet$Cabin", "nearestRow", "(IJ)I"⟩, 5), (⟨"TrimSheetModel", "isHold", "(I)Z"⟩, 39), (⟨"TrimSheetModel", "isItem", "(I)Z"⟩, 39), (⟨"TrimSheetModel", "isSlot", "(II)Z"⟩, 39), (⟨"TrimSheetModel", "fitsAt", "(II)I"⟩, 39), (⟨"TrimSheetModel", "weightOf", "(I)I"⟩, 39), (⟨"TrimSheetModel", "weightAt", "(I)I"⟩, 39), (⟨"TrimSheetModel", "put", "(II)V"⟩, 39), (⟨"TrimSheetModel", "take", "(I)V"⟩, 39)]
theorem lw_r2 : ∀ q ∈ lw_privs_2, lw_okq q := List.forall_mem_cons.mpr ⟨lw_p16, List.forall_mem_cons.mpr ⟨lw_p17, List.forall_mem_cons.mpr ⟨lw_p18, List.forall_mem_cons.mpr ⟨lw_p19, List.forall_mem_cons.mpr ⟨lw_p20, List.forall_mem_cons.mpr ⟨lw_p21, List.forall_mem_cons.mpr ⟨lw_p22, List.forall_mem_cons.mpr ⟨lw_p23, List.forall_mem_cons.mpr ⟨lw_p24, List.forall_mem_cons.mpr ⟨lw_p25, List.forall_mem_cons.mpr ⟨lw_p26, List.forall_mem_cons.mpr ⟨lw_p27, List.forall_mem_cons.mpr ⟨lw_p28, List.forall_mem_cons.mpr ⟨lw_p29, List.forall_mem_cons.mpr ⟨lw_p30, List.forall_mem_cons.mpr ⟨lw_p31, fun _ h => absurd h List.not_mem_nil⟩⟩⟩⟩⟩⟩⟩⟩⟩⟩⟩⟩⟩⟩⟩⟩
theorem lw_p32 : lw_okq (⟨"TrimSheetModel", "dryWeight", "()I"⟩, 39) := ⟨⟨by decide +kernel, by decide +kernel⟩, List.mem_of_getElem? (i := 739) (by decide +kernel), List.mem_of_getElem? (i := 980) (by decide +kernel), List.mem_of_getElem? (i := 981) (by decide +kernel)⟩
theorem lw_p33 : lw_okq (⟨"TrimSheetModel", "allFuel", "()I"⟩, 39) := ⟨⟨by decide +kernel, by decide +kernel⟩, List.mem_of_getElem? (i := 739) (by decide +kernel), List.mem_of_getElem? (i := 984) (by decide +kernel), List.mem_of_getElem? (i := 985) (by decide +kernel)⟩
theorem lw_p34 : lw_okq (⟨"TrimSheetModel", "dryMoment", "()J"⟩, 39) := ⟨⟨by decide +kernel, by decide +kernel⟩, List.mem_of_getElem? (i := 739) (by decide +kernel), List.mem_of_getElem? (i := 992) (by decide +kernel), List.mem_of_getElem? (i := 993) (by decide +kernel)⟩
theorem lw_p35 : lw_okq (⟨"TrimSheetModel", "fuelMoment", "(I)J"⟩, 39) := ⟨⟨by decide +kernel, by decide +kernel⟩, List.mem_of_getElem? (i := 739) (by decide +kernel), List.mem_of_getElem? (i := 996) (by decide +kernel), List.mem_of_getElem? (i := 997) (by decide +kernel)⟩
theorem lw_p36 : lw_okq (⟨"TrimSheetModel", "lies", "(IJJ)I"⟩, 39) := ⟨⟨by decide +kernel, by decide +kernel⟩, List.mem_of_getElem? (i := 739) (by decide +kernel), List.mem_of_getElem? (i := 1009) (by decide +kernel), List.mem_of_getElem? (i := 1010) (by decide +kernel)⟩
theorem lw_p37 : lw_okq (⟨"TrimSheetModel", "firstWrong", "(I)I"⟩, 39) := ⟨⟨by decide +kernel, by decide +kernel⟩, List.mem_of_getElem? (i := 739) (by decide +kernel), List.mem_of_getElem? (i := 1018) (by decide +kernel), List.mem_of_getElem? (i := 1019) (by decide +kernel)⟩
theorem lw_p38 : lw_okq (⟨"TrimSheetModel", "pushedAll", "()I"⟩, 39) := ⟨⟨by decide +kernel, by decide +kernel⟩, List.mem_of_getElem? (i := 739) (by decide +kernel), List.mem_of_getElem? (i := 1030) (by decide +kernel), List.mem_of_getElem? (i := 1031) (by decide +kernel)⟩
theorem lw_p39 : lw_okq (⟨"TrimSheetModel", "pushedAt", "(I)I"⟩, 39) := ⟨⟨by decide +kernel, by decide +kernel⟩, List.mem_of_getElem? (i := 739) (by decide +kernel), List.mem_of_getElem? (i := 1034) (by decide +kernel), List.mem_of_getElem? (i := 1035) (by decide +kernel)⟩
theorem lw_p40 : lw_okq (⟨"TrimSheetModel", "placeFor", "(II)I"⟩, 39) := ⟨⟨by decide +kernel, by decide +kernel⟩, List.mem_of_getElem? (i := 739) (by decide +kernel), List.mem_of_getElem? (i := 1046) (by decide +kernel), List.mem_of_getElem? (i := 1047) (by decide +kernel)⟩
theorem lw_p41 : lw_okq (⟨"TrimSheetModel", "far", "(IIJ)V"⟩, 39) := ⟨⟨by decide +kernel, by decide +kernel⟩, List.mem_of_getElem? (i := 739) (by decide +kernel), List.mem_of_getElem? (i := 1050) (by decide +kernel), List.mem_of_getElem? (i := 1051) (by decide +kernel)⟩
theorem lw_p42 : lw_okq (⟨"TrimSheetModel", "betters", "(I)Z"⟩, 39) := ⟨⟨by decide +kernel, by decide +kernel⟩, List.mem_of_getElem? (i := 739) (by decide +kernel), List.mem_of_getElem? (i := 1058) (by decide +kernel), List.mem_of_getElem? (i := 1059) (by decide +kernel)⟩
theorem lw_p43 : lw_okq (⟨"TrimSheetModel", "swaps", "(III)Z"⟩, 39) := ⟨⟨by decide +kernel, by decide +kernel⟩, List.mem_of_getElem? (i := 739) (by decide +kernel), List.mem_of_getElem? (i := 1062) (by decide +kernel), List.mem_of_getElem? (i := 1063) (by decide +kernel)⟩
theorem lw_p44 : lw_okq (⟨"TrimSheetModel", "isBetter", "(I)Z"⟩, 39) := ⟨⟨by decide +kernel, by decide +kernel⟩, List.mem_of_getElem? (i := 739) (by decide +kernel), List.mem_of_getElem? (i := 1066) (by decide +kernel), List.mem_of_getElem? (i := 1067) (by decide +kernel)⟩
theorem lw_p45 : lw_okq (⟨"TrimSheetModel", "isNearer", "(JIJI)Z"⟩, 39) := ⟨⟨by decide +kernel, by decide +kernel⟩, List.mem_of_getElem? (i := 739) (by decide +kernel), List.mem_of_getElem? (i := 1070) (by decide +kernel), List.mem_of_getElem? (i := 1071) (by decide +kernel)⟩
theorem lw_p46 : lw_okq (⟨"TrimSheetModel", "moves", "(III)Z"⟩, 39) := ⟨⟨by decide +kernel, by decide +kernel⟩, List.mem_of_getElem? (i := 739) (by decide +kernel), List.mem_of_getElem? (i := 1074) (by decide +kernel), List.mem_of_getElem? (i := 1075) (by decide +kernel)⟩
theorem lw_p47 : lw_okq (⟨"TrimSheetModel", "tries", "(II)V"⟩, 39) := ⟨⟨by decide +kernel, by decide +kernel⟩, List.mem_of_getElem? (i := 739) (by decide +kernel), List.mem_of_getElem? (i := 1082) (by decide +kernel), List.mem_of_getElem? (i := 1083) (by decide +kernel)⟩
def lw_privs_3 : List (MethodName × Nat) := [(⟨"TrimSheetModel", "dryWeight", "()I"⟩, 39), (⟨"TrimSheetModel", "allFuel", "()I"⟩, 39), (⟨"TrimSheetModel", "dryMoment", "()J"⟩, 39), (⟨"TrimSheetModel", "fuelMoment", "(I)J"⟩, 39), (⟨"TrimSheetModel", "lies", "(IJJ)I"⟩, 39), (⟨"TrimSheetModel", "firstWrong", "(I)I"⟩, 39), (⟨"TrimSheetModel", "pushedAll", "()I"⟩, 39), (⟨"TrimSheetModel", "pushedAt", "(I)I"⟩, 39), (⟨"TrimSheetModel", "placeFor", "(II)I"⟩, 39), (⟨"TrimSheetModel", "far", "(IIJ)V"⟩, 39), (⟨"TrimSheetModel", "betters", "(I)Z"⟩, 39), (⟨"TrimSheetModel", "swaps", "(III)Z"⟩, 39), (⟨"TrimSheetModel", "isBetter", "(I)Z"⟩, 39), (⟨"TrimSheetModel", "isNearer", "(JIJI)Z"⟩, 39), (⟨"TrimSheetModel", "moves", "(III)Z"⟩, 39), (⟨"TrimSheetModel", "tries", "(II)V"⟩, 39)]
theorem lw_r3 : ∀ q ∈ lw_privs_3, lw_okq q := List.forall_mem_cons.mpr ⟨lw_p32, List.forall_mem_cons.mpr ⟨lw_p33, List.forall_mem_cons.mpr ⟨lw_p34, List.forall_mem_cons.mpr ⟨lw_p35, List.forall_mem_cons.mpr ⟨lw_p36, List.forall_mem_cons.mpr ⟨lw_p37, List.forall_mem_cons.mpr ⟨lw_p38, List.forall_mem_cons.mpr ⟨lw_p39, List.forall_mem_cons.mpr ⟨lw_p40, List.forall_mem_cons.mpr ⟨lw_p41, List.forall_mem_cons.mpr ⟨lw_p42, List.forall_mem_cons.mpr ⟨lw_p43, List.forall_mem_cons.mpr ⟨lw_p44, List.forall_mem_cons.mpr ⟨lw_p45, List.forall_mem_cons.mpr ⟨lw_p46, List.forall_mem_cons.mpr ⟨lw_p47, fun _ h => absurd h List.not_mem_nil⟩⟩⟩⟩⟩⟩⟩⟩⟩⟩⟩⟩⟩⟩⟩⟩
def lw_privs : List (MethodName × Nat) := lw_privs_1 ++ (lw_privs_2 ++ (lw_privs_3))
def lw_tbl : List Cond := k2_sels lw_privs ++ tables_1
theorem lw_privs_ok : ∀ q ∈ lw_privs, lw_okq q := by
  show ∀ q ∈ lw_privs_1 ++ (lw_privs_2 ++ (lw_privs_3)), lw_okq q
  exact List.forall_mem_append.mpr ⟨lw_r1, List.forall_mem_append.mpr ⟨lw_r2, lw_r3⟩⟩
-- ===== end of PART A; then your names; then what follows =====
/-! THE CLAIM OUT OF ONE WALK OF THE LAW'S BODY. Your part is whole_start (and what it stands on); all else here is the same for every law, but numbers. -/
def R_law : String := "TrimSheetLaw"
def lw_P (b : Addr) (xs : List Int32) (args : Array Value) (s : State) : Prop := args = #[.ref b] ∧ s.IntsAt b xs ∧ xs.length ≤ 5 ∧ (Jvm.Cond.and given_1 narrow_1).before args s = true
def lw_Q (_ : Array Value) (s : State) (o : Outcome) (t : State) : Prop := o = .returned (some (.int 1)) ∧ Framed s o t [] 600000 7302250
def lw_Z (below : List Frame) (a : Array Value) (s : State) : State → Prop := fun t => ∃ o, t.status = .running ∧ Ended t below o ∧ lw_Q a s o t
/-- the law's own end, with 1 on the stack, nothing written that was there before, its room as the claim has it -/
theorem lw_ret {p : Program} {l : Launch} {e : Env} {s : State} {m : MethodId} {below : List Frame} {meth : Method} {c : Code} {b : Nat} (hx : p.tables.exec = Jvm.exec) (hb : c.code = code) (hr : meth.sig.returnType = ret) (hlocks : meth.locks = false) {pc : Nat} {H : Heap} {ls : Array Slot} (hdg : decode code pc = .ok (.ireturn, 1)) : W p l e room_1 s m #[Value.ref b] below meth c H [] 600000 7302250 (lw_Z below #[Value.ref b] s) (F0 m pc ls [.int 1]) := by
  intro T hT X
  obtain ⟨fs, hret, hrun, hended, hW, hframe⟩ := X.leave (v := some (.int 1)) (hlocks := hlocks) (fun h => by rw [hr] at h; cases h)
  have hmeth' : T.vm.method? m = some meth := X.method'
  refine ⟨T.setFrames fs, ?_, .returned (some (.int 1)), hrun, hended, rfl, ⟨_, rfl⟩, hW, hframe⟩
  jvm_step X.here [X.here.top, hx, hb, hdg, hmeth', hr, ret, narrow_b1]
  (try refine ⟨rfl, ?_⟩); (try refine ⟨rfl, ?_⟩)
  first | (intro acts; rw [hret _ acts rfl rfl rfl]) | rw [hret _ _ rfl rfl rfl]
  exact Steps.refl _
/-- what holds at the law's entry: the machine, the code, the tables' words (any of lw_tbl by 'hts w (by decide +kernel)'), the script of L ints xs at the cell b, what the Statement gives of the start (any of its parts by flat_of_before) -/
def lw_At (p : Program) (s : State) (m : MethodId) (meth : Method) (c : Code) (b L : Nat) (xs : Nat → Int32) : Prop :=
  p.tables.exec = Jvm.exec ∧ c.code = code ∧ meth.sig.returnType = ret ∧ c.maxLocals = 4 ∧ s.vm.findClass R_law = some m.cls ∧ (∀ w ∈ lw_tbl, w.before #[Value.ref b] s = true) ∧ va_X b L xs s s.heap ∧ b < s.heap.size ∧ meth.locks = false ∧ (Jvm.Cond.and given_1 narrow_1).before #[Value.ref b] s = true
end
section
def RX0 : String := "TrimSheet$Cabin"
def TX0 : u_T := fun k => match k with
  | 0 => ("TrimSheet$Cabin", "arm", "[I", true)
  | 1 => ("TrimSheet$Cabin", "seats", "[I", true)
  | 2 => ("TrimSheet$Cabin", "taken", "[I", true)
  | 3 => ("TrimSheet$Cabin", "rowCount", "I", false)
  | _ => ("TrimSheet$Cabin", "personWeight", "I", false)
def tyX0 : Nat → FieldType := fun k => match k with
  | 0 => .array .int
  | 1 => .array .int
  | 2 => .array .int
  | 3 => .int
  | _ => .int
abbrev wsX00 : List Cond := u_ws RX0 TX0 5
theorem nmX0 : ∀ a, a < 5 → ∀ b, b < 5 → a ≠ b → (TX0 a).2.1 ≠ (TX0 b).2.1 := by decide +kernel
theorem tyX0_ok : ∀ k, k < 5 → parseFieldDescriptor (TX0 k).2.2.1 = some (tyX0 k) := by decide +kernel
abbrev cX0_init : ByteArray := prog_2_method_1_code
def yX0_init : MethodName := ⟨RX0, "<init>", "()V"⟩
abbrev cX0_addRow : ByteArray := prog_2_method_2_code
def yX0_addRow : MethodName := ⟨RX0, "addRow", "(II)I"⟩
abbrev cX0_passengers : ByteArray := prog_2_method_3_code
def yX0_passengers : MethodName := ⟨RX0, "passengers", "()I"⟩
abbrev cX0_takenWeight : ByteArray := prog_2_method_4_code
def yX0_takenWeight : MethodName := ⟨RX0, "takenWeight", "()I"⟩
abbrev cX0_takenMoment : ByteArray := prog_2_method_5_code
def yX0_takenMoment : MethodName := ⟨RX0, "takenMoment", "()J"⟩
abbrev cX0_leanIn : ByteArray := prog_2_method_6_code
def yX0_leanIn : MethodName := ⟨RX0, "leanIn", "(II)J"⟩
abbrev cX0_seatLate : ByteArray := prog_2_method_7_code
def yX0_seatLate : MethodName := ⟨RX0, "seatLate", "(IIJ)I"⟩
abbrev cX0_nearestRow : ByteArray := prog_2_method_8_code
def yX0_nearestRow : MethodName := ⟨RX0, "nearestRow", "(IJ)I"⟩
def RX1 : String := "TrimSheet$Cargo"
def TX1 : u_T := fun k => match k with
  | 0 => ("TrimSheet$Cargo", "holdMost", "[I", true)
  | 1 => ("TrimSheet$Cargo", "holdFloor", "[I", true)
  | 2 => ("TrimSheet$Cargo", "slotCount", "[I", true)
  | 3 => ("TrimSheet$Cargo", "holdCount", "I", false)
  | 4 => ("TrimSheet$Cargo", "slotArm", "[I", true)
  | 5 => ("TrimSheet$Cargo", "slotMost", "[I", true)
  | 6 => ("TrimSheet$Cargo", "itemAt", "[I", true)
  | 7 => ("TrimSheet$Cargo", "itemWeight", "[I", true)
  | 8 => ("TrimSheet$Cargo", "itemKind", "[I", true)
  | 9 => ("TrimSheet$Cargo", "itemStop", "[I", true)
  | 10 => ("TrimSheet$Cargo", "placeOfItem", "[I", true)
  | 11 => ("TrimSheet$Cargo", "heaviestFirst", "[I", true)
  | 12 => ("TrimSheet$Cargo", "itemCount", "I", false)
  | _ => ("TrimSheet$Cargo", "distance", "[I", true)
def tyX1 : Nat → FieldType := fun k => match k with
  | 0 => .array .int
  | 1 => .array .int
  | 2 => .array .int
  | 3 => .int
  | 4 => .array .int
  | 5 => .array .int
  | 6 => .array .int
  | 7 => .array .int
  | 8 => .array .int
  | 9 => .array .int
  | 10 => .array .int
  | 11 => .array .int
  | 12 => .int
  | _ => .array .int
abbrev wsX10 : List Cond := u_ws RX1 TX1 14
theorem nmX1 : ∀ a, a < 14 → ∀ b, b < 14 → a ≠ b → (TX1 a).2.1 ≠ (TX1 b).2.1 := by decide +kernel
theorem tyX1_ok : ∀ k, k < 14 → parseFieldDescriptor (TX1 k).2.2.1 = some (tyX1 k) := by decide +kernel
abbrev cX1_init : ByteArray := prog_3_method_1_code
def yX1_init : MethodName := ⟨RX1, "<init>", "()V"⟩
abbrev cX1_placeOf : ByteArray := prog_3_method_2_code
def yX1_placeOf : MethodName := ⟨RX1, "placeOf", "(II)I"⟩
abbrev cX1_hasHold : ByteArray := prog_3_method_3_code
def yX1_hasHold : MethodName := ⟨RX1, "hasHold", "(I)Z"⟩
abbrev cX1_hasSlot : ByteArray := prog_3_method_4_code
def yX1_hasSlot : MethodName := ⟨RX1, "hasSlot", "(II)Z"⟩
abbrev cX1_hasItem : ByteArray := prog_3_method_5_code
def yX1_hasItem : MethodName := ⟨RX1, "hasItem", "(I)Z"⟩
abbrev cX1_isLoaded : ByteArray := prog_3_method_6_code
def yX1_isLoaded : MethodName := ⟨RX1, "isLoaded", "(I)Z"⟩
abbrev cX1_addHold : ByteArray := prog_3_method_7_code
def yX1_addHold : MethodName := ⟨RX1, "addHold", "(II)I"⟩
abbrev cX1_lastArm : ByteArray := prog_3_method_8_code
def yX1_lastArm : MethodName := ⟨RX1, "lastArm", "(I)I"⟩
abbrev cX1_addSlot : ByteArray := prog_3_method_9_code
def yX1_addSlot : MethodName := ⟨RX1, "addSlot", "(III)I"⟩
abbrev cX1_setDistance : ByteArray := prog_3_method_10_code
def yX1_setDistance : MethodName := ⟨RX1, "setDistance", "(III)I"⟩
abbrev cX1_addItem : ByteArray := prog_3_method_11_code
def yX1_addItem : MethodName := ⟨RX1, "addItem", "(III)I"⟩
abbrev cX1_rankByWeight : ByteArray := prog_3_method_12_code
def yX1_rankByWeight : MethodName := ⟨RX1, "rankByWeight", "(II)V"⟩
abbrev cX1_putIn : ByteArray := prog_3_method_13_code
def yX1_putIn : MethodName := ⟨RX1, "putIn", "(II)V"⟩
abbrev cX1_takeOut : ByteArray := prog_3_method_14_code
def yX1_takeOut : MethodName := ⟨RX1, "takeOut", "(I)V"⟩
abbrev cX1_takeOutAllOf : ByteArray := prog_3_method_15_code
def yX1_takeOutAllOf : MethodName := ⟨RX1, "takeOutAllOf", "(I)I"⟩
abbrev cX1_hindrance : ByteArray := prog_3_method_16_code
def yX1_hindrance : MethodName := ⟨RX1, "hindrance", "(II)I"⟩
abbrev cX1_isTooMuchForFloor : ByteArray := prog_3_method_17_code
def yX1_isTooMuchForFloor : MethodName := ⟨RX1, "isTooMuchForFloor", "(II)Z"⟩
abbrev cX1_isTooNear : ByteArray := prog_3_method_18_code
def yX1_isTooNear : MethodName := ⟨RX1, "isTooNear", "(II)Z"⟩
abbrev cX1_weightAt : ByteArray := prog_3_method_19_code
def yX1_weightAt : MethodName := ⟨RX1, "weightAt", "(I)I"⟩
abbrev cX1_weightInHold : ByteArray := prog_3_method_20_code
def yX1_weightInHold : MethodName := ⟨RX1, "weightInHold", "(I)I"⟩
abbrev cX1_itemsInHold : ByteArray := prog_3_method_21_code
def yX1_itemsInHold : MethodName := ⟨RX1, "itemsInHold", "(I)I"⟩
abbrev cX1_heaviestPair : ByteArray := prog_3_method_22_code
def yX1_heaviestPair : MethodName := ⟨RX1, "heaviestPair", "(I)I"⟩
abbrev cX1_slotsInAll : ByteArray := prog_3_method_23_code
def yX1_slotsInAll : MethodName := ⟨RX1, "slotsInAll", "()I"⟩
abbrev cX1_loadedInAll : ByteArray := prog_3_method_24_code
def yX1_loadedInAll : MethodName := ⟨RX1, "loadedInAll", "()I"⟩
abbrev cX1_loadedWeight : ByteArray := prog_3_method_25_code
def yX1_loadedWeight : MethodName := ⟨RX1, "loadedWeight", "()I"⟩
abbrev cX1_loadedMoment : ByteArray := prog_3_method_26_code
def yX1_loadedMoment : MethodName := ⟨RX1, "loadedMoment", "()J"⟩
abbrev cX1_leanAt : ByteArray := prog_3_method_27_code
def yX1_leanAt : MethodName := ⟨RX1, "leanAt", "(III)J"⟩
abbrev cX1_pushedInAll : ByteArray := prog_3_method_28_code
def yX1_pushedInAll : MethodName := ⟨RX1, "pushedInAll", "(I)I"⟩
abbrev cX1_pushedInHold : ByteArray := prog_3_method_29_code
def yX1_pushedInHold : MethodName := ⟨RX1, "pushedInHold", "(II)I"⟩
abbrev cX1_loadHeaviestFirst : ByteArray := prog_3_method_30_code
def yX1_loadHeaviestFirst : MethodName := ⟨RX1, "loadHeaviestFirst", "(IJ)I"⟩
abbrev cX1_nearestPlace : ByteArray := prog_3_method_31_code
def yX1_nearestPlace : MethodName := ⟨RX1, "nearestPlace", "(IIJ)I"⟩
def RX2 : String := "TrimSheet$Flight"
def TX2 : u_T := fun k => match k with
  | 0 => ("TrimSheet$Flight", "tanks", "LTrimSheet$Tanks;", true)
  | 1 => ("TrimSheet$Flight", "limits", "LTrimSheet$Limits;", true)
  | 2 => ("TrimSheet$Flight", "fullWeight", "I", false)
  | _ => ("TrimSheet$Flight", "dryMoment", "J", false)
def tyX2 : Nat → FieldType := fun k => match k with
  | 0 => .object "TrimSheet$Tanks"
  | 1 => .object "TrimSheet$Limits"
  | 2 => .int
  | _ => .long
abbrev wsX20 : List Cond := u_ws RX2 TX2 4
theorem nmX2 : ∀ a, a < 4 → ∀ b, b < 4 → a ≠ b → (TX2 a).2.1 ≠ (TX2 b).2.1 := by decide +kernel
theorem tyX2_ok : ∀ k, k < 4 → parseFieldDescriptor (TX2 k).2.2.1 = some (tyX2 k) := by decide +kernel
abbrev cX2_init : ByteArray := prog_4_method_1_code
def yX2_init : MethodName := ⟨RX2, "<init>", "(LTrimSheet$Tanks;LTrimSheet$Limits;)V"⟩
abbrev cX2_firstWrong : ByteArray := prog_4_method_2_code
def yX2_firstWrong : MethodName := ⟨RX2, "firstWrong", "(IJI)I"⟩
abbrev cX2_firstOutside : ByteArray := prog_4_method_3_code
def yX2_firstOutside : MethodName := ⟨RX2, "firstOutside", "(III)I"⟩
abbrev cX2_firstWithoutRoom : ByteArray := prog_4_method_4_code
def yX2_firstWithoutRoom : MethodName := ⟨RX2, "firstWithoutRoom", "(IZII)I"⟩
abbrev cX2_room : ByteArray := prog_4_method_5_code
def yX2_room : MethodName := ⟨RX2, "room", "(IZI)J"⟩
abbrev cX2_isHollow : ByteArray := prog_4_method_6_code
def yX2_isHollow : MethodName := ⟨RX2, "isHollow", "(IZ)Z"⟩
abbrev cX2_bottom : ByteArray := prog_4_method_7_code
def yX2_bottom : MethodName := ⟨RX2, "bottom", "(IZII)I"⟩
def RX3 : String := "TrimSheet$Limits"
def TX3 : u_T := fun k => match k with
  | 0 => ("TrimSheet$Limits", "pointWeight", "[I", true)
  | 1 => ("TrimSheet$Limits", "least", "[I", true)
  | 2 => ("TrimSheet$Limits", "greatest", "[I", true)
  | _ => ("TrimSheet$Limits", "pointCount", "I", false)
def tyX3 : Nat → FieldType := fun k => match k with
  | 0 => .array .int
  | 1 => .array .int
  | 2 => .array .int
  | _ => .int
abbrev wsX30 : List Cond := u_ws RX3 TX3 4
theorem nmX3 : ∀ a, a < 4 → ∀ b, b < 4 → a ≠ b → (TX3 a).2.1 ≠ (TX3 b).2.1 := by decide +kernel
theorem tyX3_ok : ∀ k, k < 4 → parseFieldDescriptor (TX3 k).2.2.1 = some (tyX3 k) := by decide +kernel
abbrev cX3_init : ByteArray := prog_5_method_1_code
def yX3_init : MethodName := ⟨RX3, "<init>", "()V"⟩
abbrev cX3_lastWeight : ByteArray := prog_5_method_2_code
def yX3_lastWeight : MethodName := ⟨RX3, "lastWeight", "()I"⟩
abbrev cX3_addPoint : ByteArray := prog_5_method_3_code
def yX3_addPoint : MethodName := ⟨RX3, "addPoint", "(III)I"⟩
abbrev cX3_judge : ByteArray := prog_5_method_4_code
def yX3_judge : MethodName := ⟨RX3, "judge", "(IJ)I"⟩
abbrev cX3_spans : ByteArray := prog_5_method_5_code
def yX3_spans : MethodName := ⟨RX3, "spans", "(I)Z"⟩
abbrev cX3_lineAt : ByteArray := prog_5_method_6_code
def yX3_lineAt : MethodName := ⟨RX3, "lineAt", "(I)I"⟩
abbrev cX3_excess : ByteArray := prog_5_method_7_code
def yX3_excess : MethodName := ⟨RX3, "excess", "([IIIJ)J"⟩
abbrev cX3_rise : ByteArray := prog_5_method_8_code
def yX3_rise : MethodName := ⟨RX3, "rise", "([II)J"⟩
def RX4 : String := "TrimSheet$Search"
def TX4 : u_T := fun k => match k with
  | 0 => ("TrimSheet$Search", "cargo", "LTrimSheet$Cargo;", true)
  | 1 => ("TrimSheet$Search", "waiting", "[I", true)
  | 2 => ("TrimSheet$Search", "bestPlace", "[I", true)
  | 3 => ("TrimSheet$Search", "free", "[I", true)
  | 4 => ("TrimSheet$Search", "waitingCount", "I", false)
  | 5 => ("TrimSheet$Search", "freeCount", "I", false)
  | 6 => ("TrimSheet$Search", "arm", "I", false)
  | 7 => ("TrimSheet$Search", "hasWay", "Z", false)
  | 8 => ("TrimSheet$Search", "leastPushed", "I", false)
  | _ => ("TrimSheet$Search", "leastLean", "J", false)
def tyX4 : Nat → FieldType := fun k => match k with
  | 0 => .object "TrimSheet$Cargo"
  | 1 => .array .int
  | 2 => .array .int
  | 3 => .array .int
  | 4 => .int
  | 5 => .int
  | 6 => .int
  | 7 => .boolean
  | 8 => .int
  | _ => .long
abbrev wsX40 : List Cond := u_ws RX4 TX4 10
theorem nmX4 : ∀ a, a < 10 → ∀ b, b < 10 → a ≠ b → (TX4 a).2.1 ≠ (TX4 b).2.1 := by decide +kernel
theorem tyX4_ok : ∀ k, k < 10 → parseFieldDescriptor (TX4 k).2.2.1 = some (tyX4 k) := by decide +kernel
abbrev cX4_init : ByteArray := prog_6_method_1_code
def yX4_init : MethodName := ⟨RX4, "<init>", "(LTrimSheet$Cargo;)V"⟩
abbrev cX4_gather : ByteArray := prog_6_method_2_code
def yX4_gather : MethodName := ⟨RX4, "gather", "()Z"⟩
abbrev cX4_gatherWaiting : ByteArray := prog_6_method_3_code
def yX4_gatherWaiting : MethodName := ⟨RX4, "gatherWaiting", "()Z"⟩
abbrev cX4_gatherFree : ByteArray := prog_6_method_4_code
def yX4_gatherFree : MethodName := ⟨RX4, "gatherFree", "()Z"⟩
abbrev cX4_loadBest : ByteArray := prog_6_method_5_code
def yX4_loadBest : MethodName := ⟨RX4, "loadBest", "(IJ)I"⟩
abbrev cX4_tryAllFrom : ByteArray := prog_6_method_6_code
def yX4_tryAllFrom : MethodName := ⟨RX4, "tryAllFrom", "(IIJ)V"⟩
abbrev cX4_keepIfBetter : ByteArray := prog_6_method_7_code
def yX4_keepIfBetter : MethodName := ⟨RX4, "keepIfBetter", "(IJ)V"⟩
def RX5 : String := "TrimSheet$Swapper"
def TX5 : u_T := fun k => match k with
  | _ => ("TrimSheet$Swapper", "cargo", "LTrimSheet$Cargo;", true)
def tyX5 : Nat → FieldType := fun k => match k with
  | _ => .object "TrimSheet$Cargo"
abbrev wsX50 : List Cond := u_ws RX5 TX5 1
theorem nmX5 : ∀ a, a < 1 → ∀ b, b < 1 → a ≠ b → (TX5 a).2.1 ≠ (TX5 b).2.1 := by decide +kernel
theorem tyX5_ok : ∀ k, k < 1 → parseFieldDescriptor (TX5 k).2.2.1 = some (tyX5 k) := by decide +kernel
abbrev cX5_init : ByteArray := prog_7_method_1_code
def yX5_init : MethodName := ⟨RX5, "<init>", "(LTrimSheet$Cargo;)V"⟩
abbrev cX5_doFirstGoodSwap : ByteArray := prog_7_method_2_code
def yX5_doFirstGoodSwap : MethodName := ⟨RX5, "doFirstGoodSwap", "(J)Z"⟩
abbrev cX5_doFirstGoodSwapOf : ByteArray := prog_7_method_3_code
def yX5_doFirstGoodSwapOf : MethodName := ⟨RX5, "doFirstGoodSwapOf", "(IJ)Z"⟩
abbrev cX5_isNearerSwapped : ByteArray := prog_7_method_4_code
def yX5_isNearerSwapped : MethodName := ⟨RX5, "isNearerSwapped", "(IIJ)Z"⟩
abbrev cX5_swapIfBothFit : ByteArray := prog_7_method_5_code
def yX5_swapIfBothFit : MethodName := ⟨RX5, "swapIfBothFit", "(II)Z"⟩
abbrev cX5_doFirstGoodMove : ByteArray := prog_7_method_6_code
def yX5_doFirstGoodMove : MethodName := ⟨RX5, "doFirstGoodMove", "(IJ)Z"⟩
abbrev cX5_moveIfGood : ByteArray := prog_7_method_7_code
def yX5_moveIfGood : MethodName := ⟨RX5, "moveIfGood", "(IIJ)Z"⟩
abbrev cX5_firstGoodPlace : ByteArray := prog_7_method_8_code
def yX5_firstGoodPlace : MethodName := ⟨RX5, "firstGoodPlace", "(IIJJ)I"⟩
def RX6 : String := "TrimSheet$Tanks"
def TX6 : u_T := fun k => match k with
  | 0 => ("TrimSheet$Tanks", "arm", "[I", true)
  | 1 => ("TrimSheet$Tanks", "most", "[I", true)
  | 2 => ("TrimSheet$Tanks", "amount", "[I", true)
  | _ => ("TrimSheet$Tanks", "tankCount", "I", false)
def tyX6 : Nat → FieldType := fun k => match k with
  | 0 => .array .int
  | 1 => .array .int
  | 2 => .array .int
  | _ => .int
abbrev wsX60 : List Cond := u_ws RX6 TX6 4
theorem nmX6 : ∀ a, a < 4 → ∀ b, b < 4 → a ≠ b → (TX6 a).2.1 ≠ (TX6 b).2.1 := by decide +kernel
theorem tyX6_ok : ∀ k, k < 4 → parseFieldDescriptor (TX6 k).2.2.1 = some (tyX6 k) := by decide +kernel
abbrev cX6_init : ByteArray := prog_8_method_1_code
def yX6_init : MethodName := ⟨RX6, "<init>", "()V"⟩
abbrev cX6_addTank : ByteArray := prog_8_method_2_code
def yX6_addTank : MethodName := ⟨RX6, "addTank", "(II)I"⟩
abbrev cX6_totalAmount : ByteArray := prog_8_method_3_code
def yX6_totalAmount : MethodName := ⟨RX6, "totalAmount", "()I"⟩
abbrev cX6_momentLeft : ByteArray := prog_8_method_4_code
def yX6_momentLeft : MethodName := ⟨RX6, "momentLeft", "(I)J"⟩
abbrev cX6_nextDryMoment : ByteArray := prog_8_method_5_code
def yX6_nextDryMoment : MethodName := ⟨RX6, "nextDryMoment", "(I)I"⟩
def RX7 : String := "TrimSheet"
def TX7 : u_T := fun k => match k with
  | 0 => ("TrimSheet", "emptyWeight", "I", false)
  | 1 => ("TrimSheet", "emptyArm", "I", false)
  | 2 => ("TrimSheet", "cargo", "LTrimSheet$Cargo;", true)
  | 3 => ("TrimSheet", "cabin", "LTrimSheet$Cabin;", true)
  | 4 => ("TrimSheet", "tanks", "LTrimSheet$Tanks;", true)
  | 5 => ("TrimSheet", "dryLimits", "LTrimSheet$Limits;", true)
  | 6 => ("TrimSheet", "flyingLimits", "LTrimSheet$Limits;", true)
  | 7 => ("TrimSheet", "flight", "LTrimSheet$Flight;", true)
  | 8 => ("TrimSheet", "swapper", "LTrimSheet$Swapper;", true)
  | _ => ("TrimSheet", "search", "LTrimSheet$Search;", true)
def tyX7 : Nat → FieldType := fun k => match k with
  | 0 => .int
  | 1 => .int
  | 2 => .object "TrimSheet$Cargo"
  | 3 => .object "TrimSheet$Cabin"
  | 4 => .object "TrimSheet$Tanks"
  | 5 => .object "TrimSheet$Limits"
  | 6 => .object "TrimSheet$Limits"
  | 7 => .object "TrimSheet$Flight"
  | 8 => .object "TrimSheet$Swapper"
  | _ => .object "TrimSheet$Search"
abbrev wsX70 : List Cond := u_ws RX7 TX7 10
theorem nmX7 : ∀ a, a < 10 → ∀ b, b < 10 → a ≠ b → (TX7 a).2.1 ≠ (TX7 b).2.1 := by decide +kernel
theorem tyX7_ok : ∀ k, k < 10 → parseFieldDescriptor (TX7 k).2.2.1 = some (tyX7 k) := by decide +kernel
abbrev cX7_init : ByteArray := prog_1_method_1_code
def yX7_init : MethodName := ⟨RX7, "<init>", "()V"⟩
abbrev cX7_empty : ByteArray := prog_1_method_2_code
def yX7_empty : MethodName := ⟨RX7, "empty", "(II)I"⟩
abbrev cX7_hold : ByteArray := prog_1_method_3_code
def yX7_hold : MethodName := ⟨RX7, "hold", "(II)I"⟩
abbrev cX7_slot : ByteArray := prog_1_method_4_code
def yX7_slot : MethodName := ⟨RX7, "slot", "(III)I"⟩
abbrev cX7_apart : ByteArray := prog_1_method_5_code
def yX7_apart : MethodName := ⟨RX7, "apart", "(III)I"⟩
abbrev cX7_item : ByteArray := prog_1_method_6_code
def yX7_item : MethodName := ⟨RX7, "item", "(III)I"⟩
abbrev cX7_row : ByteArray := prog_1_method_7_code
def yX7_row : MethodName := ⟨RX7, "row", "(II)I"⟩
abbrev cX7_tank : ByteArray := prog_1_method_8_code
def yX7_tank : MethodName := ⟨RX7, "tank", "(II)I"⟩
abbrev cX7_person : ByteArray := prog_1_method_9_code
def yX7_person : MethodName := ⟨RX7, "person", "(I)I"⟩
abbrev cX7_seat : ByteArray := prog_1_method_10_code
def yX7_seat : MethodName := ⟨RX7, "seat", "(II)I"⟩
abbrev cX7_fuel : ByteArray := prog_1_method_11_code
def yX7_fuel : MethodName := ⟨RX7, "fuel", "(II)I"⟩
abbrev cX7_point : ByteArray := prog_1_method_12_code
def yX7_point : MethodName := ⟨RX7, "point", "(IIII)I"⟩
abbrev cX7_wipe : ByteArray := prog_1_method_13_code
def yX7_wipe : MethodName := ⟨RX7, "wipe", "(I)I"⟩
abbrev cX7_fits : ByteArray := prog_1_method_14_code
def yX7_fits : MethodName := ⟨RX7, "fits", "(III)I"⟩
abbrev cX7_load : ByteArray := prog_1_method_15_code
def yX7_load : MethodName := ⟨RX7, "load", "(III)I"⟩
abbrev cX7_unload : ByteArray := prog_1_method_16_code
def yX7_unload : MethodName := ⟨RX7, "unload", "(I)I"⟩
abbrev cX7_where : ByteArray := prog_1_method_17_code
def yX7_where : MethodName := ⟨RX7, "where", "(I)I"⟩
abbrev cX7_in : ByteArray := prog_1_method_18_code
def yX7_in : MethodName := ⟨RX7, "in", "(II)I"⟩
abbrev cX7_about : ByteArray := prog_1_method_19_code
def yX7_about : MethodName := ⟨RX7, "about", "(II)I"⟩
abbrev cX7_weight : ByteArray := prog_1_method_20_code
def yX7_weight : MethodName := ⟨RX7, "weight", "(I)I"⟩
abbrev cX7_moment : ByteArray := prog_1_method_21_code
def yX7_moment : MethodName := ⟨RX7, "moment", "(I)J"⟩
abbrev cX7_burnt : ByteArray := prog_1_method_22_code
def yX7_burnt : MethodName := ⟨RX7, "burnt", "(II)J"⟩
abbrev cX7_within : ByteArray := prog_1_method_23_code
def yX7_within : MethodName := ⟨RX7, "within", "(I)I"⟩
abbrev cX7_safe : ByteArray := prog_1_method_24_code
def yX7_safe : MethodName := ⟨RX7, "safe", "(I)I"⟩
abbrev cX7_wrong : ByteArray := prog_1_method_25_code
def yX7_wrong : MethodName := ⟨RX7, "wrong", "(I)I"⟩
abbrev cX7_pushed : ByteArray := prog_1_method_26_code
def yX7_pushed : MethodName := ⟨RX7, "pushed", "(I)I"⟩
abbrev cX7_arrive : ByteArray := prog_1_method_27_code
def yX7_arrive : MethodName := ⟨RX7, "arrive", "(I)I"⟩
abbrev cX7_loadAll : ByteArray := prog_1_method_28_code
def yX7_loadAll : MethodName := ⟨RX7, "loadAll", "(I)I"⟩
abbrev cX7_better : ByteArray := prog_1_method_29_code
def yX7_better : MethodName := ⟨RX7, "better", "(I)I"⟩
abbrev cX7_best : ByteArray := prog_1_method_30_code
def yX7_best : MethodName := ⟨RX7, "best", "(I)I"⟩
abbrev cX7_late : ByteArray := prog_1_method_31_code
def yX7_late : MethodName := ⟨RX7, "late", "(II)I"⟩
abbrev cX7_count : ByteArray := prog_1_method_32_code
def yX7_count : MethodName := ⟨RX7, "count", "(I)I"⟩
abbrev cX7_isFromTo : ByteArray := prog_1_method_33_code
def yX7_isFromTo : MethodName := ⟨RX7, "isFromTo", "(III)Z"⟩
abbrev cX7_isArm : ByteArray := prog_1_method_34_code
def yX7_isArm : MethodName := ⟨RX7, "isArm", "(I)Z"⟩
abbrev cX7_isBorne : ByteArray := prog_1_method_35_code
def yX7_isBorne : MethodName := ⟨RX7, "isBorne", "(I)Z"⟩
abbrev cX7_isKind : ByteArray := prog_1_method_36_code
def yX7_isKind : MethodName := ⟨RX7, "isKind", "(I)Z"⟩
abbrev cX7_isStop : ByteArray := prog_1_method_37_code
def yX7_isStop : MethodName := ⟨RX7, "isStop", "(I)Z"⟩
abbrev cX7_isPhase : ByteArray := prog_1_method_38_code
def yX7_isPhase : MethodName := ⟨RX7, "isPhase", "(I)Z"⟩
abbrev cX7_limitsOf : ByteArray := prog_1_method_39_code
def yX7_limitsOf : MethodName := ⟨RX7, "limitsOf", "(I)LTrimSheet$Limits;"⟩
abbrev cX7_dryWeight : ByteArray := prog_1_method_40_code
def yX7_dryWeight : MethodName := ⟨RX7, "dryWeight", "()I"⟩
abbrev cX7_dryMoment : ByteArray := prog_1_method_41_code
def yX7_dryMoment : MethodName := ⟨RX7, "dryMoment", "()J"⟩
abbrev cX7_lean : ByteArray := prog_1_method_42_code
def yX7_lean : MethodName := ⟨RX7, "lean", "(I)J"⟩
def RX8 : String := "TrimSheetModel"
def TX8 : u_T := fun k => match k with
  | 0 => ("TrimSheetModel", "thrown", "I", false)
  | 1 => ("TrimSheetModel", "emptyWeight", "I", false)
  | 2 => ("TrimSheetModel", "emptyArm", "I", false)
  | 3 => ("TrimSheetModel", "holds", "I", false)
  | 4 => ("TrimSheetModel", "holdMost", "[I", true)
  | 5 => ("TrimSheetModel", "floor", "[I", true)
  | 6 => ("TrimSheetModel", "slots", "[I", true)
  | 7 => ("TrimSheetModel", "slotArm", "[I", true)
  | 8 => ("TrimSheetModel", "slotMost", "[I", true)
  | 9 => ("TrimSheetModel", "lies", "[I", true)
  | 10 => ("TrimSheetModel", "apart", "[I", true)
  | 11 => ("TrimSheetModel", "items", "I", false)
  | 12 => ("TrimSheetModel", "weight", "[I", true)
  | 13 => ("TrimSheetModel", "kind", "[I", true)
  | 14 => ("TrimSheetModel", "stop", "[I", true)
  | 15 => ("TrimSheetModel", "place", "[I", true)
  | 16 => ("TrimSheetModel", "rows", "I", false)
  | 17 => ("TrimSheetModel", "rowArm", "[I", true)
  | 18 => ("TrimSheetModel", "seats", "[I", true)
  | 19 => ("TrimSheetModel", "taken", "[I", true)
  | 20 => ("TrimSheetModel", "tanks", "I", false)
  | 21 => ("TrimSheetModel", "tankArm", "[I", true)
  | 22 => ("TrimSheetModel", "tankMost", "[I", true)
  | 23 => ("TrimSheetModel", "fuel", "[I", true)
  | 24 => ("TrimSheetModel", "person", "I", false)
  | 25 => ("TrimSheetModel", "points", "[I", true)
  | 26 => ("TrimSheetModel", "pointWeight", "[I", true)
  | 27 => ("TrimSheetModel", "pointLeast", "[I", true)
  | 28 => ("TrimSheetModel", "pointGreatest", "[I", true)
  | 29 => ("TrimSheetModel", "up", "J", false)
  | 30 => ("TrimSheetModel", "down", "I", false)
  | 31 => ("TrimSheetModel", "tried", "[Z", true)
  | 32 => ("TrimSheetModel", "wasUp", "J", false)
  | 33 => ("TrimSheetModel", "wasDown", "I", false)
  | 34 => ("TrimSheetModel", "few", "[I", true)
  | 35 => ("TrimSheetModel", "fews", "I", false)
  | 36 => ("TrimSheetModel", "bestAt", "[I", true)
  | 37 => ("TrimSheetModel", "bestPushed", "I", false)
  | _ => ("TrimSheetModel", "bestUp", "J", false)
def tyX8 : Nat → FieldType := fun k => match k with
  | 0 => .int
  | 1 => .int
  | 2 => .int
  | 3 => .int
  | 4 => .array .int
  | 5 => .array .int
  | 6 => .array .int
  | 7 => .array .int
  | 8 => .array .int
  | 9 => .array .int
  | 10 => .array .int
  | 11 => .int
  | 12 => .array .int
  | 13 => .array .int
  | 14 => .array .int
  | 15 => .array .int
  | 16 => .int
  | 17 => .array .int
  | 18 => .array .int
  | 19 => .array .int
  | 20 => .int
  | 21 => .array .int
  | 22 => .array .int
  | 23 => .array .int
  | 24 => .int
  | 25 => .array .int
  | 26 => .array .int
  | 27 => .array .int
  | 28 => .array .int
  | 29 => .long
  | 30 => .int
  | 31 => .array .boolean
  | 32 => .long
  | 33 => .int
  | 34 => .array .int
  | 35 => .int
  | 36 => .array .int
  | 37 => .int
  | _ => .long
abbrev wsX80 : List Cond := u_ws RX8 TX8 39
theorem nmX8 : ∀ a, a < 39 → ∀ b, b < 39 → a ≠ b → (TX8 a).2.1 ≠ (TX8 b).2.1 := by decide +kernel
theorem tyX8_ok : ∀ k, k < 39 → parseFieldDescriptor (TX8 k).2.2.1 = some (tyX8 k) := by decide +kernel
abbrev cX8_isIn : ByteArray := prog_10_method_2_code
def yX8_isIn : MethodName := ⟨RX8, "isIn", "(III)Z"⟩
abbrev cX8_init : ByteArray := prog_10_method_3_code
def yX8_init : MethodName := ⟨RX8, "<init>", "()V"⟩
abbrev cX8_isArm : ByteArray := prog_10_method_4_code
def yX8_isArm : MethodName := ⟨RX8, "isArm", "(I)Z"⟩
abbrev cX8_isHold : ByteArray := prog_10_method_5_code
def yX8_isHold : MethodName := ⟨RX8, "isHold", "(I)Z"⟩
abbrev cX8_isSlot : ByteArray := prog_10_method_6_code
def yX8_isSlot : MethodName := ⟨RX8, "isSlot", "(II)Z"⟩
abbrev cX8_isItem : ByteArray := prog_10_method_7_code
def yX8_isItem : MethodName := ⟨RX8, "isItem", "(I)Z"⟩
abbrev cX8_empty : ByteArray := prog_10_method_8_code
def yX8_empty : MethodName := ⟨RX8, "empty", "(II)I"⟩
abbrev cX8_hold : ByteArray := prog_10_method_9_code
def yX8_hold : MethodName := ⟨RX8, "hold", "(II)I"⟩
abbrev cX8_slot : ByteArray := prog_10_method_10_code
def yX8_slot : MethodName := ⟨RX8, "slot", "(III)I"⟩
abbrev cX8_apart : ByteArray := prog_10_method_11_code
def yX8_apart : MethodName := ⟨RX8, "apart", "(III)I"⟩
abbrev cX8_item : ByteArray := prog_10_method_12_code
def yX8_item : MethodName := ⟨RX8, "item", "(III)I"⟩
abbrev cX8_row : ByteArray := prog_10_method_13_code
def yX8_row : MethodName := ⟨RX8, "row", "(II)I"⟩
abbrev cX8_tank : ByteArray := prog_10_method_14_code
def yX8_tank : MethodName := ⟨RX8, "tank", "(II)I"⟩
abbrev cX8_person : ByteArray := prog_10_method_15_code
def yX8_person : MethodName := ⟨RX8, "person", "(I)I"⟩
abbrev cX8_seat : ByteArray := prog_10_method_16_code
def yX8_seat : MethodName := ⟨RX8, "seat", "(II)I"⟩
abbrev cX8_fuel : ByteArray := prog_10_method_17_code
def yX8_fuel : MethodName := ⟨RX8, "fuel", "(II)I"⟩
abbrev cX8_point : ByteArray := prog_10_method_18_code
def yX8_point : MethodName := ⟨RX8, "point", "(IIII)I"⟩
abbrev cX8_wipe : ByteArray := prog_10_method_19_code
def yX8_wipe : MethodName := ⟨RX8, "wipe", "(I)I"⟩
abbrev cX8_weightAt : ByteArray := prog_10_method_20_code
def yX8_weightAt : MethodName := ⟨RX8, "weightAt", "(I)I"⟩
abbrev cX8_weightOf : ByteArray := prog_10_method_21_code
def yX8_weightOf : MethodName := ⟨RX8, "weightOf", "(I)I"⟩
abbrev cX8_fitsAt : ByteArray := prog_10_method_22_code
def yX8_fitsAt : MethodName := ⟨RX8, "fitsAt", "(II)I"⟩
abbrev cX8_put : ByteArray := prog_10_method_23_code
def yX8_put : MethodName := ⟨RX8, "put", "(II)V"⟩
abbrev cX8_take : ByteArray := prog_10_method_24_code
def yX8_take : MethodName := ⟨RX8, "take", "(I)V"⟩
abbrev cX8_fits : ByteArray := prog_10_method_25_code
def yX8_fits : MethodName := ⟨RX8, "fits", "(III)I"⟩
abbrev cX8_load : ByteArray := prog_10_method_26_code
def yX8_load : MethodName := ⟨RX8, "load", "(III)I"⟩
abbrev cX8_unload : ByteArray := prog_10_method_27_code
def yX8_unload : MethodName := ⟨RX8, "unload", "(I)I"⟩
abbrev cX8_where : ByteArray := prog_10_method_28_code
def yX8_where : MethodName := ⟨RX8, "where", "(I)I"⟩
abbrev cX8_in : ByteArray := prog_10_method_29_code
def yX8_in : MethodName := ⟨RX8, "in", "(II)I"⟩
abbrev cX8_about : ByteArray := prog_10_method_30_code
def yX8_about : MethodName := ⟨RX8, "about", "(II)I"⟩
abbrev cX8_dryWeight : ByteArray := prog_10_method_31_code
def yX8_dryWeight : MethodName := ⟨RX8, "dryWeight", "()I"⟩
abbrev cX8_dryMoment : ByteArray := prog_10_method_32_code
def yX8_dryMoment : MethodName := ⟨RX8, "dryMoment", "()J"⟩
abbrev cX8_allFuel : ByteArray := prog_10_method_33_code
def yX8_allFuel : MethodName := ⟨RX8, "allFuel", "()I"⟩
abbrev cX8_fuelMoment : ByteArray := prog_10_method_34_code
def yX8_fuelMoment : MethodName := ⟨RX8, "fuelMoment", "(I)J"⟩
abbrev cX8_weight : ByteArray := prog_10_method_35_code
def yX8_weight : MethodName := ⟨RX8, "weight", "(I)I"⟩
abbrev cX8_moment : ByteArray := prog_10_method_36_code
def yX8_moment : MethodName := ⟨RX8, "moment", "(I)J"⟩
abbrev cX8_burnt : ByteArray := prog_10_method_37_code
def yX8_burnt : MethodName := ⟨RX8, "burnt", "(II)J"⟩
abbrev cX8_lies : ByteArray := prog_10_method_38_code
def yX8_lies : MethodName := ⟨RX8, "lies", "(IJJ)I"⟩
abbrev cX8_within : ByteArray := prog_10_method_39_code
def yX8_within : MethodName := ⟨RX8, "within", "(I)I"⟩
abbrev cX8_firstWrong : ByteArray := prog_10_method_40_code
def yX8_firstWrong : MethodName := ⟨RX8, "firstWrong", "(I)I"⟩
abbrev cX8_safe : ByteArray := prog_10_method_41_code
def yX8_safe : MethodName := ⟨RX8, "safe", "(I)I"⟩
abbrev cX8_wrong : ByteArray := prog_10_method_42_code
def yX8_wrong : MethodName := ⟨RX8, "wrong", "(I)I"⟩
abbrev cX8_pushedAt : ByteArray := prog_10_method_43_code
def yX8_pushedAt : MethodName := ⟨RX8, "pushedAt", "(I)I"⟩
abbrev cX8_pushedAll : ByteArray := prog_10_method_44_code
def yX8_pushedAll : MethodName := ⟨RX8, "pushedAll", "()I"⟩
abbrev cX8_pushed : ByteArray := prog_10_method_45_code
def yX8_pushed : MethodName := ⟨RX8, "pushed", "(I)I"⟩
abbrev cX8_arrive : ByteArray := prog_10_method_46_code
def yX8_arrive : MethodName := ⟨RX8, "arrive", "(I)I"⟩
abbrev cX8_far : ByteArray := prog_10_method_47_code
def yX8_far : MethodName := ⟨RX8, "far", "(IIJ)V"⟩
abbrev cX8_isNearer : ByteArray := prog_10_method_48_code
def yX8_isNearer : MethodName := ⟨RX8, "isNearer", "(JIJI)Z"⟩
abbrev cX8_placeFor : ByteArray := prog_10_method_49_code
def yX8_placeFor : MethodName := ⟨RX8, "placeFor", "(II)I"⟩
abbrev cX8_loadAll : ByteArray := prog_10_method_50_code
def yX8_loadAll : MethodName := ⟨RX8, "loadAll", "(I)I"⟩
abbrev cX8_isBetter : ByteArray := prog_10_method_51_code
def yX8_isBetter : MethodName := ⟨RX8, "isBetter", "(I)Z"⟩
abbrev cX8_swaps : ByteArray := prog_10_method_52_code
def yX8_swaps : MethodName := ⟨RX8, "swaps", "(III)Z"⟩
abbrev cX8_moves : ByteArray := prog_10_method_53_code
def yX8_moves : MethodName := ⟨RX8, "moves", "(III)Z"⟩
abbrev cX8_betters : ByteArray := prog_10_method_54_code
def yX8_betters : MethodName := ⟨RX8, "betters", "(I)Z"⟩
abbrev cX8_better : ByteArray := prog_10_method_55_code
def yX8_better : MethodName := ⟨RX8, "better", "(I)I"⟩
abbrev cX8_tries : ByteArray := prog_10_method_56_code
def yX8_tries : MethodName := ⟨RX8, "tries", "(II)V"⟩
abbrev cX8_best : ByteArray := prog_10_method_57_code
def yX8_best : MethodName := ⟨RX8, "best", "(I)I"⟩
abbrev cX8_late : ByteArray := prog_10_method_58_code
def yX8_late : MethodName := ⟨RX8, "late", "(II)I"⟩
abbrev cX8_count : ByteArray := prog_10_method_59_code
def yX8_count : MethodName := ⟨RX8, "count", "(I)I"⟩
def RJ6 : String := "java/lang/Integer"
def TJ6 : u_T := fun k => match k with
  | _ => ("", "", "", false)
def tyJ6 : Nat → FieldType := fun k => match k with
  | _ => .int
abbrev wsJ60 : List Cond := u_ws RJ6 TJ6 0
theorem nmJ6 : ∀ a, a < 0 → ∀ b, b < 0 → a ≠ b → (TJ6 a).2.1 ≠ (TJ6 b).2.1 := by decide +kernel
theorem tyJ6_ok : ∀ k, k < 0 → parseFieldDescriptor (TJ6 k).2.2.1 = some (tyJ6 k) := by decide +kernel
abbrev cJ6_bitCount_0f7a4 : ByteArray := prog_11_method_49_code
def yJ6_bitCount_0f7a4 : MethodName := ⟨RJ6, "bitCount", "(I)I"⟩
def RJ9 : String := "java/lang/Math"
def TJ9 : u_T := fun k => match k with
  | _ => ("", "", "", false)
def tyJ9 : Nat → FieldType := fun k => match k with
  | _ => .int
abbrev wsJ90 : List Cond := u_ws RJ9 TJ9 0
theorem nmJ9 : ∀ a, a < 0 → ∀ b, b < 0 → a ≠ b → (TJ9 a).2.1 ≠ (TJ9 b).2.1 := by decide +kernel
theorem tyJ9_ok : ∀ k, k < 0 → parseFieldDescriptor (TJ9 k).2.2.1 = some (tyJ9 k) := by decide +kernel
abbrev cJ9_abs_0f7a4 : ByteArray := prog_12_method_59_code
def yJ9_abs_0f7a4 : MethodName := ⟨RJ9, "abs", "(I)I"⟩
abbrev cJ9_abs_067f4 : ByteArray := prog_12_method_61_code
def yJ9_abs_067f4 : MethodName := ⟨RJ9, "abs", "(J)J"⟩
abbrev cJ9_max_7cf53 : ByteArray := prog_12_method_65_code
def yJ9_max_7cf53 : MethodName := ⟨RJ9, "max", "(II)I"⟩
abbrev cJ9_min_7cf53 : ByteArray := prog_12_method_69_code
def yJ9_min_7cf53 : MethodName := ⟨RJ9, "min", "(II)I"⟩
def RJ7 : String := "java/util/Arrays"
def TJ7 : u_T := fun k => match k with
  | _ => ("", "", "", false)
def tyJ7 : Nat → FieldType := fun k => match k with
  | _ => .int
abbrev wsJ70 : List Cond := u_ws RJ7 TJ7 0
theorem nmJ7 : ∀ a, a < 0 → ∀ b, b < 0 → a ≠ b → (TJ7 a).2.1 ≠ (TJ7 b).2.1 := by decide +kernel
theorem tyJ7_ok : ∀ k, k < 0 → parseFieldDescriptor (TJ7 k).2.2.1 = some (tyJ7 k) := by decide +kernel
abbrev cJ7_fill_53178 : ByteArray := prog_13_method_103_code
def yJ7_fill_53178 : MethodName := ⟨RJ7, "fill", "([II)V"⟩
def RL : String := "TrimSheetLaw"
abbrev cL_law : ByteArray := code
def yL_law : MethodName := ⟨RL, "law", "([I)Z"⟩
abbrev vwCl : List vw_C := [(RX0, TX0, 5), (RX1, TX1, 14), (RX2, TX2, 4), (RX3, TX3, 4), (RX4, TX4, 10), (RX5, TX5, 1), (RX6, TX6, 4), (RX7, TX7, 10), (RX8, TX8, 39)]
end
section
/-- the words of the tables that stay good in every call -/
def T0 : List Cond := lw_tbl.filter goodWord
theorem T0_in {w : Cond} (h : w ∈ lw_tbl) (g : goodWord w = true) : w ∈ T0 := List.mem_filter.mpr ⟨h, g⟩
theorem T0_good : GoodIn T0 T0 := fun w h => ⟨h, good_of_word (List.mem_filter.mp h).2⟩
theorem T0_of {args : Array Value} {s : State} (h : ∀ w ∈ lw_tbl, w.before args s = true) : ∀ w ∈ T0, w.before args s = true := fun w q => h w (List.mem_filter.mp q).1
theorem T0_s {w : Cond} (n : Nat) (h : (k2_sels lw_privs)[n]? = some w) (g : goodWord w = true) : w ∈ T0 := T0_in (List.mem_append_left _ (List.mem_of_getElem? h)) g
theorem T0_1 {w : Cond} (n : Nat) (h : tables_1_1[n]? = some w) (g : goodWord w = true) : w ∈ T0 := T0_in (List.mem_append_right _ (List.mem_append_left _ (List.mem_of_getElem? h))) g
theorem T0_2 {w : Cond} (n : Nat) (h : tables_1_2[n]? = some w) (g : goodWord w = true) : w ∈ T0 := T0_in (List.mem_append_right _ (List.mem_append_right _ (List.mem_append_left _ (List.mem_of_getElem? h)))) g
theorem T0_3 {w : Cond} (n : Nat) (h : tables_1_3[n]? = some w) (g : goodWord w = true) : w ∈ T0 := T0_in (List.mem_append_right _ (List.mem_append_right _ (List.mem_append_right _ (List.mem_append_left _ (List.mem_of_getElem? h))))) g
theorem T0_4 {w : Cond} (n : Nat) (h : tables_1_4[n]? = some w) (g : goodWord w = true) : w ∈ T0 := T0_in (List.mem_append_right _ (List.mem_append_right _ (List.mem_append_right _ (List.mem_append_right _ (List.mem_append_left _ (List.mem_of_getElem? h)))))) g
theorem T0_5 {w : Cond} (n : Nat) (h : tables_1_5[n]? = some w) (g : goodWord w = true) : w ∈ T0 := T0_in (List.mem_append_right _ (List.mem_append_right _ (List.mem_append_right _ (List.mem_append_right _ (List.mem_append_right _ (List.mem_of_getElem? h)))))) g

theorem mm_1_0 : Cond.initialized RL ∈ T0 := T0_1 0 (by decide +kernel) rfl
theorem mm_1_1 : Cond.initialized RX7 ∈ T0 := T0_1 1 (by decide +kernel) rfl
theorem mm_1_2 : Cond.initialized RX1 ∈ T0 := T0_1 2 (by decide +kernel) rfl
theorem mm_1_3 : Cond.initialized RJ7 ∈ T0 := T0_1 3 (by decide +kernel) rfl
theorem mm_1_4 : Cond.initialized RX0 ∈ T0 := T0_1 4 (by decide +kernel) rfl
theorem mm_1_5 : Cond.initialized RX6 ∈ T0 := T0_1 5 (by decide +kernel) rfl
theorem mm_1_6 : Cond.initialized RX3 ∈ T0 := T0_1 6 (by decide +kernel) rfl
theorem mm_1_7 : Cond.initialized RX2 ∈ T0 := T0_1 7 (by decide +kernel) rfl
theorem mm_1_8 : Cond.initialized RX5 ∈ T0 := T0_1 8 (by decide +kernel) rfl
theorem mm_1_9 : Cond.initialized RX4 ∈ T0 := T0_1 9 (by decide +kernel) rfl
theorem mm_1_10 : Cond.initialized RX8 ∈ T0 := T0_1 10 (by decide +kernel) rfl
theorem mm_1_11 : Cond.initialized RJ9 ∈ T0 := T0_1 11 (by decide +kernel) rfl
theorem mm_1_12 : Cond.initialized RJ6 ∈ T0 := T0_1 12 (by decide +kernel) rfl
theorem mm_1_13 : Cond.classLink RL 7 RX7 ∈ T0 := T0_1 13 (by decide +kernel) rfl
theorem mm_1_14 : Cond.instantiable RX7 10 ∈ T0 := T0_1 14 (by decide +kernel) rfl
theorem mm_1_15 : Cond.methodLink RL 9 yX7_init ∈ T0 := T0_1 15 (by decide +kernel) rfl
theorem mm_1_16 : Cond.instanceMethod yX7_init ∈ T0 := T0_1 16 (by decide +kernel) rfl
theorem mm_1_17 : Cond.code yX7_init prog_1_method_1_code 1 none ∈ T0 := T0_1 17 rfl rfl
theorem mm_1_18 : Cond.methodLink RX7 3 objectInit ∈ T0 := T0_1 18 (by decide +kernel) rfl
theorem mm_1_19 : Cond.instanceMethod objectInit ∈ T0 := T0_1 19 (by decide +kernel) rfl
theorem mm_1_20 : Cond.code objectInit object_method_1_code 1 none ∈ T0 := T0_1 20 rfl rfl
theorem mm_1_21 : Cond.classLink RX7 18 RX1 ∈ T0 := T0_1 21 (by decide +kernel) rfl
theorem mm_1_22 : Cond.instantiable RX1 14 ∈ T0 := T0_1 22 (by decide +kernel) rfl
theorem mm_1_23 : Cond.methodLink RX7 20 yX1_init ∈ T0 := T0_1 23 (by decide +kernel) rfl
theorem mm_1_24 : Cond.instanceMethod yX1_init ∈ T0 := T0_1 24 (by decide +kernel) rfl
theorem mm_1_25 : Cond.code yX1_init prog_3_method_1_code 1 none ∈ T0 := T0_1 25 rfl rfl
theorem mm_1_26 : Cond.methodLink RX1 3 objectInit ∈ T0 := T0_1 26 (by decide +kernel) rfl
theorem mm_1_27 : Cond.methodLink RX1 55 yJ7_fill_53178 ∈ T0 := T0_1 27 (by decide +kernel) rfl
theorem mm_1_28 : Cond.static yJ7_fill_53178 ∈ T0 := T0_1 28 (by decide +kernel) rfl
theorem mm_1_29 : Cond.code yJ7_fill_53178 prog_13_method_103_code 4 none ∈ T0 := T0_1 29 rfl rfl
theorem mm_1_30 : Cond.fieldLink RX1 11 "TrimSheet$Cargo" "holdMost" "[I" ∈ T0 := T0_1 30 (by decide +kernel) rfl
theorem mm_1_31 : Cond.fieldLink RX1 15 "TrimSheet$Cargo" "holdFloor" "[I" ∈ T0 := T0_1 31 (by decide +kernel) rfl
theorem mm_1_32 : Cond.fieldLink RX1 18 "TrimSheet$Cargo" "slotCount" "[I" ∈ T0 := T0_1 32 (by decide +kernel) rfl
theorem mm_1_33 : Cond.fieldLink RX4 65 "TrimSheet$Cargo" "slotCount" "[I" ∈ T0 := T0_1 33 (by decide +kernel) rfl
theorem mm_1_34 : Cond.fieldLink RX5 79 "TrimSheet$Cargo" "slotCount" "[I" ∈ T0 := T0_1 34 (by decide +kernel) rfl
theorem mm_1_35 : Cond.fieldLink RX1 21 "TrimSheet$Cargo" "holdCount" "I" ∈ T0 := T0_1 35 (by decide +kernel) rfl
theorem mm_1_36 : Cond.fieldLink RX4 62 "TrimSheet$Cargo" "holdCount" "I" ∈ T0 := T0_1 36 (by decide +kernel) rfl
theorem mm_1_37 : Cond.fieldLink RX5 76 "TrimSheet$Cargo" "holdCount" "I" ∈ T0 := T0_1 37 (by decide +kernel) rfl
theorem mm_1_38 : Cond.fieldLink RX7 262 "TrimSheet$Cargo" "holdCount" "I" ∈ T0 := T0_1 38 (by decide +kernel) rfl
theorem mm_1_39 : Cond.fieldLink RX1 25 "TrimSheet$Cargo" "slotArm" "[I" ∈ T0 := T0_1 39 (by decide +kernel) rfl
theorem mm_1_40 : Cond.fieldLink RX5 37 "TrimSheet$Cargo" "slotArm" "[I" ∈ T0 := T0_1 40 (by decide +kernel) rfl
theorem mm_1_41 : Cond.fieldLink RX1 28 "TrimSheet$Cargo" "slotMost" "[I" ∈ T0 := T0_1 41 (by decide +kernel) rfl
theorem mm_1_42 : Cond.fieldLink RX1 31 "TrimSheet$Cargo" "itemAt" "[I" ∈ T0 := T0_1 42 (by decide +kernel) rfl
theorem mm_1_43 : Cond.fieldLink RX4 72 "TrimSheet$Cargo" "itemAt" "[I" ∈ T0 := T0_1 43 (by decide +kernel) rfl
theorem mm_1_44 : Cond.fieldLink RX7 189 "TrimSheet$Cargo" "itemAt" "[I" ∈ T0 := T0_1 44 (by decide +kernel) rfl
theorem mm_1_45 : Cond.fieldLink RX1 34 "TrimSheet$Cargo" "itemWeight" "[I" ∈ T0 := T0_1 45 (by decide +kernel) rfl
theorem mm_1_46 : Cond.fieldLink RX5 44 "TrimSheet$Cargo" "itemWeight" "[I" ∈ T0 := T0_1 46 (by decide +kernel) rfl
theorem mm_1_47 : Cond.fieldLink RX1 37 "TrimSheet$Cargo" "itemKind" "[I" ∈ T0 := T0_1 47 (by decide +kernel) rfl
theorem mm_1_48 : Cond.fieldLink RX1 40 "TrimSheet$Cargo" "itemStop" "[I" ∈ T0 := T0_1 48 (by decide +kernel) rfl
theorem mm_1_49 : Cond.fieldLink RX1 43 "TrimSheet$Cargo" "placeOfItem" "[I" ∈ T0 := T0_1 49 (by decide +kernel) rfl
theorem mm_1_50 : Cond.fieldLink RX5 41 "TrimSheet$Cargo" "placeOfItem" "[I" ∈ T0 := T0_1 50 (by decide +kernel) rfl
theorem mm_1_51 : Cond.fieldLink RX4 111 "TrimSheet$Cargo" "placeOfItem" "[I" ∈ T0 := T0_1 51 (by decide +kernel) rfl
theorem mm_1_52 : Cond.fieldLink RX7 186 "TrimSheet$Cargo" "placeOfItem" "[I" ∈ T0 := T0_1 52 (by decide +kernel) rfl
theorem mm_1_53 : Cond.fieldLink RX1 46 "TrimSheet$Cargo" "heaviestFirst" "[I" ∈ T0 := T0_1 53 (by decide +kernel) rfl
theorem mm_1_54 : Cond.fieldLink RX1 49 "TrimSheet$Cargo" "itemCount" "I" ∈ T0 := T0_1 54 (by decide +kernel) rfl
theorem mm_1_55 : Cond.fieldLink RX5 15 "TrimSheet$Cargo" "itemCount" "I" ∈ T0 := T0_1 55 (by decide +kernel) rfl
theorem mm_1_56 : Cond.fieldLink RX4 53 "TrimSheet$Cargo" "itemCount" "I" ∈ T0 := T0_1 56 (by decide +kernel) rfl
theorem mm_1_57 : Cond.fieldLink RX7 268 "TrimSheet$Cargo" "itemCount" "I" ∈ T0 := T0_1 57 (by decide +kernel) rfl
theorem mm_1_58 : Cond.fieldLink RX1 52 "TrimSheet$Cargo" "distance" "[I" ∈ T0 := T0_1 58 (by decide +kernel) rfl
theorem mm_1_88 : Cond.arrayClass Jvm.ClassFile.FieldType.int ∈ T0 := T0_1 88 (by decide +kernel) rfl
theorem mm_1_89 : Cond.classLink RX7 25 RX0 ∈ T0 := T0_1 89 (by decide +kernel) rfl
theorem mm_1_90 : Cond.instantiable RX0 5 ∈ T0 := T0_1 90 (by decide +kernel) rfl
theorem mm_1_92 : Cond.instanceMethod yX0_init ∈ T0 := T0_1 92 (by decide +kernel) rfl
theorem mm_1_93 : Cond.code yX0_init prog_2_method_1_code 1 none ∈ T0 := T0_1 93 rfl rfl
theorem mm_1_94 : Cond.methodLink RX0 3 objectInit ∈ T0 := T0_1 94 (by decide +kernel) rfl
theorem mm_1_95 : Cond.fieldLink RX0 11 "TrimSheet$Cabin" "arm" "[I" ∈ T0 := T0_1 95 (by decide +kernel) rfl
theorem mm_1_96 : Cond.fieldLink RX0 15 "TrimSheet$Cabin" "seats" "[I" ∈ T0 := T0_1 96 (by decide +kernel) rfl
theorem mm_1_97 : Cond.fieldLink RX7 125 "TrimSheet$Cabin" "seats" "[I" ∈ T0 := T0_1 97 (by decide +kernel) rfl
theorem mm_1_98 : Cond.fieldLink RX0 18 "TrimSheet$Cabin" "taken" "[I" ∈ T0 := T0_1 98 (by decide +kernel) rfl
theorem mm_1_99 : Cond.fieldLink RX7 129 "TrimSheet$Cabin" "taken" "[I" ∈ T0 := T0_1 99 (by decide +kernel) rfl
theorem mm_1_100 : Cond.fieldLink RX0 21 "TrimSheet$Cabin" "rowCount" "I" ∈ T0 := T0_1 100 (by decide +kernel) rfl
theorem mm_1_101 : Cond.fieldLink RX7 122 "TrimSheet$Cabin" "rowCount" "I" ∈ T0 := T0_1 101 (by decide +kernel) rfl
theorem mm_1_102 : Cond.fieldLink RX0 25 "TrimSheet$Cabin" "personWeight" "I" ∈ T0 := T0_1 102 (by decide +kernel) rfl
theorem mm_1_103 : Cond.fieldLink RX7 119 "TrimSheet$Cabin" "personWeight" "I" ∈ T0 := T0_1 103 (by decide +kernel) rfl
theorem mm_1_115 : Cond.classLink RX7 32 RX6 ∈ T0 := T0_1 115 (by decide +kernel) rfl
theorem mm_1_116 : Cond.instantiable RX6 4 ∈ T0 := T0_1 116 (by decide +kernel) rfl
theorem mm_1_118 : Cond.instanceMethod yX6_init ∈ T0 := T0_1 118 (by decide +kernel) rfl
theorem mm_1_119 : Cond.code yX6_init prog_8_method_1_code 1 none ∈ T0 := T0_1 119 rfl rfl
theorem mm_1_120 : Cond.methodLink RX6 3 objectInit ∈ T0 := T0_1 120 (by decide +kernel) rfl
theorem mm_1_121 : Cond.fieldLink RX6 11 "TrimSheet$Tanks" "arm" "[I" ∈ T0 := T0_1 121 (by decide +kernel) rfl
theorem mm_1_122 : Cond.fieldLink RX6 15 "TrimSheet$Tanks" "most" "[I" ∈ T0 := T0_1 122 (by decide +kernel) rfl
theorem mm_1_123 : Cond.fieldLink RX7 135 "TrimSheet$Tanks" "most" "[I" ∈ T0 := T0_1 123 (by decide +kernel) rfl
theorem mm_1_124 : Cond.fieldLink RX6 18 "TrimSheet$Tanks" "amount" "[I" ∈ T0 := T0_1 124 (by decide +kernel) rfl
theorem mm_1_125 : Cond.fieldLink RX7 138 "TrimSheet$Tanks" "amount" "[I" ∈ T0 := T0_1 125 (by decide +kernel) rfl
theorem mm_1_126 : Cond.fieldLink RX6 21 "TrimSheet$Tanks" "tankCount" "I" ∈ T0 := T0_1 126 (by decide +kernel) rfl
theorem mm_1_127 : Cond.fieldLink RX7 132 "TrimSheet$Tanks" "tankCount" "I" ∈ T0 := T0_1 127 (by decide +kernel) rfl
theorem mm_1_137 : Cond.classLink RX7 39 RX3 ∈ T0 := T0_1 137 (by decide +kernel) rfl
theorem mm_1_138 : Cond.instantiable RX3 4 ∈ T0 := T0_1 138 (by decide +kernel) rfl
theorem mm_1_140 : Cond.instanceMethod yX3_init ∈ T0 := T0_1 140 (by decide +kernel) rfl
theorem mm_1_141 : Cond.code yX3_init prog_5_method_1_code 1 none ∈ T0 := T0_1 141 rfl rfl
theorem mm_1_142 : Cond.methodLink RX3 3 objectInit ∈ T0 := T0_1 142 (by decide +kernel) rfl
theorem mm_1_143 : Cond.fieldLink RX3 11 "TrimSheet$Limits" "pointWeight" "[I" ∈ T0 := T0_1 143 (by decide +kernel) rfl
theorem mm_1_144 : Cond.fieldLink RX2 49 "TrimSheet$Limits" "pointWeight" "[I" ∈ T0 := T0_1 144 (by decide +kernel) rfl
theorem mm_1_145 : Cond.fieldLink RX3 15 "TrimSheet$Limits" "least" "[I" ∈ T0 := T0_1 145 (by decide +kernel) rfl
theorem mm_1_146 : Cond.fieldLink RX2 79 "TrimSheet$Limits" "least" "[I" ∈ T0 := T0_1 146 (by decide +kernel) rfl
theorem mm_1_147 : Cond.fieldLink RX3 18 "TrimSheet$Limits" "greatest" "[I" ∈ T0 := T0_1 147 (by decide +kernel) rfl
theorem mm_1_148 : Cond.fieldLink RX2 86 "TrimSheet$Limits" "greatest" "[I" ∈ T0 := T0_1 148 (by decide +kernel) rfl
theorem mm_1_149 : Cond.fieldLink RX3 21 "TrimSheet$Limits" "pointCount" "I" ∈ T0 := T0_1 149 (by decide +kernel) rfl
theorem mm_1_150 : Cond.fieldLink RX7 156 "TrimSheet$Limits" "pointCount" "I" ∈ T0 := T0_1 150 (by decide +kernel) rfl
theorem mm_1_160 : Cond.classLink RX7 49 RX2 ∈ T0 := T0_1 160 (by decide +kernel) rfl
theorem mm_1_161 : Cond.instantiable RX2 4 ∈ T0 := T0_1 161 (by decide +kernel) rfl
theorem mm_1_162 : Cond.methodLink RX7 51 yX2_init ∈ T0 := T0_1 162 (by decide +kernel) rfl
theorem mm_1_163 : Cond.instanceMethod yX2_init ∈ T0 := T0_1 163 (by decide +kernel) rfl
theorem mm_1_164 : Cond.code yX2_init prog_4_method_1_code 3 none ∈ T0 := T0_1 164 rfl rfl
theorem mm_1_165 : Cond.methodLink RX2 3 objectInit ∈ T0 := T0_1 165 (by decide +kernel) rfl
theorem mm_1_166 : Cond.fieldLink RX2 19 "TrimSheet$Flight" "tanks" "LTrimSheet$Tanks;" ∈ T0 := T0_1 166 (by decide +kernel) rfl
theorem mm_1_167 : Cond.fieldLink RX2 23 "TrimSheet$Flight" "limits" "LTrimSheet$Limits;" ∈ T0 := T0_1 167 (by decide +kernel) rfl
theorem mm_1_168 : Cond.fieldLink RX2 9 "TrimSheet$Flight" "fullWeight" "I" ∈ T0 := T0_1 168 (by decide +kernel) rfl
theorem mm_1_169 : Cond.fieldLink RX2 15 "TrimSheet$Flight" "dryMoment" "J" ∈ T0 := T0_1 169 (by decide +kernel) rfl
theorem mm_1_179 : Cond.classLink RX7 58 RX5 ∈ T0 := T0_1 179 (by decide +kernel) rfl
theorem mm_1_180 : Cond.instantiable RX5 1 ∈ T0 := T0_1 180 (by decide +kernel) rfl
theorem mm_1_181 : Cond.methodLink RX7 60 yX5_init ∈ T0 := T0_1 181 (by decide +kernel) rfl
theorem mm_1_182 : Cond.instanceMethod yX5_init ∈ T0 := T0_1 182 (by decide +kernel) rfl
theorem mm_1_183 : Cond.code yX5_init prog_7_method_1_code 2 none ∈ T0 := T0_1 183 rfl rfl
theorem mm_1_184 : Cond.methodLink RX5 3 objectInit ∈ T0 := T0_1 184 (by decide +kernel) rfl
theorem mm_1_185 : Cond.fieldLink RX5 9 "TrimSheet$Swapper" "cargo" "LTrimSheet$Cargo;" ∈ T0 := T0_1 185 (by decide +kernel) rfl
theorem mm_1_189 : Cond.classLink RX7 67 RX4 ∈ T0 := T0_1 189 (by decide +kernel) rfl
theorem mm_1_190 : Cond.instantiable RX4 10 ∈ T0 := T0_1 190 (by decide +kernel) rfl
theorem mm_1_191 : Cond.methodLink RX7 69 yX4_init ∈ T0 := T0_1 191 (by decide +kernel) rfl
theorem mm_1_192 : Cond.instanceMethod yX4_init ∈ T0 := T0_1 192 (by decide +kernel) rfl
theorem mm_1_193 : Cond.code yX4_init prog_6_method_1_code 2 none ∈ T0 := T0_1 193 rfl rfl
theorem mm_1_194 : Cond.methodLink RX4 3 objectInit ∈ T0 := T0_1 194 (by decide +kernel) rfl
theorem mm_1_195 : Cond.fieldLink RX4 42 "TrimSheet$Search" "cargo" "LTrimSheet$Cargo;" ∈ T0 := T0_1 195 (by decide +kernel) rfl
theorem mm_1_196 : Cond.fieldLink RX4 11 "TrimSheet$Search" "waiting" "[I" ∈ T0 := T0_1 196 (by decide +kernel) rfl
theorem mm_1_197 : Cond.fieldLink RX4 15 "TrimSheet$Search" "bestPlace" "[I" ∈ T0 := T0_1 197 (by decide +kernel) rfl
theorem mm_1_198 : Cond.fieldLink RX4 18 "TrimSheet$Search" "free" "[I" ∈ T0 := T0_1 198 (by decide +kernel) rfl
theorem mm_1_199 : Cond.fieldLink RX4 21 "TrimSheet$Search" "waitingCount" "I" ∈ T0 := T0_1 199 (by decide +kernel) rfl
theorem mm_1_200 : Cond.fieldLink RX4 25 "TrimSheet$Search" "freeCount" "I" ∈ T0 := T0_1 200 (by decide +kernel) rfl
theorem mm_1_201 : Cond.fieldLink RX4 28 "TrimSheet$Search" "arm" "I" ∈ T0 := T0_1 201 (by decide +kernel) rfl
theorem mm_1_202 : Cond.fieldLink RX4 31 "TrimSheet$Search" "hasWay" "Z" ∈ T0 := T0_1 202 (by decide +kernel) rfl
theorem mm_1_203 : Cond.fieldLink RX4 35 "TrimSheet$Search" "leastPushed" "I" ∈ T0 := T0_1 203 (by decide +kernel) rfl
theorem mm_1_204 : Cond.fieldLink RX4 38 "TrimSheet$Search" "leastLean" "J" ∈ T0 := T0_1 204 (by decide +kernel) rfl
theorem mm_1_226 : Cond.fieldLink RX7 9 "TrimSheet" "emptyWeight" "I" ∈ T0 := T0_1 226 (by decide +kernel) rfl
theorem mm_1_227 : Cond.fieldLink RX7 15 "TrimSheet" "emptyArm" "I" ∈ T0 := T0_1 227 (by decide +kernel) rfl
theorem mm_1_228 : Cond.fieldLink RX7 21 "TrimSheet" "cargo" "LTrimSheet$Cargo;" ∈ T0 := T0_1 228 (by decide +kernel) rfl
theorem mm_1_229 : Cond.fieldLink RX7 28 "TrimSheet" "cabin" "LTrimSheet$Cabin;" ∈ T0 := T0_1 229 (by decide +kernel) rfl
theorem mm_1_230 : Cond.fieldLink RX7 35 "TrimSheet" "tanks" "LTrimSheet$Tanks;" ∈ T0 := T0_1 230 (by decide +kernel) rfl
theorem mm_1_231 : Cond.fieldLink RX7 42 "TrimSheet" "dryLimits" "LTrimSheet$Limits;" ∈ T0 := T0_1 231 (by decide +kernel) rfl
theorem mm_1_232 : Cond.fieldLink RX7 46 "TrimSheet" "flyingLimits" "LTrimSheet$Limits;" ∈ T0 := T0_1 232 (by decide +kernel) rfl
theorem mm_1_233 : Cond.fieldLink RX7 54 "TrimSheet" "flight" "LTrimSheet$Flight;" ∈ T0 := T0_1 233 (by decide +kernel) rfl
theorem mm_1_234 : Cond.fieldLink RX7 63 "TrimSheet" "swapper" "LTrimSheet$Swapper;" ∈ T0 := T0_1 234 (by decide +kernel) rfl
theorem mm_1_235 : Cond.fieldLink RX7 70 "TrimSheet" "search" "LTrimSheet$Search;" ∈ T0 := T0_1 235 (by decide +kernel) rfl
theorem mm_2_17 : Cond.methodLink RL 13 yX7_empty ∈ T0 := T0_2 17 (by decide +kernel) rfl
theorem mm_2_18 : Cond.instanceMethod yX7_empty ∈ T0 := T0_2 18 (by decide +kernel) rfl
theorem mm_2_19 : Cond.selects RX7 yX7_empty yX7_empty ∈ T0 := T0_2 19 (by decide +kernel) rfl
theorem mm_2_20 : Cond.code yX7_empty prog_1_method_2_code 3 (some .int) ∈ T0 := T0_2 20 rfl rfl
theorem mm_2_21 : Cond.constant RX7 74 (100000) ∈ T0 := T0_2 21 (by decide +kernel) rfl
theorem mm_2_22 : Cond.methodLink RX7 75 yX7_isFromTo ∈ T0 := T0_2 22 (by decide +kernel) rfl
theorem mm_2_23 : Cond.static yX7_isFromTo ∈ T0 := T0_2 23 (by decide +kernel) rfl
theorem mm_2_24 : Cond.code yX7_isFromTo prog_1_method_33_code 3 (some .boolean) ∈ T0 := T0_2 24 rfl rfl
theorem mm_2_25 : Cond.methodLink RX7 79 yX7_isArm ∈ T0 := T0_2 25 (by decide +kernel) rfl
theorem mm_2_26 : Cond.static yX7_isArm ∈ T0 := T0_2 26 (by decide +kernel) rfl
theorem mm_2_27 : Cond.code yX7_isArm prog_1_method_34_code 1 (some .boolean) ∈ T0 := T0_2 27 rfl rfl
theorem mm_2_28 : Cond.methodLink RL 18 yX7_hold ∈ T0 := T0_2 28 (by decide +kernel) rfl
theorem mm_2_29 : Cond.instanceMethod yX7_hold ∈ T0 := T0_2 29 (by decide +kernel) rfl
theorem mm_2_30 : Cond.selects RX7 yX7_hold yX7_hold ∈ T0 := T0_2 30 (by decide +kernel) rfl
theorem mm_2_31 : Cond.code yX7_hold prog_1_method_3_code 3 (some .int) ∈ T0 := T0_2 31 rfl rfl
theorem mm_2_32 : Cond.methodLink RX7 83 yX7_isBorne ∈ T0 := T0_2 32 (by decide +kernel) rfl
theorem mm_2_33 : Cond.static yX7_isBorne ∈ T0 := T0_2 33 (by decide +kernel) rfl
theorem mm_2_34 : Cond.code yX7_isBorne prog_1_method_35_code 1 (some .boolean) ∈ T0 := T0_2 34 rfl rfl
theorem mm_2_35 : Cond.methodLink RX7 86 yX1_addHold ∈ T0 := T0_2 35 (by decide +kernel) rfl
theorem mm_2_36 : Cond.instanceMethod yX1_addHold ∈ T0 := T0_2 36 (by decide +kernel) rfl
theorem mm_2_37 : Cond.selects RX1 yX1_addHold yX1_addHold ∈ T0 := T0_2 37 (by decide +kernel) rfl
theorem mm_2_38 : Cond.code yX1_addHold prog_3_method_7_code 3 (some .int) ∈ T0 := T0_2 38 rfl rfl
theorem mm_2_39 : Cond.methodLink RL 22 yX7_slot ∈ T0 := T0_2 39 (by decide +kernel) rfl
theorem mm_2_40 : Cond.instanceMethod yX7_slot ∈ T0 := T0_2 40 (by decide +kernel) rfl
theorem mm_2_41 : Cond.selects RX7 yX7_slot yX7_slot ∈ T0 := T0_2 41 (by decide +kernel) rfl
theorem mm_2_42 : Cond.code yX7_slot prog_1_method_4_code 4 (some .int) ∈ T0 := T0_2 42 rfl rfl
theorem mm_2_43 : Cond.methodLink RX7 90 yX1_hasHold ∈ T0 := T0_2 43 (by decide +kernel) rfl
theorem mm_2_44 : Cond.instanceMethod yX1_hasHold ∈ T0 := T0_2 44 (by decide +kernel) rfl
theorem mm_2_45 : Cond.selects RX1 yX1_hasHold yX1_hasHold ∈ T0 := T0_2 45 (by decide +kernel) rfl
theorem mm_2_46 : Cond.code yX1_hasHold prog_3_method_3_code 2 (some .boolean) ∈ T0 := T0_2 46 rfl rfl
theorem mm_2_47 : Cond.methodLink RX7 93 yX1_lastArm ∈ T0 := T0_2 47 (by decide +kernel) rfl
theorem mm_2_48 : Cond.instanceMethod yX1_lastArm ∈ T0 := T0_2 48 (by decide +kernel) rfl
theorem mm_2_49 : Cond.selects RX1 yX1_lastArm yX1_lastArm ∈ T0 := T0_2 49 (by decide +kernel) rfl
theorem mm_2_50 : Cond.code yX1_lastArm prog_3_method_8_code 3 (some .int) ∈ T0 := T0_2 50 rfl rfl
theorem mm_2_51 : Cond.methodLink RX1 65 yX1_placeOf ∈ T0 := T0_2 51 (by decide +kernel) rfl
theorem mm_2_52 : Cond.static yX1_placeOf ∈ T0 := T0_2 52 (by decide +kernel) rfl
theorem mm_2_53 : Cond.code yX1_placeOf prog_3_method_2_code 2 (some .int) ∈ T0 := T0_2 53 rfl rfl
theorem mm_2_54 : Cond.methodLink RX7 97 yX1_addSlot ∈ T0 := T0_2 54 (by decide +kernel) rfl
theorem mm_2_55 : Cond.instanceMethod yX1_addSlot ∈ T0 := T0_2 55 (by decide +kernel) rfl
theorem mm_2_56 : Cond.selects RX1 yX1_addSlot yX1_addSlot ∈ T0 := T0_2 56 (by decide +kernel) rfl
theorem mm_2_57 : Cond.code yX1_addSlot prog_3_method_9_code 5 (some .int) ∈ T0 := T0_2 57 rfl rfl
theorem mm_2_58 : Cond.methodLink RL 27 yX7_apart ∈ T0 := T0_2 58 (by decide +kernel) rfl
theorem mm_2_59 : Cond.instanceMethod yX7_apart ∈ T0 := T0_2 59 (by decide +kernel) rfl
theorem mm_2_60 : Cond.selects RX7 yX7_apart yX7_apart ∈ T0 := T0_2 60 (by decide +kernel) rfl
theorem mm_2_61 : Cond.code yX7_apart prog_1_method_5_code 4 (some .int) ∈ T0 := T0_2 61 rfl rfl
theorem mm_2_62 : Cond.methodLink RX7 101 yX7_isKind ∈ T0 := T0_2 62 (by decide +kernel) rfl
theorem mm_2_63 : Cond.static yX7_isKind ∈ T0 := T0_2 63 (by decide +kernel) rfl
theorem mm_2_64 : Cond.code yX7_isKind prog_1_method_36_code 1 (some .boolean) ∈ T0 := T0_2 64 rfl rfl
theorem mm_2_65 : Cond.methodLink RX7 104 yX1_setDistance ∈ T0 := T0_2 65 (by decide +kernel) rfl
theorem mm_2_66 : Cond.instanceMethod yX1_setDistance ∈ T0 := T0_2 66 (by decide +kernel) rfl
theorem mm_2_67 : Cond.selects RX1 yX1_setDistance yX1_setDistance ∈ T0 := T0_2 67 (by decide +kernel) rfl
theorem mm_2_68 : Cond.code yX1_setDistance prog_3_method_10_code 5 (some .int) ∈ T0 := T0_2 68 rfl rfl
theorem mm_2_69 : Cond.methodLink RL 31 yX7_item ∈ T0 := T0_2 69 (by decide +kernel) rfl
theorem mm_2_70 : Cond.instanceMethod yX7_item ∈ T0 := T0_2 70 (by decide +kernel) rfl
theorem mm_2_71 : Cond.selects RX7 yX7_item yX7_item ∈ T0 := T0_2 71 (by decide +kernel) rfl
theorem mm_2_72 : Cond.code yX7_item prog_1_method_6_code 4 (some .int) ∈ T0 := T0_2 72 rfl rfl
theorem mm_2_73 : Cond.methodLink RX7 107 yX7_isStop ∈ T0 := T0_2 73 (by decide +kernel) rfl
theorem mm_2_74 : Cond.static yX7_isStop ∈ T0 := T0_2 74 (by decide +kernel) rfl
theorem mm_2_75 : Cond.code yX7_isStop prog_1_method_37_code 1 (some .boolean) ∈ T0 := T0_2 75 rfl rfl
theorem mm_2_76 : Cond.methodLink RX7 110 yX1_addItem ∈ T0 := T0_2 76 (by decide +kernel) rfl
theorem mm_2_77 : Cond.instanceMethod yX1_addItem ∈ T0 := T0_2 77 (by decide +kernel) rfl
theorem mm_2_78 : Cond.selects RX1 yX1_addItem yX1_addItem ∈ T0 := T0_2 78 (by decide +kernel) rfl
theorem mm_2_79 : Cond.code yX1_addItem prog_3_method_11_code 4 (some .int) ∈ T0 := T0_2 79 rfl rfl
theorem mm_2_80 : Cond.methodLink RX1 69 yX1_rankByWeight ∈ T0 := T0_2 80 (by decide +kernel) rfl
theorem mm_2_82 : Cond.instanceMethod yX1_rankByWeight ∈ T0 := T0_2 82 (by decide +kernel) rfl
theorem mm_2_83 : Cond.code yX1_rankByWeight prog_3_method_12_code 4 none ∈ T0 := T0_2 83 rfl rfl
theorem mm_2_84 : Cond.methodLink RL 35 yX7_row ∈ T0 := T0_2 84 (by decide +kernel) rfl
theorem mm_2_85 : Cond.instanceMethod yX7_row ∈ T0 := T0_2 85 (by decide +kernel) rfl
theorem mm_2_86 : Cond.selects RX7 yX7_row yX7_row ∈ T0 := T0_2 86 (by decide +kernel) rfl
theorem mm_2_87 : Cond.code yX7_row prog_1_method_7_code 3 (some .int) ∈ T0 := T0_2 87 rfl rfl
theorem mm_2_88 : Cond.methodLink RX7 113 yX0_addRow ∈ T0 := T0_2 88 (by decide +kernel) rfl
theorem mm_2_89 : Cond.instanceMethod yX0_addRow ∈ T0 := T0_2 89 (by decide +kernel) rfl
theorem mm_2_90 : Cond.selects RX0 yX0_addRow yX0_addRow ∈ T0 := T0_2 90 (by decide +kernel) rfl
theorem mm_2_91 : Cond.code yX0_addRow prog_2_method_2_code 3 (some .int) ∈ T0 := T0_2 91 rfl rfl
theorem mm_2_92 : Cond.methodLink RL 39 yX7_tank ∈ T0 := T0_2 92 (by decide +kernel) rfl
theorem mm_2_93 : Cond.instanceMethod yX7_tank ∈ T0 := T0_2 93 (by decide +kernel) rfl
theorem mm_2_94 : Cond.selects RX7 yX7_tank yX7_tank ∈ T0 := T0_2 94 (by decide +kernel) rfl
theorem mm_2_95 : Cond.code yX7_tank prog_1_method_8_code 3 (some .int) ∈ T0 := T0_2 95 rfl rfl
theorem mm_2_96 : Cond.methodLink RX7 116 yX6_addTank ∈ T0 := T0_2 96 (by decide +kernel) rfl
theorem mm_2_97 : Cond.instanceMethod yX6_addTank ∈ T0 := T0_2 97 (by decide +kernel) rfl
theorem mm_2_98 : Cond.selects RX6 yX6_addTank yX6_addTank ∈ T0 := T0_2 98 (by decide +kernel) rfl
theorem mm_2_99 : Cond.code yX6_addTank prog_8_method_2_code 3 (some .int) ∈ T0 := T0_2 99 rfl rfl
theorem mm_2_100 : Cond.methodLink RL 43 yX7_person ∈ T0 := T0_2 100 (by decide +kernel) rfl
theorem mm_2_101 : Cond.instanceMethod yX7_person ∈ T0 := T0_2 101 (by decide +kernel) rfl
theorem mm_2_102 : Cond.selects RX7 yX7_person yX7_person ∈ T0 := T0_2 102 (by decide +kernel) rfl
theorem mm_2_103 : Cond.code yX7_person prog_1_method_9_code 3 (some .int) ∈ T0 := T0_2 103 rfl rfl
theorem mm_2_104 : Cond.methodLink RL 48 yX7_seat ∈ T0 := T0_2 104 (by decide +kernel) rfl
theorem mm_2_105 : Cond.instanceMethod yX7_seat ∈ T0 := T0_2 105 (by decide +kernel) rfl
theorem mm_2_106 : Cond.selects RX7 yX7_seat yX7_seat ∈ T0 := T0_2 106 (by decide +kernel) rfl
theorem mm_2_107 : Cond.code yX7_seat prog_1_method_10_code 4 (some .int) ∈ T0 := T0_2 107 rfl rfl
theorem mm_2_108 : Cond.methodLink RL 52 yX7_fuel ∈ T0 := T0_2 108 (by decide +kernel) rfl
theorem mm_2_109 : Cond.instanceMethod yX7_fuel ∈ T0 := T0_2 109 (by decide +kernel) rfl
theorem mm_2_110 : Cond.selects RX7 yX7_fuel yX7_fuel ∈ T0 := T0_2 110 (by decide +kernel) rfl
theorem mm_2_111 : Cond.code yX7_fuel prog_1_method_11_code 4 (some .int) ∈ T0 := T0_2 111 rfl rfl
theorem mm_2_112 : Cond.methodLink RL 56 yX7_point ∈ T0 := T0_2 112 (by decide +kernel) rfl
theorem mm_2_113 : Cond.instanceMethod yX7_point ∈ T0 := T0_2 113 (by decide +kernel) rfl
theorem mm_2_114 : Cond.selects RX7 yX7_point yX7_point ∈ T0 := T0_2 114 (by decide +kernel) rfl
theorem mm_2_115 : Cond.code yX7_point prog_1_method_12_code 6 (some .int) ∈ T0 := T0_2 115 rfl rfl
theorem mm_2_116 : Cond.methodLink RX7 141 yX7_isPhase ∈ T0 := T0_2 116 (by decide +kernel) rfl
theorem mm_2_117 : Cond.static yX7_isPhase ∈ T0 := T0_2 117 (by decide +kernel) rfl
theorem mm_2_118 : Cond.code yX7_isPhase prog_1_method_38_code 1 (some .boolean) ∈ T0 := T0_2 118 rfl rfl
theorem mm_2_119 : Cond.methodLink RX7 144 yX7_limitsOf ∈ T0 := T0_2 119 (by decide +kernel) rfl
theorem mm_2_121 : Cond.instanceMethod yX7_limitsOf ∈ T0 := T0_2 121 (by decide +kernel) rfl
theorem mm_2_122 : Cond.code yX7_limitsOf prog_1_method_39_code 2 (some (.object "TrimSheet$Limits")) ∈ T0 := T0_2 122 rfl rfl
theorem mm_2_123 : Cond.methodLink RX7 148 yX3_lastWeight ∈ T0 := T0_2 123 (by decide +kernel) rfl
theorem mm_2_124 : Cond.instanceMethod yX3_lastWeight ∈ T0 := T0_2 124 (by decide +kernel) rfl
theorem mm_2_125 : Cond.selects RX3 yX3_lastWeight yX3_lastWeight ∈ T0 := T0_2 125 (by decide +kernel) rfl
theorem mm_2_126 : Cond.code yX3_lastWeight prog_5_method_2_code 1 (some .int) ∈ T0 := T0_2 126 rfl rfl
theorem mm_2_127 : Cond.constant RX7 152 (1000000) ∈ T0 := T0_2 127 (by decide +kernel) rfl
theorem mm_2_128 : Cond.methodLink RX7 153 yX3_addPoint ∈ T0 := T0_2 128 (by decide +kernel) rfl
theorem mm_2_129 : Cond.instanceMethod yX3_addPoint ∈ T0 := T0_2 129 (by decide +kernel) rfl
theorem mm_2_130 : Cond.selects RX3 yX3_addPoint yX3_addPoint ∈ T0 := T0_2 130 (by decide +kernel) rfl
theorem mm_2_131 : Cond.code yX3_addPoint prog_5_method_3_code 4 (some .int) ∈ T0 := T0_2 131 rfl rfl
theorem mm_2_132 : Cond.methodLink RL 61 yX7_wipe ∈ T0 := T0_2 132 (by decide +kernel) rfl
theorem mm_2_133 : Cond.instanceMethod yX7_wipe ∈ T0 := T0_2 133 (by decide +kernel) rfl
theorem mm_2_134 : Cond.selects RX7 yX7_wipe yX7_wipe ∈ T0 := T0_2 134 (by decide +kernel) rfl
theorem mm_2_135 : Cond.code yX7_wipe prog_1_method_13_code 4 (some .int) ∈ T0 := T0_2 135 rfl rfl
theorem mm_2_136 : Cond.methodLink RL 65 yX7_fits ∈ T0 := T0_2 136 (by decide +kernel) rfl
theorem mm_2_137 : Cond.instanceMethod yX7_fits ∈ T0 := T0_2 137 (by decide +kernel) rfl
theorem mm_2_138 : Cond.selects RX7 yX7_fits yX7_fits ∈ T0 := T0_2 138 (by decide +kernel) rfl
theorem mm_2_139 : Cond.code yX7_fits prog_1_method_14_code 4 (some .int) ∈ T0 := T0_2 139 rfl rfl
theorem mm_2_140 : Cond.methodLink RX7 159 yX1_hasItem ∈ T0 := T0_2 140 (by decide +kernel) rfl
theorem mm_2_141 : Cond.instanceMethod yX1_hasItem ∈ T0 := T0_2 141 (by decide +kernel) rfl
theorem mm_2_142 : Cond.selects RX1 yX1_hasItem yX1_hasItem ∈ T0 := T0_2 142 (by decide +kernel) rfl
theorem mm_2_143 : Cond.code yX1_hasItem prog_3_method_5_code 2 (some .boolean) ∈ T0 := T0_2 143 rfl rfl
theorem mm_2_144 : Cond.methodLink RX7 162 yX1_hasSlot ∈ T0 := T0_2 144 (by decide +kernel) rfl
theorem mm_2_145 : Cond.instanceMethod yX1_hasSlot ∈ T0 := T0_2 145 (by decide +kernel) rfl
theorem mm_2_146 : Cond.selects RX1 yX1_hasSlot yX1_hasSlot ∈ T0 := T0_2 146 (by decide +kernel) rfl
theorem mm_2_147 : Cond.code yX1_hasSlot prog_3_method_4_code 3 (some .boolean) ∈ T0 := T0_2 147 rfl rfl
theorem mm_2_148 : Cond.methodLink RX1 61 yX1_hasHold ∈ T0 := T0_2 148 (by decide +kernel) rfl
theorem mm_2_149 : Cond.methodLink RX7 166 yX1_isLoaded ∈ T0 := T0_2 149 (by decide +kernel) rfl
theorem mm_2_150 : Cond.instanceMethod yX1_isLoaded ∈ T0 := T0_2 150 (by decide +kernel) rfl
theorem mm_2_151 : Cond.selects RX1 yX1_isLoaded yX1_isLoaded ∈ T0 := T0_2 151 (by decide +kernel) rfl
theorem mm_2_152 : Cond.code yX1_isLoaded prog_3_method_6_code 2 (some .boolean) ∈ T0 := T0_2 152 rfl rfl
theorem mm_2_153 : Cond.methodLink RX7 169 yX1_placeOf ∈ T0 := T0_2 153 (by decide +kernel) rfl
theorem mm_2_154 : Cond.methodLink RX7 172 yX1_hindrance ∈ T0 := T0_2 154 (by decide +kernel) rfl
theorem mm_2_155 : Cond.instanceMethod yX1_hindrance ∈ T0 := T0_2 155 (by decide +kernel) rfl
theorem mm_2_156 : Cond.selects RX1 yX1_hindrance yX1_hindrance ∈ T0 := T0_2 156 (by decide +kernel) rfl
theorem mm_2_157 : Cond.code yX1_hindrance prog_3_method_16_code 5 (some .int) ∈ T0 := T0_2 157 rfl rfl
theorem mm_2_158 : Cond.methodLink RX1 80 yX1_weightInHold ∈ T0 := T0_2 158 (by decide +kernel) rfl
theorem mm_2_159 : Cond.instanceMethod yX1_weightInHold ∈ T0 := T0_2 159 (by decide +kernel) rfl
theorem mm_2_160 : Cond.selects RX1 yX1_weightInHold yX1_weightInHold ∈ T0 := T0_2 160 (by decide +kernel) rfl
theorem mm_2_161 : Cond.code yX1_weightInHold prog_3_method_20_code 4 (some .int) ∈ T0 := T0_2 161 rfl rfl
theorem mm_2_162 : Cond.methodLink RX1 91 yX1_weightAt ∈ T0 := T0_2 162 (by decide +kernel) rfl
theorem mm_2_163 : Cond.instanceMethod yX1_weightAt ∈ T0 := T0_2 163 (by decide +kernel) rfl
theorem mm_2_164 : Cond.selects RX1 yX1_weightAt yX1_weightAt ∈ T0 := T0_2 164 (by decide +kernel) rfl
theorem mm_2_165 : Cond.code yX1_weightAt prog_3_method_19_code 3 (some .int) ∈ T0 := T0_2 165 rfl rfl
theorem mm_2_166 : Cond.methodLink RX1 84 yX1_isTooMuchForFloor ∈ T0 := T0_2 166 (by decide +kernel) rfl
theorem mm_2_168 : Cond.instanceMethod yX1_isTooMuchForFloor ∈ T0 := T0_2 168 (by decide +kernel) rfl
theorem mm_2_169 : Cond.code yX1_isTooMuchForFloor prog_3_method_17_code 8 (some .boolean) ∈ T0 := T0_2 169 rfl rfl
theorem mm_2_170 : Cond.methodLink RX1 88 yX1_isTooNear ∈ T0 := T0_2 170 (by decide +kernel) rfl
theorem mm_2_172 : Cond.instanceMethod yX1_isTooNear ∈ T0 := T0_2 172 (by decide +kernel) rfl
theorem mm_2_173 : Cond.code yX1_isTooNear prog_3_method_18_code 8 (some .boolean) ∈ T0 := T0_2 173 rfl rfl
theorem mm_2_174 : Cond.methodLink RX1 94 yJ9_abs_0f7a4 ∈ T0 := T0_2 174 (by decide +kernel) rfl
theorem mm_2_175 : Cond.static yJ9_abs_0f7a4 ∈ T0 := T0_2 175 (by decide +kernel) rfl
theorem mm_2_176 : Cond.code yJ9_abs_0f7a4 prog_12_method_59_code 1 (some .int) ∈ T0 := T0_2 176 rfl rfl
theorem mm_2_177 : Cond.methodLink RL 69 yX7_load ∈ T0 := T0_2 177 (by decide +kernel) rfl
theorem mm_2_178 : Cond.instanceMethod yX7_load ∈ T0 := T0_2 178 (by decide +kernel) rfl
theorem mm_2_179 : Cond.selects RX7 yX7_load yX7_load ∈ T0 := T0_2 179 (by decide +kernel) rfl
theorem mm_2_180 : Cond.code yX7_load prog_1_method_15_code 5 (some .int) ∈ T0 := T0_2 180 rfl rfl
theorem mm_2_181 : Cond.methodLink RX7 175 yX7_fits ∈ T0 := T0_2 181 (by decide +kernel) rfl
theorem mm_2_182 : Cond.methodLink RX7 178 yX1_putIn ∈ T0 := T0_2 182 (by decide +kernel) rfl
theorem mm_2_183 : Cond.instanceMethod yX1_putIn ∈ T0 := T0_2 183 (by decide +kernel) rfl
theorem mm_2_184 : Cond.selects RX1 yX1_putIn yX1_putIn ∈ T0 := T0_2 184 (by decide +kernel) rfl
theorem mm_2_185 : Cond.code yX1_putIn prog_3_method_13_code 3 none ∈ T0 := T0_2 185 rfl rfl
theorem mm_2_186 : Cond.methodLink RL 73 yX7_unload ∈ T0 := T0_2 186 (by decide +kernel) rfl
theorem mm_2_187 : Cond.instanceMethod yX7_unload ∈ T0 := T0_2 187 (by decide +kernel) rfl
theorem mm_2_188 : Cond.selects RX7 yX7_unload yX7_unload ∈ T0 := T0_2 188 (by decide +kernel) rfl
theorem mm_2_189 : Cond.code yX7_unload prog_1_method_16_code 2 (some .int) ∈ T0 := T0_2 189 rfl rfl
theorem mm_2_190 : Cond.methodLink RX7 182 yX1_takeOut ∈ T0 := T0_2 190 (by decide +kernel) rfl
theorem mm_2_191 : Cond.instanceMethod yX1_takeOut ∈ T0 := T0_2 191 (by decide +kernel) rfl
theorem mm_2_192 : Cond.selects RX1 yX1_takeOut yX1_takeOut ∈ T0 := T0_2 192 (by decide +kernel) rfl
theorem mm_2_193 : Cond.code yX1_takeOut prog_3_method_14_code 3 none ∈ T0 := T0_2 193 rfl rfl
theorem mm_2_194 : Cond.methodLink RL 77 yX7_where ∈ T0 := T0_2 194 (by decide +kernel) rfl
theorem mm_2_195 : Cond.instanceMethod yX7_where ∈ T0 := T0_2 195 (by decide +kernel) rfl
theorem mm_2_196 : Cond.selects RX7 yX7_where yX7_where ∈ T0 := T0_2 196 (by decide +kernel) rfl
theorem mm_2_197 : Cond.code yX7_where prog_1_method_17_code 2 (some .int) ∈ T0 := T0_2 197 rfl rfl
theorem mm_2_198 : Cond.methodLink RL 81 yX7_in ∈ T0 := T0_2 198 (by decide +kernel) rfl
theorem mm_2_199 : Cond.instanceMethod yX7_in ∈ T0 := T0_2 199 (by decide +kernel) rfl
theorem mm_2_200 : Cond.selects RX7 yX7_in yX7_in ∈ T0 := T0_2 200 (by decide +kernel) rfl
theorem mm_2_201 : Cond.code yX7_in prog_1_method_18_code 3 (some .int) ∈ T0 := T0_2 201 rfl rfl
theorem mm_2_202 : Cond.methodLink RL 85 yX7_about ∈ T0 := T0_2 202 (by decide +kernel) rfl
theorem mm_2_203 : Cond.instanceMethod yX7_about ∈ T0 := T0_2 203 (by decide +kernel) rfl
theorem mm_2_204 : Cond.selects RX7 yX7_about yX7_about ∈ T0 := T0_2 204 (by decide +kernel) rfl
theorem mm_2_205 : Cond.code yX7_about prog_1_method_19_code 3 (some .int) ∈ T0 := T0_2 205 rfl rfl
theorem mm_2_206 : Cond.methodLink RX7 192 yX1_weightInHold ∈ T0 := T0_2 206 (by decide +kernel) rfl
theorem mm_2_207 : Cond.methodLink RX7 195 yX1_itemsInHold ∈ T0 := T0_2 207 (by decide +kernel) rfl
theorem mm_2_208 : Cond.instanceMethod yX1_itemsInHold ∈ T0 := T0_2 208 (by decide +kernel) rfl
theorem mm_2_209 : Cond.selects RX1 yX1_itemsInHold yX1_itemsInHold ∈ T0 := T0_2 209 (by decide +kernel) rfl
theorem mm_2_210 : Cond.code yX1_itemsInHold prog_3_method_21_code 4 (some .int) ∈ T0 := T0_2 210 rfl rfl
theorem mm_2_211 : Cond.methodLink RX7 198 yX1_heaviestPair ∈ T0 := T0_2 211 (by decide +kernel) rfl
theorem mm_2_212 : Cond.instanceMethod yX1_heaviestPair ∈ T0 := T0_2 212 (by decide +kernel) rfl
theorem mm_2_213 : Cond.selects RX1 yX1_heaviestPair yX1_heaviestPair ∈ T0 := T0_2 213 (by decide +kernel) rfl
theorem mm_2_214 : Cond.code yX1_heaviestPair prog_3_method_22_code 5 (some .int) ∈ T0 := T0_2 214 rfl rfl
theorem mm_2_215 : Cond.methodLink RX1 99 yJ9_max_7cf53 ∈ T0 := T0_2 215 (by decide +kernel) rfl
theorem mm_2_216 : Cond.static yJ9_max_7cf53 ∈ T0 := T0_2 216 (by decide +kernel) rfl
theorem mm_2_217 : Cond.code yJ9_max_7cf53 prog_12_method_65_code 2 (some .int) ∈ T0 := T0_2 217 rfl rfl
theorem mm_2_218 : Cond.methodLink RL 89 yX7_weight ∈ T0 := T0_2 218 (by decide +kernel) rfl
theorem mm_2_219 : Cond.instanceMethod yX7_weight ∈ T0 := T0_2 219 (by decide +kernel) rfl
theorem mm_2_220 : Cond.selects RX7 yX7_weight yX7_weight ∈ T0 := T0_2 220 (by decide +kernel) rfl
theorem mm_2_221 : Cond.code yX7_weight prog_1_method_20_code 2 (some .int) ∈ T0 := T0_2 221 rfl rfl
theorem mm_2_222 : Cond.methodLink RX7 201 yX7_dryWeight ∈ T0 := T0_2 222 (by decide +kernel) rfl
theorem mm_2_224 : Cond.instanceMethod yX7_dryWeight ∈ T0 := T0_2 224 (by decide +kernel) rfl
theorem mm_2_225 : Cond.code yX7_dryWeight prog_1_method_40_code 1 (some .int) ∈ T0 := T0_2 225 rfl rfl
theorem mm_2_226 : Cond.methodLink RX7 277 yX1_loadedWeight ∈ T0 := T0_2 226 (by decide +kernel) rfl
theorem mm_2_227 : Cond.instanceMethod yX1_loadedWeight ∈ T0 := T0_2 227 (by decide +kernel) rfl
theorem mm_2_228 : Cond.selects RX1 yX1_loadedWeight yX1_loadedWeight ∈ T0 := T0_2 228 (by decide +kernel) rfl
theorem mm_2_229 : Cond.code yX1_loadedWeight prog_3_method_25_code 3 (some .int) ∈ T0 := T0_2 229 rfl rfl
theorem mm_2_230 : Cond.methodLink RX1 73 yX1_isLoaded ∈ T0 := T0_2 230 (by decide +kernel) rfl
theorem mm_2_231 : Cond.methodLink RX7 280 yX0_takenWeight ∈ T0 := T0_2 231 (by decide +kernel) rfl
theorem mm_2_232 : Cond.instanceMethod yX0_takenWeight ∈ T0 := T0_2 232 (by decide +kernel) rfl
theorem mm_2_233 : Cond.selects RX0 yX0_takenWeight yX0_takenWeight ∈ T0 := T0_2 233 (by decide +kernel) rfl
theorem mm_2_234 : Cond.code yX0_takenWeight prog_2_method_4_code 1 (some .int) ∈ T0 := T0_2 234 rfl rfl
theorem mm_2_235 : Cond.methodLink RX0 28 yX0_passengers ∈ T0 := T0_2 235 (by decide +kernel) rfl
theorem mm_2_236 : Cond.instanceMethod yX0_passengers ∈ T0 := T0_2 236 (by decide +kernel) rfl
theorem mm_2_237 : Cond.selects RX0 yX0_passengers yX0_passengers ∈ T0 := T0_2 237 (by decide +kernel) rfl
theorem mm_2_238 : Cond.code yX0_passengers prog_2_method_3_code 3 (some .int) ∈ T0 := T0_2 238 rfl rfl
theorem mm_2_239 : Cond.methodLink RX7 204 yX6_totalAmount ∈ T0 := T0_2 239 (by decide +kernel) rfl
theorem mm_3_0 : Cond.instanceMethod yX6_totalAmount ∈ T0 := T0_3 0 (by decide +kernel) rfl
theorem mm_3_1 : Cond.selects RX6 yX6_totalAmount yX6_totalAmount ∈ T0 := T0_3 1 (by decide +kernel) rfl
theorem mm_3_2 : Cond.code yX6_totalAmount prog_8_method_3_code 3 (some .int) ∈ T0 := T0_3 2 rfl rfl
theorem mm_3_3 : Cond.methodLink RL 93 yX7_moment ∈ T0 := T0_3 3 (by decide +kernel) rfl
theorem mm_3_4 : Cond.instanceMethod yX7_moment ∈ T0 := T0_3 4 (by decide +kernel) rfl
theorem mm_3_5 : Cond.selects RX7 yX7_moment yX7_moment ∈ T0 := T0_3 5 (by decide +kernel) rfl
theorem mm_3_6 : Cond.code yX7_moment prog_1_method_21_code 2 (some .long) ∈ T0 := T0_3 6 rfl rfl
theorem mm_3_7 : Cond.methodLink RX7 207 yX7_dryMoment ∈ T0 := T0_3 7 (by decide +kernel) rfl
theorem mm_3_9 : Cond.instanceMethod yX7_dryMoment ∈ T0 := T0_3 9 (by decide +kernel) rfl
theorem mm_3_10 : Cond.code yX7_dryMoment prog_1_method_41_code 1 (some .long) ∈ T0 := T0_3 10 rfl rfl
theorem mm_3_11 : Cond.methodLink RX7 283 yX1_loadedMoment ∈ T0 := T0_3 11 (by decide +kernel) rfl
theorem mm_3_12 : Cond.instanceMethod yX1_loadedMoment ∈ T0 := T0_3 12 (by decide +kernel) rfl
theorem mm_3_13 : Cond.selects RX1 yX1_loadedMoment yX1_loadedMoment ∈ T0 := T0_3 13 (by decide +kernel) rfl
theorem mm_3_14 : Cond.code yX1_loadedMoment prog_3_method_26_code 4 (some .long) ∈ T0 := T0_3 14 rfl rfl
theorem mm_3_15 : Cond.methodLink RX1 102 yX1_leanAt ∈ T0 := T0_3 15 (by decide +kernel) rfl
theorem mm_3_16 : Cond.instanceMethod yX1_leanAt ∈ T0 := T0_3 16 (by decide +kernel) rfl
theorem mm_3_17 : Cond.selects RX1 yX1_leanAt yX1_leanAt ∈ T0 := T0_3 17 (by decide +kernel) rfl
theorem mm_3_18 : Cond.code yX1_leanAt prog_3_method_27_code 4 (some .long) ∈ T0 := T0_3 18 rfl rfl
theorem mm_3_19 : Cond.methodLink RX7 286 yX0_takenMoment ∈ T0 := T0_3 19 (by decide +kernel) rfl
theorem mm_3_20 : Cond.instanceMethod yX0_takenMoment ∈ T0 := T0_3 20 (by decide +kernel) rfl
theorem mm_3_21 : Cond.selects RX0 yX0_takenMoment yX0_takenMoment ∈ T0 := T0_3 21 (by decide +kernel) rfl
theorem mm_3_22 : Cond.code yX0_takenMoment prog_2_method_5_code 4 (some .long) ∈ T0 := T0_3 22 rfl rfl
theorem mm_3_23 : Cond.methodLink RX0 32 yX0_leanIn ∈ T0 := T0_3 23 (by decide +kernel) rfl
theorem mm_3_25 : Cond.instanceMethod yX0_leanIn ∈ T0 := T0_3 25 (by decide +kernel) rfl
theorem mm_3_26 : Cond.code yX0_leanIn prog_2_method_6_code 3 (some .long) ∈ T0 := T0_3 26 rfl rfl
theorem mm_3_27 : Cond.methodLink RX7 211 yX6_momentLeft ∈ T0 := T0_3 27 (by decide +kernel) rfl
theorem mm_3_28 : Cond.instanceMethod yX6_momentLeft ∈ T0 := T0_3 28 (by decide +kernel) rfl
theorem mm_3_29 : Cond.selects RX6 yX6_momentLeft yX6_momentLeft ∈ T0 := T0_3 29 (by decide +kernel) rfl
theorem mm_3_30 : Cond.code yX6_momentLeft prog_8_method_4_code 7 (some .long) ∈ T0 := T0_3 30 rfl rfl
theorem mm_3_31 : Cond.methodLink RX6 25 yJ9_min_7cf53 ∈ T0 := T0_3 31 (by decide +kernel) rfl
theorem mm_3_32 : Cond.static yJ9_min_7cf53 ∈ T0 := T0_3 32 (by decide +kernel) rfl
theorem mm_3_33 : Cond.code yJ9_min_7cf53 prog_12_method_69_code 2 (some .int) ∈ T0 := T0_3 33 rfl rfl
theorem mm_3_34 : Cond.constantLong RX7 215 (-9223372036854775808) ∈ T0 := T0_3 34 (by decide +kernel) rfl
theorem mm_3_35 : Cond.methodLink RL 98 yX7_burnt ∈ T0 := T0_3 35 (by decide +kernel) rfl
theorem mm_3_36 : Cond.instanceMethod yX7_burnt ∈ T0 := T0_3 36 (by decide +kernel) rfl
theorem mm_3_37 : Cond.selects RX7 yX7_burnt yX7_burnt ∈ T0 := T0_3 37 (by decide +kernel) rfl
theorem mm_3_38 : Cond.code yX7_burnt prog_1_method_22_code 3 (some .long) ∈ T0 := T0_3 38 rfl rfl
theorem mm_3_39 : Cond.methodLink RL 103 yX7_within ∈ T0 := T0_3 39 (by decide +kernel) rfl
theorem mm_3_40 : Cond.instanceMethod yX7_within ∈ T0 := T0_3 40 (by decide +kernel) rfl
theorem mm_3_41 : Cond.selects RX7 yX7_within yX7_within ∈ T0 := T0_3 41 (by decide +kernel) rfl
theorem mm_3_42 : Cond.code yX7_within prog_1_method_23_code 3 (some .int) ∈ T0 := T0_3 42 rfl rfl
theorem mm_3_43 : Cond.methodLink RX7 217 yX7_weight ∈ T0 := T0_3 43 (by decide +kernel) rfl
theorem mm_3_44 : Cond.methodLink RX7 220 yX7_moment ∈ T0 := T0_3 44 (by decide +kernel) rfl
theorem mm_3_45 : Cond.methodLink RX7 223 yX3_judge ∈ T0 := T0_3 45 (by decide +kernel) rfl
theorem mm_3_46 : Cond.instanceMethod yX3_judge ∈ T0 := T0_3 46 (by decide +kernel) rfl
theorem mm_3_47 : Cond.selects RX3 yX3_judge yX3_judge ∈ T0 := T0_3 47 (by decide +kernel) rfl
theorem mm_3_48 : Cond.code yX3_judge prog_5_method_4_code 5 (some .int) ∈ T0 := T0_3 48 rfl rfl
theorem mm_3_49 : Cond.methodLink RX3 25 yX3_lastWeight ∈ T0 := T0_3 49 (by decide +kernel) rfl
theorem mm_3_50 : Cond.methodLink RX3 29 yX3_lineAt ∈ T0 := T0_3 50 (by decide +kernel) rfl
theorem mm_3_51 : Cond.instanceMethod yX3_lineAt ∈ T0 := T0_3 51 (by decide +kernel) rfl
theorem mm_3_52 : Cond.selects RX3 yX3_lineAt yX3_lineAt ∈ T0 := T0_3 52 (by decide +kernel) rfl
theorem mm_3_53 : Cond.code yX3_lineAt prog_5_method_6_code 3 (some .int) ∈ T0 := T0_3 53 rfl rfl
theorem mm_3_54 : Cond.methodLink RX3 33 yX3_excess ∈ T0 := T0_3 54 (by decide +kernel) rfl
theorem mm_3_55 : Cond.instanceMethod yX3_excess ∈ T0 := T0_3 55 (by decide +kernel) rfl
theorem mm_3_56 : Cond.selects RX3 yX3_excess yX3_excess ∈ T0 := T0_3 56 (by decide +kernel) rfl
theorem mm_3_57 : Cond.code yX3_excess prog_5_method_7_code 12 (some .long) ∈ T0 := T0_3 57 rfl rfl
theorem mm_3_58 : Cond.methodLink RX3 37 yX3_rise ∈ T0 := T0_3 58 (by decide +kernel) rfl
theorem mm_3_59 : Cond.instanceMethod yX3_rise ∈ T0 := T0_3 59 (by decide +kernel) rfl
theorem mm_3_60 : Cond.selects RX3 yX3_rise yX3_rise ∈ T0 := T0_3 60 (by decide +kernel) rfl
theorem mm_3_61 : Cond.code yX3_rise prog_5_method_8_code 3 (some .long) ∈ T0 := T0_3 61 rfl rfl
theorem mm_3_62 : Cond.methodLink RL 107 yX7_safe ∈ T0 := T0_3 62 (by decide +kernel) rfl
theorem mm_3_63 : Cond.instanceMethod yX7_safe ∈ T0 := T0_3 63 (by decide +kernel) rfl
theorem mm_3_64 : Cond.selects RX7 yX7_safe yX7_safe ∈ T0 := T0_3 64 (by decide +kernel) rfl
theorem mm_3_65 : Cond.code yX7_safe prog_1_method_24_code 2 (some .int) ∈ T0 := T0_3 65 rfl rfl
theorem mm_3_66 : Cond.methodLink RX7 227 yX2_firstWrong ∈ T0 := T0_3 66 (by decide +kernel) rfl
theorem mm_3_67 : Cond.instanceMethod yX2_firstWrong ∈ T0 := T0_3 67 (by decide +kernel) rfl
theorem mm_3_68 : Cond.selects RX2 yX2_firstWrong yX2_firstWrong ∈ T0 := T0_3 68 (by decide +kernel) rfl
theorem mm_3_69 : Cond.code yX2_firstWrong prog_4_method_2_code 14 (some .int) ∈ T0 := T0_3 69 rfl rfl
theorem mm_3_70 : Cond.methodLink RX2 27 yX6_totalAmount ∈ T0 := T0_3 70 (by decide +kernel) rfl
theorem mm_3_71 : Cond.methodLink RX2 33 yJ9_min_7cf53 ∈ T0 := T0_3 71 (by decide +kernel) rfl
theorem mm_3_72 : Cond.methodLink RX2 39 yX3_spans ∈ T0 := T0_3 72 (by decide +kernel) rfl
theorem mm_3_73 : Cond.instanceMethod yX3_spans ∈ T0 := T0_3 73 (by decide +kernel) rfl
theorem mm_3_74 : Cond.selects RX3 yX3_spans yX3_spans ∈ T0 := T0_3 74 (by decide +kernel) rfl
theorem mm_3_75 : Cond.code yX3_spans prog_5_method_5_code 2 (some .boolean) ∈ T0 := T0_3 75 rfl rfl
theorem mm_3_76 : Cond.methodLink RX2 45 yX3_lineAt ∈ T0 := T0_3 76 (by decide +kernel) rfl
theorem mm_3_77 : Cond.methodLink RX2 53 yX6_nextDryMoment ∈ T0 := T0_3 77 (by decide +kernel) rfl
theorem mm_3_78 : Cond.instanceMethod yX6_nextDryMoment ∈ T0 := T0_3 78 (by decide +kernel) rfl
theorem mm_3_79 : Cond.selects RX6 yX6_nextDryMoment yX6_nextDryMoment ∈ T0 := T0_3 79 (by decide +kernel) rfl
theorem mm_3_80 : Cond.code yX6_nextDryMoment prog_8_method_5_code 4 (some .int) ∈ T0 := T0_3 80 rfl rfl
theorem mm_3_81 : Cond.methodLink RX2 56 yX2_firstOutside ∈ T0 := T0_3 81 (by decide +kernel) rfl
theorem mm_3_83 : Cond.instanceMethod yX2_firstOutside ∈ T0 := T0_3 83 (by decide +kernel) rfl
theorem mm_3_84 : Cond.code yX2_firstOutside prog_4_method_3_code 6 (some .int) ∈ T0 := T0_3 84 rfl rfl
theorem mm_3_85 : Cond.methodLink RX2 60 yX2_firstWithoutRoom ∈ T0 := T0_3 85 (by decide +kernel) rfl
theorem mm_3_87 : Cond.instanceMethod yX2_firstWithoutRoom ∈ T0 := T0_3 87 (by decide +kernel) rfl
theorem mm_3_88 : Cond.code yX2_firstWithoutRoom prog_4_method_4_code 10 (some .int) ∈ T0 := T0_3 88 rfl rfl
theorem mm_3_89 : Cond.methodLink RX2 64 yX2_room ∈ T0 := T0_3 89 (by decide +kernel) rfl
theorem mm_3_91 : Cond.instanceMethod yX2_room ∈ T0 := T0_3 91 (by decide +kernel) rfl
theorem mm_3_92 : Cond.code yX2_room prog_4_method_5_code 7 (some .long) ∈ T0 := T0_3 92 rfl rfl
theorem mm_3_93 : Cond.methodLink RX2 75 yX6_momentLeft ∈ T0 := T0_3 93 (by decide +kernel) rfl
theorem mm_3_94 : Cond.methodLink RX2 82 yX3_excess ∈ T0 := T0_3 94 (by decide +kernel) rfl
theorem mm_3_95 : Cond.methodLink RX2 68 yX2_isHollow ∈ T0 := T0_3 95 (by decide +kernel) rfl
theorem mm_3_97 : Cond.instanceMethod yX2_isHollow ∈ T0 := T0_3 97 (by decide +kernel) rfl
theorem mm_3_98 : Cond.code yX2_isHollow prog_4_method_6_code 3 (some .boolean) ∈ T0 := T0_3 98 rfl rfl
theorem mm_3_99 : Cond.methodLink RX2 89 yX3_rise ∈ T0 := T0_3 99 (by decide +kernel) rfl
theorem mm_3_100 : Cond.methodLink RX2 72 yX2_bottom ∈ T0 := T0_3 100 (by decide +kernel) rfl
theorem mm_3_102 : Cond.instanceMethod yX2_bottom ∈ T0 := T0_3 102 (by decide +kernel) rfl
theorem mm_3_103 : Cond.code yX2_bottom prog_4_method_7_code 9 (some .int) ∈ T0 := T0_3 103 rfl rfl
theorem mm_3_104 : Cond.methodLink RL 111 yX7_wrong ∈ T0 := T0_3 104 (by decide +kernel) rfl
theorem mm_3_105 : Cond.instanceMethod yX7_wrong ∈ T0 := T0_3 105 (by decide +kernel) rfl
theorem mm_3_106 : Cond.selects RX7 yX7_wrong yX7_wrong ∈ T0 := T0_3 106 (by decide +kernel) rfl
theorem mm_3_107 : Cond.code yX7_wrong prog_1_method_25_code 2 (some .int) ∈ T0 := T0_3 107 rfl rfl
theorem mm_3_108 : Cond.methodLink RL 115 yX7_pushed ∈ T0 := T0_3 108 (by decide +kernel) rfl
theorem mm_3_109 : Cond.instanceMethod yX7_pushed ∈ T0 := T0_3 109 (by decide +kernel) rfl
theorem mm_3_110 : Cond.selects RX7 yX7_pushed yX7_pushed ∈ T0 := T0_3 110 (by decide +kernel) rfl
theorem mm_3_111 : Cond.code yX7_pushed prog_1_method_26_code 2 (some .int) ∈ T0 := T0_3 111 rfl rfl
theorem mm_3_112 : Cond.methodLink RX7 231 yX1_pushedInAll ∈ T0 := T0_3 112 (by decide +kernel) rfl
theorem mm_3_113 : Cond.instanceMethod yX1_pushedInAll ∈ T0 := T0_3 113 (by decide +kernel) rfl
theorem mm_3_114 : Cond.selects RX1 yX1_pushedInAll yX1_pushedInAll ∈ T0 := T0_3 114 (by decide +kernel) rfl
theorem mm_3_115 : Cond.code yX1_pushedInAll prog_3_method_28_code 4 (some .int) ∈ T0 := T0_3 115 rfl rfl
theorem mm_3_116 : Cond.methodLink RX1 106 yX1_pushedInHold ∈ T0 := T0_3 116 (by decide +kernel) rfl
theorem mm_3_117 : Cond.instanceMethod yX1_pushedInHold ∈ T0 := T0_3 117 (by decide +kernel) rfl
theorem mm_3_118 : Cond.selects RX1 yX1_pushedInHold yX1_pushedInHold ∈ T0 := T0_3 118 (by decide +kernel) rfl
theorem mm_3_119 : Cond.code yX1_pushedInHold prog_3_method_29_code 8 (some .int) ∈ T0 := T0_3 119 rfl rfl
theorem mm_3_120 : Cond.methodLink RX1 109 yJ6_bitCount_0f7a4 ∈ T0 := T0_3 120 (by decide +kernel) rfl
theorem mm_3_121 : Cond.static yJ6_bitCount_0f7a4 ∈ T0 := T0_3 121 (by decide +kernel) rfl
theorem mm_3_122 : Cond.code yJ6_bitCount_0f7a4 prog_11_method_49_code 1 (some .int) ∈ T0 := T0_3 122 rfl rfl
theorem mm_3_123 : Cond.constant RJ6 265 (1431655765) ∈ T0 := T0_3 123 (by decide +kernel) rfl
theorem mm_3_124 : Cond.constant RJ6 266 (858993459) ∈ T0 := T0_3 124 (by decide +kernel) rfl
theorem mm_3_125 : Cond.constant RJ6 267 (252645135) ∈ T0 := T0_3 125 (by decide +kernel) rfl
theorem mm_3_126 : Cond.methodLink RL 119 yX7_arrive ∈ T0 := T0_3 126 (by decide +kernel) rfl
theorem mm_3_127 : Cond.instanceMethod yX7_arrive ∈ T0 := T0_3 127 (by decide +kernel) rfl
theorem mm_3_128 : Cond.selects RX7 yX7_arrive yX7_arrive ∈ T0 := T0_3 128 (by decide +kernel) rfl
theorem mm_3_129 : Cond.code yX7_arrive prog_1_method_27_code 2 (some .int) ∈ T0 := T0_3 129 rfl rfl
theorem mm_3_130 : Cond.methodLink RX7 234 yX1_takeOutAllOf ∈ T0 := T0_3 130 (by decide +kernel) rfl
theorem mm_3_131 : Cond.instanceMethod yX1_takeOutAllOf ∈ T0 := T0_3 131 (by decide +kernel) rfl
theorem mm_3_132 : Cond.selects RX1 yX1_takeOutAllOf yX1_takeOutAllOf ∈ T0 := T0_3 132 (by decide +kernel) rfl
theorem mm_3_133 : Cond.code yX1_takeOutAllOf prog_3_method_15_code 4 (some .int) ∈ T0 := T0_3 133 rfl rfl
theorem mm_3_134 : Cond.methodLink RX1 76 yX1_takeOut ∈ T0 := T0_3 134 (by decide +kernel) rfl
theorem mm_3_135 : Cond.methodLink RL 123 yX7_loadAll ∈ T0 := T0_3 135 (by decide +kernel) rfl
theorem mm_3_136 : Cond.instanceMethod yX7_loadAll ∈ T0 := T0_3 136 (by decide +kernel) rfl
theorem mm_3_137 : Cond.selects RX7 yX7_loadAll yX7_loadAll ∈ T0 := T0_3 137 (by decide +kernel) rfl
theorem mm_3_138 : Cond.code yX7_loadAll prog_1_method_28_code 2 (some .int) ∈ T0 := T0_3 138 rfl rfl
theorem mm_3_139 : Cond.methodLink RX7 237 yX7_lean ∈ T0 := T0_3 139 (by decide +kernel) rfl
theorem mm_3_141 : Cond.instanceMethod yX7_lean ∈ T0 := T0_3 141 (by decide +kernel) rfl
theorem mm_3_142 : Cond.code yX7_lean prog_1_method_42_code 2 (some .long) ∈ T0 := T0_3 142 rfl rfl
theorem mm_3_143 : Cond.methodLink RX7 240 yX1_loadHeaviestFirst ∈ T0 := T0_3 143 (by decide +kernel) rfl
theorem mm_3_144 : Cond.instanceMethod yX1_loadHeaviestFirst ∈ T0 := T0_3 144 (by decide +kernel) rfl
theorem mm_3_145 : Cond.selects RX1 yX1_loadHeaviestFirst yX1_loadHeaviestFirst ∈ T0 := T0_3 145 (by decide +kernel) rfl
theorem mm_3_146 : Cond.code yX1_loadHeaviestFirst prog_3_method_30_code 10 (some .int) ∈ T0 := T0_3 146 rfl rfl
theorem mm_3_147 : Cond.methodLink RX1 114 yX1_nearestPlace ∈ T0 := T0_3 147 (by decide +kernel) rfl
theorem mm_3_149 : Cond.instanceMethod yX1_nearestPlace ∈ T0 := T0_3 149 (by decide +kernel) rfl
theorem mm_3_150 : Cond.code yX1_nearestPlace prog_3_method_31_code 14 (some .int) ∈ T0 := T0_3 150 rfl rfl
theorem mm_3_151 : Cond.methodLink RX1 121 yJ9_abs_067f4 ∈ T0 := T0_3 151 (by decide +kernel) rfl
theorem mm_3_152 : Cond.static yJ9_abs_067f4 ∈ T0 := T0_3 152 (by decide +kernel) rfl
theorem mm_3_153 : Cond.code yJ9_abs_067f4 prog_12_method_61_code 2 (some .long) ∈ T0 := T0_3 153 rfl rfl
theorem mm_3_154 : Cond.methodLink RX1 124 yX1_hindrance ∈ T0 := T0_3 154 (by decide +kernel) rfl
theorem mm_3_155 : Cond.methodLink RX1 118 yX1_putIn ∈ T0 := T0_3 155 (by decide +kernel) rfl
theorem mm_3_156 : Cond.methodLink RL 127 yX7_better ∈ T0 := T0_3 156 (by decide +kernel) rfl
theorem mm_3_157 : Cond.instanceMethod yX7_better ∈ T0 := T0_3 157 (by decide +kernel) rfl
theorem mm_3_158 : Cond.selects RX7 yX7_better yX7_better ∈ T0 := T0_3 158 (by decide +kernel) rfl
theorem mm_3_159 : Cond.code yX7_better prog_1_method_29_code 5 (some .int) ∈ T0 := T0_3 159 rfl rfl
theorem mm_3_160 : Cond.methodLink RX7 243 yX5_doFirstGoodSwap ∈ T0 := T0_3 160 (by decide +kernel) rfl
theorem mm_3_161 : Cond.instanceMethod yX5_doFirstGoodSwap ∈ T0 := T0_3 161 (by decide +kernel) rfl
theorem mm_3_162 : Cond.selects RX5 yX5_doFirstGoodSwap yX5_doFirstGoodSwap ∈ T0 := T0_3 162 (by decide +kernel) rfl
theorem mm_3_163 : Cond.code yX5_doFirstGoodSwap prog_7_method_2_code 4 (some .boolean) ∈ T0 := T0_3 163 rfl rfl
theorem mm_3_164 : Cond.methodLink RX5 21 yX1_isLoaded ∈ T0 := T0_3 164 (by decide +kernel) rfl
theorem mm_3_165 : Cond.methodLink RX5 25 yX5_doFirstGoodSwapOf ∈ T0 := T0_3 165 (by decide +kernel) rfl
theorem mm_3_167 : Cond.instanceMethod yX5_doFirstGoodSwapOf ∈ T0 := T0_3 167 (by decide +kernel) rfl
theorem mm_3_168 : Cond.code yX5_doFirstGoodSwapOf prog_7_method_3_code 5 (some .boolean) ∈ T0 := T0_3 168 rfl rfl
theorem mm_3_169 : Cond.methodLink RX5 29 yX5_isNearerSwapped ∈ T0 := T0_3 169 (by decide +kernel) rfl
theorem mm_3_171 : Cond.instanceMethod yX5_isNearerSwapped ∈ T0 := T0_3 171 (by decide +kernel) rfl
theorem mm_3_172 : Cond.code yX5_isNearerSwapped prog_7_method_4_code 11 (some .boolean) ∈ T0 := T0_3 172 rfl rfl
theorem mm_3_173 : Cond.methodLink RX5 47 yJ9_abs_067f4 ∈ T0 := T0_3 173 (by decide +kernel) rfl
theorem mm_3_174 : Cond.methodLink RX5 33 yX5_swapIfBothFit ∈ T0 := T0_3 174 (by decide +kernel) rfl
theorem mm_3_176 : Cond.instanceMethod yX5_swapIfBothFit ∈ T0 := T0_3 176 (by decide +kernel) rfl
theorem mm_3_177 : Cond.code yX5_swapIfBothFit prog_7_method_5_code 6 (some .boolean) ∈ T0 := T0_3 177 rfl rfl
theorem mm_3_178 : Cond.methodLink RX5 53 yX1_takeOut ∈ T0 := T0_3 178 (by decide +kernel) rfl
theorem mm_3_179 : Cond.methodLink RX5 57 yX1_hindrance ∈ T0 := T0_3 179 (by decide +kernel) rfl
theorem mm_3_180 : Cond.methodLink RX5 61 yX1_putIn ∈ T0 := T0_3 180 (by decide +kernel) rfl
theorem mm_3_181 : Cond.methodLink RX7 247 yX5_doFirstGoodMove ∈ T0 := T0_3 181 (by decide +kernel) rfl
theorem mm_3_182 : Cond.instanceMethod yX5_doFirstGoodMove ∈ T0 := T0_3 182 (by decide +kernel) rfl
theorem mm_3_183 : Cond.selects RX5 yX5_doFirstGoodMove yX5_doFirstGoodMove ∈ T0 := T0_3 183 (by decide +kernel) rfl
theorem mm_3_184 : Cond.code yX5_doFirstGoodMove prog_7_method_6_code 5 (some .boolean) ∈ T0 := T0_3 184 rfl rfl
theorem mm_3_185 : Cond.methodLink RX5 65 yX5_moveIfGood ∈ T0 := T0_3 185 (by decide +kernel) rfl
theorem mm_3_187 : Cond.instanceMethod yX5_moveIfGood ∈ T0 := T0_3 187 (by decide +kernel) rfl
theorem mm_3_188 : Cond.code yX5_moveIfGood prog_7_method_7_code 7 (some .boolean) ∈ T0 := T0_3 188 rfl rfl
theorem mm_3_189 : Cond.methodLink RX5 68 yX1_leanAt ∈ T0 := T0_3 189 (by decide +kernel) rfl
theorem mm_3_190 : Cond.methodLink RX5 72 yX5_firstGoodPlace ∈ T0 := T0_3 190 (by decide +kernel) rfl
theorem mm_3_192 : Cond.instanceMethod yX5_firstGoodPlace ∈ T0 := T0_3 192 (by decide +kernel) rfl
theorem mm_3_193 : Cond.code yX5_firstGoodPlace prog_7_method_8_code 12 (some .int) ∈ T0 := T0_3 193 rfl rfl
theorem mm_3_194 : Cond.methodLink RX5 82 yX1_placeOf ∈ T0 := T0_3 194 (by decide +kernel) rfl
theorem mm_3_195 : Cond.methodLink RL 131 yX7_best ∈ T0 := T0_3 195 (by decide +kernel) rfl
theorem mm_3_196 : Cond.instanceMethod yX7_best ∈ T0 := T0_3 196 (by decide +kernel) rfl
theorem mm_3_197 : Cond.selects RX7 yX7_best yX7_best ∈ T0 := T0_3 197 (by decide +kernel) rfl
theorem mm_3_198 : Cond.code yX7_best prog_1_method_30_code 2 (some .int) ∈ T0 := T0_3 198 rfl rfl
theorem mm_3_199 : Cond.methodLink RX7 251 yX4_gather ∈ T0 := T0_3 199 (by decide +kernel) rfl
theorem mm_3_200 : Cond.instanceMethod yX4_gather ∈ T0 := T0_3 200 (by decide +kernel) rfl
theorem mm_3_201 : Cond.selects RX4 yX4_gather yX4_gather ∈ T0 := T0_3 201 (by decide +kernel) rfl
theorem mm_3_202 : Cond.code yX4_gather prog_6_method_2_code 1 (some .boolean) ∈ T0 := T0_3 202 rfl rfl
theorem mm_3_203 : Cond.methodLink RX4 46 yX4_gatherWaiting ∈ T0 := T0_3 203 (by decide +kernel) rfl
theorem mm_3_205 : Cond.instanceMethod yX4_gatherWaiting ∈ T0 := T0_3 205 (by decide +kernel) rfl
theorem mm_3_206 : Cond.code yX4_gatherWaiting prog_6_method_3_code 2 (some .boolean) ∈ T0 := T0_3 206 rfl rfl
theorem mm_3_207 : Cond.methodLink RX4 58 yX1_isLoaded ∈ T0 := T0_3 207 (by decide +kernel) rfl
theorem mm_3_208 : Cond.methodLink RX4 50 yX4_gatherFree ∈ T0 := T0_3 208 (by decide +kernel) rfl
theorem mm_3_210 : Cond.instanceMethod yX4_gatherFree ∈ T0 := T0_3 210 (by decide +kernel) rfl
theorem mm_3_211 : Cond.code yX4_gatherFree prog_6_method_4_code 4 (some .boolean) ∈ T0 := T0_3 211 rfl rfl
theorem mm_3_212 : Cond.methodLink RX4 68 yX1_placeOf ∈ T0 := T0_3 212 (by decide +kernel) rfl
theorem mm_3_213 : Cond.methodLink RX7 255 yX4_loadBest ∈ T0 := T0_3 213 (by decide +kernel) rfl
theorem mm_3_214 : Cond.instanceMethod yX4_loadBest ∈ T0 := T0_3 214 (by decide +kernel) rfl
theorem mm_3_215 : Cond.selects RX4 yX4_loadBest yX4_loadBest ∈ T0 := T0_3 215 (by decide +kernel) rfl
theorem mm_3_216 : Cond.code yX4_loadBest prog_6_method_5_code 5 (some .int) ∈ T0 := T0_3 216 rfl rfl
theorem mm_3_217 : Cond.methodLink RX4 75 yX1_pushedInAll ∈ T0 := T0_3 217 (by decide +kernel) rfl
theorem mm_3_218 : Cond.methodLink RX4 79 yX4_tryAllFrom ∈ T0 := T0_3 218 (by decide +kernel) rfl
theorem mm_3_220 : Cond.instanceMethod yX4_tryAllFrom ∈ T0 := T0_3 220 (by decide +kernel) rfl
theorem mm_3_221 : Cond.code yX4_tryAllFrom prog_6_method_6_code 11 none ∈ T0 := T0_3 221 rfl rfl
theorem mm_3_222 : Cond.methodLink RX4 87 yJ9_abs_067f4 ∈ T0 := T0_3 222 (by decide +kernel) rfl
theorem mm_3_223 : Cond.methodLink RX4 93 yX4_keepIfBetter ∈ T0 := T0_3 223 (by decide +kernel) rfl
theorem mm_3_225 : Cond.instanceMethod yX4_keepIfBetter ∈ T0 := T0_3 225 (by decide +kernel) rfl
theorem mm_3_226 : Cond.code yX4_keepIfBetter prog_6_method_7_code 6 none ∈ T0 := T0_3 226 rfl rfl
theorem mm_3_227 : Cond.methodLink RX4 97 yX1_hindrance ∈ T0 := T0_3 227 (by decide +kernel) rfl
theorem mm_3_228 : Cond.methodLink RX4 100 yX1_pushedInHold ∈ T0 := T0_3 228 (by decide +kernel) rfl
theorem mm_3_229 : Cond.methodLink RX4 83 yX1_putIn ∈ T0 := T0_3 229 (by decide +kernel) rfl
theorem mm_3_230 : Cond.methodLink RX4 103 yX1_leanAt ∈ T0 := T0_3 230 (by decide +kernel) rfl
theorem mm_3_231 : Cond.methodLink RX4 107 yX1_takeOut ∈ T0 := T0_3 231 (by decide +kernel) rfl
theorem mm_3_232 : Cond.methodLink RL 135 yX7_late ∈ T0 := T0_3 232 (by decide +kernel) rfl
theorem mm_3_233 : Cond.instanceMethod yX7_late ∈ T0 := T0_3 233 (by decide +kernel) rfl
theorem mm_3_234 : Cond.selects RX7 yX7_late yX7_late ∈ T0 := T0_3 234 (by decide +kernel) rfl
theorem mm_3_235 : Cond.code yX7_late prog_1_method_31_code 3 (some .int) ∈ T0 := T0_3 235 rfl rfl
theorem mm_3_236 : Cond.methodLink RX7 258 yX0_seatLate ∈ T0 := T0_3 236 (by decide +kernel) rfl
theorem mm_3_237 : Cond.instanceMethod yX0_seatLate ∈ T0 := T0_3 237 (by decide +kernel) rfl
theorem mm_3_238 : Cond.selects RX0 yX0_seatLate yX0_seatLate ∈ T0 := T0_3 238 (by decide +kernel) rfl
theorem mm_3_239 : Cond.code yX0_seatLate prog_2_method_7_code 9 (some .int) ∈ T0 := T0_3 239 rfl rfl
theorem mm_4_0 : Cond.methodLink RX0 36 yX0_nearestRow ∈ T0 := T0_4 0 (by decide +kernel) rfl
theorem mm_4_2 : Cond.instanceMethod yX0_nearestRow ∈ T0 := T0_4 2 (by decide +kernel) rfl
theorem mm_4_3 : Cond.code yX0_nearestRow prog_2_method_8_code 10 (some .int) ∈ T0 := T0_4 3 rfl rfl
theorem mm_4_4 : Cond.methodLink RX0 40 yJ9_abs_067f4 ∈ T0 := T0_4 4 (by decide +kernel) rfl
theorem mm_4_5 : Cond.methodLink RL 139 yX7_count ∈ T0 := T0_4 5 (by decide +kernel) rfl
theorem mm_4_6 : Cond.instanceMethod yX7_count ∈ T0 := T0_4 6 (by decide +kernel) rfl
theorem mm_4_7 : Cond.selects RX7 yX7_count yX7_count ∈ T0 := T0_4 7 (by decide +kernel) rfl
theorem mm_4_8 : Cond.code yX7_count prog_1_method_32_code 2 (some .int) ∈ T0 := T0_4 8 rfl rfl
theorem mm_4_9 : Cond.methodLink RX7 265 yX1_slotsInAll ∈ T0 := T0_4 9 (by decide +kernel) rfl
theorem mm_4_10 : Cond.instanceMethod yX1_slotsInAll ∈ T0 := T0_4 10 (by decide +kernel) rfl
theorem mm_4_11 : Cond.selects RX1 yX1_slotsInAll yX1_slotsInAll ∈ T0 := T0_4 11 (by decide +kernel) rfl
theorem mm_4_12 : Cond.code yX1_slotsInAll prog_3_method_23_code 3 (some .int) ∈ T0 := T0_4 12 rfl rfl
theorem mm_4_13 : Cond.methodLink RX7 271 yX1_loadedInAll ∈ T0 := T0_4 13 (by decide +kernel) rfl
theorem mm_4_14 : Cond.instanceMethod yX1_loadedInAll ∈ T0 := T0_4 14 (by decide +kernel) rfl
theorem mm_4_15 : Cond.selects RX1 yX1_loadedInAll yX1_loadedInAll ∈ T0 := T0_4 15 (by decide +kernel) rfl
theorem mm_4_16 : Cond.code yX1_loadedInAll prog_3_method_24_code 3 (some .int) ∈ T0 := T0_4 16 rfl rfl
theorem mm_4_17 : Cond.methodLink RX7 274 yX0_passengers ∈ T0 := T0_4 17 (by decide +kernel) rfl
theorem mm_4_18 : Cond.classLink RL 10 RX8 ∈ T0 := T0_4 18 (by decide +kernel) rfl
theorem mm_4_19 : Cond.instantiable RX8 39 ∈ T0 := T0_4 19 (by decide +kernel) rfl
theorem mm_4_20 : Cond.methodLink RL 12 yX8_init ∈ T0 := T0_4 20 (by decide +kernel) rfl
theorem mm_4_21 : Cond.instanceMethod yX8_init ∈ T0 := T0_4 21 (by decide +kernel) rfl
theorem mm_4_22 : Cond.code yX8_init prog_10_method_3_code 2 none ∈ T0 := T0_4 22 rfl rfl
theorem mm_4_23 : Cond.methodLink RX8 9 objectInit ∈ T0 := T0_4 23 (by decide +kernel) rfl
theorem mm_4_24 : Cond.fieldLink RX8 15 "TrimSheetModel" "emptyWeight" "I" ∈ T0 := T0_4 24 (by decide +kernel) rfl
theorem mm_4_25 : Cond.fieldLink RX8 113 "TrimSheetModel" "emptyArm" "I" ∈ T0 := T0_4 25 (by decide +kernel) rfl
theorem mm_4_26 : Cond.fieldLink RX8 99 "TrimSheetModel" "holds" "I" ∈ T0 := T0_4 26 (by decide +kernel) rfl
theorem mm_4_27 : Cond.fieldLink RX8 18 "TrimSheetModel" "holdMost" "[I" ∈ T0 := T0_4 27 (by decide +kernel) rfl
theorem mm_4_28 : Cond.fieldLink RX8 22 "TrimSheetModel" "floor" "[I" ∈ T0 := T0_4 28 (by decide +kernel) rfl
theorem mm_4_29 : Cond.fieldLink RX8 25 "TrimSheetModel" "slots" "[I" ∈ T0 := T0_4 29 (by decide +kernel) rfl
theorem mm_4_30 : Cond.fieldLink RX8 28 "TrimSheetModel" "slotArm" "[I" ∈ T0 := T0_4 30 (by decide +kernel) rfl
theorem mm_4_31 : Cond.fieldLink RX8 31 "TrimSheetModel" "slotMost" "[I" ∈ T0 := T0_4 31 (by decide +kernel) rfl
theorem mm_4_32 : Cond.fieldLink RX8 34 "TrimSheetModel" "lies" "[I" ∈ T0 := T0_4 32 (by decide +kernel) rfl
theorem mm_4_33 : Cond.fieldLink RX8 37 "TrimSheetModel" "apart" "[I" ∈ T0 := T0_4 33 (by decide +kernel) rfl
theorem mm_4_34 : Cond.fieldLink RX8 106 "TrimSheetModel" "items" "I" ∈ T0 := T0_4 34 (by decide +kernel) rfl
theorem mm_4_35 : Cond.fieldLink RX8 40 "TrimSheetModel" "weight" "[I" ∈ T0 := T0_4 35 (by decide +kernel) rfl
theorem mm_4_36 : Cond.fieldLink RX8 43 "TrimSheetModel" "kind" "[I" ∈ T0 := T0_4 36 (by decide +kernel) rfl
theorem mm_4_37 : Cond.fieldLink RX8 46 "TrimSheetModel" "stop" "[I" ∈ T0 := T0_4 37 (by decide +kernel) rfl
theorem mm_4_38 : Cond.fieldLink RX8 49 "TrimSheetModel" "place" "[I" ∈ T0 := T0_4 38 (by decide +kernel) rfl
theorem mm_4_39 : Cond.fieldLink RX8 116 "TrimSheetModel" "rows" "I" ∈ T0 := T0_4 39 (by decide +kernel) rfl
theorem mm_4_40 : Cond.fieldLink RX8 52 "TrimSheetModel" "rowArm" "[I" ∈ T0 := T0_4 40 (by decide +kernel) rfl
theorem mm_4_41 : Cond.fieldLink RX8 55 "TrimSheetModel" "seats" "[I" ∈ T0 := T0_4 41 (by decide +kernel) rfl
theorem mm_4_42 : Cond.fieldLink RX8 58 "TrimSheetModel" "taken" "[I" ∈ T0 := T0_4 42 (by decide +kernel) rfl
theorem mm_4_43 : Cond.fieldLink RX8 119 "TrimSheetModel" "tanks" "I" ∈ T0 := T0_4 43 (by decide +kernel) rfl
theorem mm_4_44 : Cond.fieldLink RX8 61 "TrimSheetModel" "tankArm" "[I" ∈ T0 := T0_4 44 (by decide +kernel) rfl
theorem mm_4_45 : Cond.fieldLink RX8 64 "TrimSheetModel" "tankMost" "[I" ∈ T0 := T0_4 45 (by decide +kernel) rfl
theorem mm_4_46 : Cond.fieldLink RX8 67 "TrimSheetModel" "fuel" "[I" ∈ T0 := T0_4 46 (by decide +kernel) rfl
theorem mm_4_47 : Cond.fieldLink RX8 70 "TrimSheetModel" "person" "I" ∈ T0 := T0_4 47 (by decide +kernel) rfl
theorem mm_4_48 : Cond.fieldLink RX8 73 "TrimSheetModel" "points" "[I" ∈ T0 := T0_4 48 (by decide +kernel) rfl
theorem mm_4_49 : Cond.fieldLink RX8 76 "TrimSheetModel" "pointWeight" "[I" ∈ T0 := T0_4 49 (by decide +kernel) rfl
theorem mm_4_50 : Cond.fieldLink RX8 79 "TrimSheetModel" "pointLeast" "[I" ∈ T0 := T0_4 50 (by decide +kernel) rfl
theorem mm_4_51 : Cond.fieldLink RX8 82 "TrimSheetModel" "pointGreatest" "[I" ∈ T0 := T0_4 51 (by decide +kernel) rfl
theorem mm_4_52 : Cond.fieldLink RX8 188 "TrimSheetModel" "up" "J" ∈ T0 := T0_4 52 (by decide +kernel) rfl
theorem mm_4_53 : Cond.fieldLink RX8 185 "TrimSheetModel" "down" "I" ∈ T0 := T0_4 53 (by decide +kernel) rfl
theorem mm_4_54 : Cond.fieldLink RX8 85 "TrimSheetModel" "tried" "[Z" ∈ T0 := T0_4 54 (by decide +kernel) rfl
theorem mm_4_55 : Cond.fieldLink RX8 199 "TrimSheetModel" "wasUp" "J" ∈ T0 := T0_4 55 (by decide +kernel) rfl
theorem mm_4_56 : Cond.fieldLink RX8 202 "TrimSheetModel" "wasDown" "I" ∈ T0 := T0_4 56 (by decide +kernel) rfl
theorem mm_4_57 : Cond.fieldLink RX8 89 "TrimSheetModel" "few" "[I" ∈ T0 := T0_4 57 (by decide +kernel) rfl
theorem mm_4_58 : Cond.fieldLink RX8 221 "TrimSheetModel" "fews" "I" ∈ T0 := T0_4 58 (by decide +kernel) rfl
theorem mm_4_59 : Cond.fieldLink RX8 92 "TrimSheetModel" "bestAt" "[I" ∈ T0 := T0_4 59 (by decide +kernel) rfl
theorem mm_4_60 : Cond.fieldLink RX8 224 "TrimSheetModel" "bestPushed" "I" ∈ T0 := T0_4 60 (by decide +kernel) rfl
theorem mm_4_61 : Cond.fieldLink RX8 227 "TrimSheetModel" "bestUp" "J" ∈ T0 := T0_4 61 (by decide +kernel) rfl
theorem mm_4_141 : Cond.arrayClass Jvm.ClassFile.FieldType.boolean ∈ T0 := T0_4 141 (by decide +kernel) rfl
theorem mm_4_142 : Cond.methodLink RL 17 yX8_empty ∈ T0 := T0_4 142 (by decide +kernel) rfl
theorem mm_4_143 : Cond.instanceMethod yX8_empty ∈ T0 := T0_4 143 (by decide +kernel) rfl
theorem mm_4_144 : Cond.selects RX8 yX8_empty yX8_empty ∈ T0 := T0_4 144 (by decide +kernel) rfl
theorem mm_4_145 : Cond.code yX8_empty prog_10_method_8_code 3 (some .int) ∈ T0 := T0_4 145 rfl rfl
theorem mm_4_146 : Cond.constant RX8 109 (100000) ∈ T0 := T0_4 146 (by decide +kernel) rfl
theorem mm_4_147 : Cond.methodLink RX8 95 yX8_isIn ∈ T0 := T0_4 147 (by decide +kernel) rfl
theorem mm_4_148 : Cond.static yX8_isIn ∈ T0 := T0_4 148 (by decide +kernel) rfl
theorem mm_4_149 : Cond.code yX8_isIn prog_10_method_2_code 3 (some .boolean) ∈ T0 := T0_4 149 rfl rfl
theorem mm_4_150 : Cond.methodLink RX8 110 yX8_isArm ∈ T0 := T0_4 150 (by decide +kernel) rfl
theorem mm_4_151 : Cond.static yX8_isArm ∈ T0 := T0_4 151 (by decide +kernel) rfl
theorem mm_4_152 : Cond.code yX8_isArm prog_10_method_4_code 1 (some .boolean) ∈ T0 := T0_4 152 rfl rfl
theorem mm_4_153 : Cond.methodLink RL 21 yX8_hold ∈ T0 := T0_4 153 (by decide +kernel) rfl
theorem mm_4_154 : Cond.instanceMethod yX8_hold ∈ T0 := T0_4 154 (by decide +kernel) rfl
theorem mm_4_155 : Cond.selects RX8 yX8_hold yX8_hold ∈ T0 := T0_4 155 (by decide +kernel) rfl
theorem mm_4_156 : Cond.code yX8_hold prog_10_method_9_code 3 (some .int) ∈ T0 := T0_4 156 rfl rfl
theorem mm_4_157 : Cond.methodLink RL 26 yX8_slot ∈ T0 := T0_4 157 (by decide +kernel) rfl
theorem mm_4_158 : Cond.instanceMethod yX8_slot ∈ T0 := T0_4 158 (by decide +kernel) rfl
theorem mm_4_159 : Cond.selects RX8 yX8_slot yX8_slot ∈ T0 := T0_4 159 (by decide +kernel) rfl
theorem mm_4_160 : Cond.code yX8_slot prog_10_method_10_code 5 (some .int) ∈ T0 := T0_4 160 rfl rfl
theorem mm_4_161 : Cond.methodLink RX8 102 yX8_isHold ∈ T0 := T0_4 161 (by decide +kernel) rfl
theorem mm_4_163 : Cond.instanceMethod yX8_isHold ∈ T0 := T0_4 163 (by decide +kernel) rfl
theorem mm_4_164 : Cond.code yX8_isHold prog_10_method_5_code 2 (some .boolean) ∈ T0 := T0_4 164 rfl rfl
theorem mm_4_165 : Cond.methodLink RL 30 yX8_apart ∈ T0 := T0_4 165 (by decide +kernel) rfl
theorem mm_4_166 : Cond.instanceMethod yX8_apart ∈ T0 := T0_4 166 (by decide +kernel) rfl
theorem mm_4_167 : Cond.selects RX8 yX8_apart yX8_apart ∈ T0 := T0_4 167 (by decide +kernel) rfl
theorem mm_4_168 : Cond.code yX8_apart prog_10_method_11_code 5 (some .int) ∈ T0 := T0_4 168 rfl rfl
theorem mm_4_169 : Cond.methodLink RL 34 yX8_item ∈ T0 := T0_4 169 (by decide +kernel) rfl
theorem mm_4_170 : Cond.instanceMethod yX8_item ∈ T0 := T0_4 170 (by decide +kernel) rfl
theorem mm_4_171 : Cond.selects RX8 yX8_item yX8_item ∈ T0 := T0_4 171 (by decide +kernel) rfl
theorem mm_4_172 : Cond.code yX8_item prog_10_method_12_code 4 (some .int) ∈ T0 := T0_4 172 rfl rfl
theorem mm_4_173 : Cond.methodLink RL 38 yX8_row ∈ T0 := T0_4 173 (by decide +kernel) rfl
theorem mm_4_174 : Cond.instanceMethod yX8_row ∈ T0 := T0_4 174 (by decide +kernel) rfl
theorem mm_4_175 : Cond.selects RX8 yX8_row yX8_row ∈ T0 := T0_4 175 (by decide +kernel) rfl
theorem mm_4_176 : Cond.code yX8_row prog_10_method_13_code 3 (some .int) ∈ T0 := T0_4 176 rfl rfl
theorem mm_4_177 : Cond.methodLink RL 42 yX8_tank ∈ T0 := T0_4 177 (by decide +kernel) rfl
theorem mm_4_178 : Cond.instanceMethod yX8_tank ∈ T0 := T0_4 178 (by decide +kernel) rfl
theorem mm_4_179 : Cond.selects RX8 yX8_tank yX8_tank ∈ T0 := T0_4 179 (by decide +kernel) rfl
theorem mm_4_180 : Cond.code yX8_tank prog_10_method_14_code 3 (some .int) ∈ T0 := T0_4 180 rfl rfl
theorem mm_4_181 : Cond.methodLink RL 47 yX8_person ∈ T0 := T0_4 181 (by decide +kernel) rfl
theorem mm_4_182 : Cond.instanceMethod yX8_person ∈ T0 := T0_4 182 (by decide +kernel) rfl
theorem mm_4_183 : Cond.selects RX8 yX8_person yX8_person ∈ T0 := T0_4 183 (by decide +kernel) rfl
theorem mm_4_184 : Cond.code yX8_person prog_10_method_15_code 3 (some .int) ∈ T0 := T0_4 184 rfl rfl
theorem mm_4_185 : Cond.methodLink RL 51 yX8_seat ∈ T0 := T0_4 185 (by decide +kernel) rfl
theorem mm_4_186 : Cond.instanceMethod yX8_seat ∈ T0 := T0_4 186 (by decide +kernel) rfl
theorem mm_4_187 : Cond.selects RX8 yX8_seat yX8_seat ∈ T0 := T0_4 187 (by decide +kernel) rfl
theorem mm_4_188 : Cond.code yX8_seat prog_10_method_16_code 4 (some .int) ∈ T0 := T0_4 188 rfl rfl
theorem mm_4_189 : Cond.methodLink RL 55 yX8_fuel ∈ T0 := T0_4 189 (by decide +kernel) rfl
theorem mm_4_190 : Cond.instanceMethod yX8_fuel ∈ T0 := T0_4 190 (by decide +kernel) rfl
theorem mm_4_191 : Cond.selects RX8 yX8_fuel yX8_fuel ∈ T0 := T0_4 191 (by decide +kernel) rfl
theorem mm_4_192 : Cond.code yX8_fuel prog_10_method_17_code 4 (some .int) ∈ T0 := T0_4 192 rfl rfl
theorem mm_4_193 : Cond.methodLink RL 60 yX8_point ∈ T0 := T0_4 193 (by decide +kernel) rfl
theorem mm_4_194 : Cond.instanceMethod yX8_point ∈ T0 := T0_4 194 (by decide +kernel) rfl
theorem mm_4_195 : Cond.selects RX8 yX8_point yX8_point ∈ T0 := T0_4 195 (by decide +kernel) rfl
theorem mm_4_196 : Cond.code yX8_point prog_10_method_18_code 6 (some .int) ∈ T0 := T0_4 196 rfl rfl
theorem mm_4_197 : Cond.constant RX8 122 (1000000) ∈ T0 := T0_4 197 (by decide +kernel) rfl
theorem mm_4_198 : Cond.methodLink RL 64 yX8_wipe ∈ T0 := T0_4 198 (by decide +kernel) rfl
theorem mm_4_199 : Cond.instanceMethod yX8_wipe ∈ T0 := T0_4 199 (by decide +kernel) rfl
theorem mm_4_200 : Cond.selects RX8 yX8_wipe yX8_wipe ∈ T0 := T0_4 200 (by decide +kernel) rfl
theorem mm_4_201 : Cond.code yX8_wipe prog_10_method_19_code 3 (some .int) ∈ T0 := T0_4 201 rfl rfl
theorem mm_4_202 : Cond.methodLink RL 68 yX8_fits ∈ T0 := T0_4 202 (by decide +kernel) rfl
theorem mm_4_203 : Cond.instanceMethod yX8_fits ∈ T0 := T0_4 203 (by decide +kernel) rfl
theorem mm_4_204 : Cond.selects RX8 yX8_fits yX8_fits ∈ T0 := T0_4 204 (by decide +kernel) rfl
theorem mm_4_205 : Cond.code yX8_fits prog_10_method_25_code 4 (some .int) ∈ T0 := T0_4 205 rfl rfl
theorem mm_4_206 : Cond.methodLink RX8 130 yX8_isItem ∈ T0 := T0_4 206 (by decide +kernel) rfl
theorem mm_4_208 : Cond.instanceMethod yX8_isItem ∈ T0 := T0_4 208 (by decide +kernel) rfl
theorem mm_4_209 : Cond.code yX8_isItem prog_10_method_7_code 2 (some .boolean) ∈ T0 := T0_4 209 rfl rfl
theorem mm_4_210 : Cond.methodLink RX8 133 yX8_isSlot ∈ T0 := T0_4 210 (by decide +kernel) rfl
theorem mm_4_212 : Cond.instanceMethod yX8_isSlot ∈ T0 := T0_4 212 (by decide +kernel) rfl
theorem mm_4_213 : Cond.code yX8_isSlot prog_10_method_6_code 3 (some .boolean) ∈ T0 := T0_4 213 rfl rfl
theorem mm_4_214 : Cond.methodLink RX8 137 yX8_fitsAt ∈ T0 := T0_4 214 (by decide +kernel) rfl
theorem mm_4_216 : Cond.instanceMethod yX8_fitsAt ∈ T0 := T0_4 216 (by decide +kernel) rfl
theorem mm_4_217 : Cond.code yX8_fitsAt prog_10_method_22_code 7 (some .int) ∈ T0 := T0_4 217 rfl rfl
theorem mm_4_218 : Cond.methodLink RX8 127 yX8_weightOf ∈ T0 := T0_4 218 (by decide +kernel) rfl
theorem mm_4_220 : Cond.instanceMethod yX8_weightOf ∈ T0 := T0_4 220 (by decide +kernel) rfl
theorem mm_4_221 : Cond.code yX8_weightOf prog_10_method_21_code 4 (some .int) ∈ T0 := T0_4 221 rfl rfl
theorem mm_4_222 : Cond.methodLink RX8 123 yX8_weightAt ∈ T0 := T0_4 222 (by decide +kernel) rfl
theorem mm_4_224 : Cond.instanceMethod yX8_weightAt ∈ T0 := T0_4 224 (by decide +kernel) rfl
theorem mm_4_225 : Cond.code yX8_weightAt prog_10_method_20_code 2 (some .int) ∈ T0 := T0_4 225 rfl rfl
theorem mm_4_226 : Cond.methodLink RL 72 yX8_load ∈ T0 := T0_4 226 (by decide +kernel) rfl
theorem mm_4_227 : Cond.instanceMethod yX8_load ∈ T0 := T0_4 227 (by decide +kernel) rfl
theorem mm_4_228 : Cond.selects RX8 yX8_load yX8_load ∈ T0 := T0_4 228 (by decide +kernel) rfl
theorem mm_4_229 : Cond.code yX8_load prog_10_method_26_code 5 (some .int) ∈ T0 := T0_4 229 rfl rfl
theorem mm_4_230 : Cond.methodLink RX8 141 yX8_fits ∈ T0 := T0_4 230 (by decide +kernel) rfl
theorem mm_4_231 : Cond.methodLink RX8 145 yX8_put ∈ T0 := T0_4 231 (by decide +kernel) rfl
theorem mm_4_233 : Cond.instanceMethod yX8_put ∈ T0 := T0_4 233 (by decide +kernel) rfl
theorem mm_4_234 : Cond.code yX8_put prog_10_method_23_code 3 none ∈ T0 := T0_4 234 rfl rfl
theorem mm_4_235 : Cond.methodLink RL 76 yX8_unload ∈ T0 := T0_4 235 (by decide +kernel) rfl
theorem mm_4_236 : Cond.instanceMethod yX8_unload ∈ T0 := T0_4 236 (by decide +kernel) rfl
theorem mm_4_237 : Cond.selects RX8 yX8_unload yX8_unload ∈ T0 := T0_4 237 (by decide +kernel) rfl
theorem mm_4_238 : Cond.code yX8_unload prog_10_method_27_code 2 (some .int) ∈ T0 := T0_4 238 rfl rfl
theorem mm_4_239 : Cond.methodLink RX8 149 yX8_take ∈ T0 := T0_4 239 (by decide +kernel) rfl
theorem mm_5_1 : Cond.instanceMethod yX8_take ∈ T0 := T0_5 1 (by decide +kernel) rfl
theorem mm_5_2 : Cond.code yX8_take prog_10_method_24_code 2 none ∈ T0 := T0_5 2 rfl rfl
theorem mm_5_3 : Cond.methodLink RL 80 yX8_where ∈ T0 := T0_5 3 (by decide +kernel) rfl
theorem mm_5_4 : Cond.instanceMethod yX8_where ∈ T0 := T0_5 4 (by decide +kernel) rfl
theorem mm_5_5 : Cond.selects RX8 yX8_where yX8_where ∈ T0 := T0_5 5 (by decide +kernel) rfl
theorem mm_5_6 : Cond.code yX8_where prog_10_method_28_code 2 (some .int) ∈ T0 := T0_5 6 rfl rfl
theorem mm_5_7 : Cond.methodLink RL 84 yX8_in ∈ T0 := T0_5 7 (by decide +kernel) rfl
theorem mm_5_8 : Cond.instanceMethod yX8_in ∈ T0 := T0_5 8 (by decide +kernel) rfl
theorem mm_5_9 : Cond.selects RX8 yX8_in yX8_in ∈ T0 := T0_5 9 (by decide +kernel) rfl
theorem mm_5_10 : Cond.code yX8_in prog_10_method_29_code 3 (some .int) ∈ T0 := T0_5 10 rfl rfl
theorem mm_5_11 : Cond.methodLink RL 88 yX8_about ∈ T0 := T0_5 11 (by decide +kernel) rfl
theorem mm_5_12 : Cond.instanceMethod yX8_about ∈ T0 := T0_5 12 (by decide +kernel) rfl
theorem mm_5_13 : Cond.selects RX8 yX8_about yX8_about ∈ T0 := T0_5 13 (by decide +kernel) rfl
theorem mm_5_14 : Cond.code yX8_about prog_10_method_30_code 6 (some .int) ∈ T0 := T0_5 14 rfl rfl
theorem mm_5_15 : Cond.methodLink RL 92 yX8_weight ∈ T0 := T0_5 15 (by decide +kernel) rfl
theorem mm_5_16 : Cond.instanceMethod yX8_weight ∈ T0 := T0_5 16 (by decide +kernel) rfl
theorem mm_5_17 : Cond.selects RX8 yX8_weight yX8_weight ∈ T0 := T0_5 17 (by decide +kernel) rfl
theorem mm_5_18 : Cond.code yX8_weight prog_10_method_35_code 2 (some .int) ∈ T0 := T0_5 18 rfl rfl
theorem mm_5_19 : Cond.methodLink RX8 153 yX8_dryWeight ∈ T0 := T0_5 19 (by decide +kernel) rfl
theorem mm_5_21 : Cond.instanceMethod yX8_dryWeight ∈ T0 := T0_5 21 (by decide +kernel) rfl
theorem mm_5_22 : Cond.code yX8_dryWeight prog_10_method_31_code 3 (some .int) ∈ T0 := T0_5 22 rfl rfl
theorem mm_5_23 : Cond.methodLink RX8 157 yX8_allFuel ∈ T0 := T0_5 23 (by decide +kernel) rfl
theorem mm_5_25 : Cond.instanceMethod yX8_allFuel ∈ T0 := T0_5 25 (by decide +kernel) rfl
theorem mm_5_26 : Cond.code yX8_allFuel prog_10_method_33_code 3 (some .int) ∈ T0 := T0_5 26 rfl rfl
theorem mm_5_27 : Cond.methodLink RL 97 yX8_moment ∈ T0 := T0_5 27 (by decide +kernel) rfl
theorem mm_5_28 : Cond.instanceMethod yX8_moment ∈ T0 := T0_5 28 (by decide +kernel) rfl
theorem mm_5_29 : Cond.selects RX8 yX8_moment yX8_moment ∈ T0 := T0_5 29 (by decide +kernel) rfl
theorem mm_5_30 : Cond.code yX8_moment prog_10_method_36_code 2 (some .long) ∈ T0 := T0_5 30 rfl rfl
theorem mm_5_31 : Cond.methodLink RX8 160 yX8_dryMoment ∈ T0 := T0_5 31 (by decide +kernel) rfl
theorem mm_5_33 : Cond.instanceMethod yX8_dryMoment ∈ T0 := T0_5 33 (by decide +kernel) rfl
theorem mm_5_34 : Cond.code yX8_dryMoment prog_10_method_32_code 5 (some .long) ∈ T0 := T0_5 34 rfl rfl
theorem mm_5_35 : Cond.methodLink RX8 164 yX8_fuelMoment ∈ T0 := T0_5 35 (by decide +kernel) rfl
theorem mm_5_37 : Cond.instanceMethod yX8_fuelMoment ∈ T0 := T0_5 37 (by decide +kernel) rfl
theorem mm_5_38 : Cond.code yX8_fuelMoment prog_10_method_34_code 7 (some .long) ∈ T0 := T0_5 38 rfl rfl
theorem mm_5_39 : Cond.constantLong RX8 168 (-9223372036854775808) ∈ T0 := T0_5 39 (by decide +kernel) rfl
theorem mm_5_40 : Cond.methodLink RL 102 yX8_burnt ∈ T0 := T0_5 40 (by decide +kernel) rfl
theorem mm_5_41 : Cond.instanceMethod yX8_burnt ∈ T0 := T0_5 41 (by decide +kernel) rfl
theorem mm_5_42 : Cond.selects RX8 yX8_burnt yX8_burnt ∈ T0 := T0_5 42 (by decide +kernel) rfl
theorem mm_5_43 : Cond.code yX8_burnt prog_10_method_37_code 3 (some .long) ∈ T0 := T0_5 43 rfl rfl
theorem mm_5_44 : Cond.methodLink RL 106 yX8_within ∈ T0 := T0_5 44 (by decide +kernel) rfl
theorem mm_5_45 : Cond.instanceMethod yX8_within ∈ T0 := T0_5 45 (by decide +kernel) rfl
theorem mm_5_46 : Cond.selects RX8 yX8_within yX8_within ∈ T0 := T0_5 46 (by decide +kernel) rfl
theorem mm_5_47 : Cond.code yX8_within prog_10_method_39_code 2 (some .int) ∈ T0 := T0_5 47 rfl rfl
theorem mm_5_48 : Cond.methodLink RX8 170 yX8_lies ∈ T0 := T0_5 48 (by decide +kernel) rfl
theorem mm_5_50 : Cond.instanceMethod yX8_lies ∈ T0 := T0_5 50 (by decide +kernel) rfl
theorem mm_5_51 : Cond.code yX8_lies prog_10_method_38_code 17 (some .int) ∈ T0 := T0_5 51 rfl rfl
theorem mm_5_52 : Cond.methodLink RL 110 yX8_safe ∈ T0 := T0_5 52 (by decide +kernel) rfl
theorem mm_5_53 : Cond.instanceMethod yX8_safe ∈ T0 := T0_5 53 (by decide +kernel) rfl
theorem mm_5_54 : Cond.selects RX8 yX8_safe yX8_safe ∈ T0 := T0_5 54 (by decide +kernel) rfl
theorem mm_5_55 : Cond.code yX8_safe prog_10_method_41_code 2 (some .int) ∈ T0 := T0_5 55 rfl rfl
theorem mm_5_56 : Cond.methodLink RX8 173 yX8_within ∈ T0 := T0_5 56 (by decide +kernel) rfl
theorem mm_5_57 : Cond.methodLink RX8 176 yX8_firstWrong ∈ T0 := T0_5 57 (by decide +kernel) rfl
theorem mm_5_59 : Cond.instanceMethod yX8_firstWrong ∈ T0 := T0_5 59 (by decide +kernel) rfl
theorem mm_5_60 : Cond.code yX8_firstWrong prog_10_method_40_code 8 (some .int) ∈ T0 := T0_5 60 rfl rfl
theorem mm_5_61 : Cond.methodLink RL 114 yX8_wrong ∈ T0 := T0_5 61 (by decide +kernel) rfl
theorem mm_5_62 : Cond.instanceMethod yX8_wrong ∈ T0 := T0_5 62 (by decide +kernel) rfl
theorem mm_5_63 : Cond.selects RX8 yX8_wrong yX8_wrong ∈ T0 := T0_5 63 (by decide +kernel) rfl
theorem mm_5_64 : Cond.code yX8_wrong prog_10_method_42_code 2 (some .int) ∈ T0 := T0_5 64 rfl rfl
theorem mm_5_65 : Cond.methodLink RL 118 yX8_pushed ∈ T0 := T0_5 65 (by decide +kernel) rfl
theorem mm_5_66 : Cond.instanceMethod yX8_pushed ∈ T0 := T0_5 66 (by decide +kernel) rfl
theorem mm_5_67 : Cond.selects RX8 yX8_pushed yX8_pushed ∈ T0 := T0_5 67 (by decide +kernel) rfl
theorem mm_5_68 : Cond.code yX8_pushed prog_10_method_45_code 2 (some .int) ∈ T0 := T0_5 68 rfl rfl
theorem mm_5_69 : Cond.methodLink RX8 182 yX8_pushedAll ∈ T0 := T0_5 69 (by decide +kernel) rfl
theorem mm_5_71 : Cond.instanceMethod yX8_pushedAll ∈ T0 := T0_5 71 (by decide +kernel) rfl
theorem mm_5_72 : Cond.code yX8_pushedAll prog_10_method_44_code 3 (some .int) ∈ T0 := T0_5 72 rfl rfl
theorem mm_5_73 : Cond.methodLink RX8 179 yX8_pushedAt ∈ T0 := T0_5 73 (by decide +kernel) rfl
theorem mm_5_75 : Cond.instanceMethod yX8_pushedAt ∈ T0 := T0_5 75 (by decide +kernel) rfl
theorem mm_5_76 : Cond.code yX8_pushedAt prog_10_method_43_code 7 (some .int) ∈ T0 := T0_5 76 rfl rfl
theorem mm_5_77 : Cond.methodLink RL 122 yX8_arrive ∈ T0 := T0_5 77 (by decide +kernel) rfl
theorem mm_5_78 : Cond.instanceMethod yX8_arrive ∈ T0 := T0_5 78 (by decide +kernel) rfl
theorem mm_5_79 : Cond.selects RX8 yX8_arrive yX8_arrive ∈ T0 := T0_5 79 (by decide +kernel) rfl
theorem mm_5_80 : Cond.code yX8_arrive prog_10_method_46_code 4 (some .int) ∈ T0 := T0_5 80 rfl rfl
theorem mm_5_81 : Cond.methodLink RL 126 yX8_loadAll ∈ T0 := T0_5 81 (by decide +kernel) rfl
theorem mm_5_82 : Cond.instanceMethod yX8_loadAll ∈ T0 := T0_5 82 (by decide +kernel) rfl
theorem mm_5_83 : Cond.selects RX8 yX8_loadAll yX8_loadAll ∈ T0 := T0_5 83 (by decide +kernel) rfl
theorem mm_5_84 : Cond.code yX8_loadAll prog_10_method_50_code 6 (some .int) ∈ T0 := T0_5 84 rfl rfl
theorem mm_5_85 : Cond.methodLink RX8 196 yX8_placeFor ∈ T0 := T0_5 85 (by decide +kernel) rfl
theorem mm_5_87 : Cond.instanceMethod yX8_placeFor ∈ T0 := T0_5 87 (by decide +kernel) rfl
theorem mm_5_88 : Cond.code yX8_placeFor prog_10_method_49_code 10 (some .int) ∈ T0 := T0_5 88 rfl rfl
theorem mm_5_89 : Cond.methodLink RX8 192 yX8_far ∈ T0 := T0_5 89 (by decide +kernel) rfl
theorem mm_5_91 : Cond.instanceMethod yX8_far ∈ T0 := T0_5 91 (by decide +kernel) rfl
theorem mm_5_92 : Cond.code yX8_far prog_10_method_47_code 5 none ∈ T0 := T0_5 92 rfl rfl
theorem mm_5_93 : Cond.methodLink RL 130 yX8_better ∈ T0 := T0_5 93 (by decide +kernel) rfl
theorem mm_5_94 : Cond.instanceMethod yX8_better ∈ T0 := T0_5 94 (by decide +kernel) rfl
theorem mm_5_95 : Cond.selects RX8 yX8_better yX8_better ∈ T0 := T0_5 95 (by decide +kernel) rfl
theorem mm_5_96 : Cond.code yX8_better prog_10_method_55_code 3 (some .int) ∈ T0 := T0_5 96 rfl rfl
theorem mm_5_97 : Cond.methodLink RX8 218 yX8_betters ∈ T0 := T0_5 97 (by decide +kernel) rfl
theorem mm_5_99 : Cond.instanceMethod yX8_betters ∈ T0 := T0_5 99 (by decide +kernel) rfl
theorem mm_5_100 : Cond.code yX8_betters prog_10_method_54_code 4 (some .boolean) ∈ T0 := T0_5 100 rfl rfl
theorem mm_5_101 : Cond.methodLink RX8 212 yX8_swaps ∈ T0 := T0_5 101 (by decide +kernel) rfl
theorem mm_5_103 : Cond.instanceMethod yX8_swaps ∈ T0 := T0_5 103 (by decide +kernel) rfl
theorem mm_5_104 : Cond.code yX8_swaps prog_10_method_52_code 6 (some .boolean) ∈ T0 := T0_5 104 rfl rfl
theorem mm_5_105 : Cond.methodLink RX8 209 yX8_isBetter ∈ T0 := T0_5 105 (by decide +kernel) rfl
theorem mm_5_107 : Cond.instanceMethod yX8_isBetter ∈ T0 := T0_5 107 (by decide +kernel) rfl
theorem mm_5_108 : Cond.code yX8_isBetter prog_10_method_51_code 2 (some .boolean) ∈ T0 := T0_5 108 rfl rfl
theorem mm_5_109 : Cond.methodLink RX8 205 yX8_isNearer ∈ T0 := T0_5 109 (by decide +kernel) rfl
theorem mm_5_111 : Cond.instanceMethod yX8_isNearer ∈ T0 := T0_5 111 (by decide +kernel) rfl
theorem mm_5_112 : Cond.code yX8_isNearer prog_10_method_48_code 7 (some .boolean) ∈ T0 := T0_5 112 rfl rfl
theorem mm_5_113 : Cond.methodLink RX8 215 yX8_moves ∈ T0 := T0_5 113 (by decide +kernel) rfl
theorem mm_5_115 : Cond.instanceMethod yX8_moves ∈ T0 := T0_5 115 (by decide +kernel) rfl
theorem mm_5_116 : Cond.code yX8_moves prog_10_method_53_code 5 (some .boolean) ∈ T0 := T0_5 116 rfl rfl
theorem mm_5_117 : Cond.methodLink RL 134 yX8_best ∈ T0 := T0_5 117 (by decide +kernel) rfl
theorem mm_5_118 : Cond.instanceMethod yX8_best ∈ T0 := T0_5 118 (by decide +kernel) rfl
theorem mm_5_119 : Cond.selects RX8 yX8_best yX8_best ∈ T0 := T0_5 119 (by decide +kernel) rfl
theorem mm_5_120 : Cond.code yX8_best prog_10_method_57_code 4 (some .int) ∈ T0 := T0_5 120 rfl rfl
theorem mm_5_121 : Cond.methodLink RX8 230 yX8_tries ∈ T0 := T0_5 121 (by decide +kernel) rfl
theorem mm_5_123 : Cond.instanceMethod yX8_tries ∈ T0 := T0_5 123 (by decide +kernel) rfl
theorem mm_5_124 : Cond.code yX8_tries prog_10_method_56_code 5 none ∈ T0 := T0_5 124 rfl rfl
theorem mm_5_125 : Cond.methodLink RL 138 yX8_late ∈ T0 := T0_5 125 (by decide +kernel) rfl
theorem mm_5_126 : Cond.instanceMethod yX8_late ∈ T0 := T0_5 126 (by decide +kernel) rfl
theorem mm_5_127 : Cond.selects RX8 yX8_late yX8_late ∈ T0 := T0_5 127 (by decide +kernel) rfl
theorem mm_5_128 : Cond.code yX8_late prog_10_method_58_code 9 (some .int) ∈ T0 := T0_5 128 rfl rfl
theorem mm_5_129 : Cond.methodLink RL 142 yX8_count ∈ T0 := T0_5 129 (by decide +kernel) rfl
theorem mm_5_130 : Cond.instanceMethod yX8_count ∈ T0 := T0_5 130 (by decide +kernel) rfl
theorem mm_5_131 : Cond.selects RX8 yX8_count yX8_count ∈ T0 := T0_5 131 (by decide +kernel) rfl
theorem mm_5_132 : Cond.code yX8_count prog_10_method_59_code 4 (some .int) ∈ T0 := T0_5 132 rfl rfl
theorem ms_0 : Cond.selects RX1 yX1_rankByWeight yX1_rankByWeight ∈ T0 := T0_s 0 (by decide +kernel) rfl
theorem ms_1 : Cond.selects RX7 yX7_limitsOf yX7_limitsOf ∈ T0 := T0_s 1 (by decide +kernel) rfl
theorem ms_2 : Cond.selects RX1 yX1_isTooMuchForFloor yX1_isTooMuchForFloor ∈ T0 := T0_s 2 (by decide +kernel) rfl
theorem ms_3 : Cond.selects RX1 yX1_isTooNear yX1_isTooNear ∈ T0 := T0_s 3 (by decide +kernel) rfl
theorem ms_4 : Cond.selects RX7 yX7_dryWeight yX7_dryWeight ∈ T0 := T0_s 4 (by decide +kernel) rfl
theorem ms_5 : Cond.selects RX7 yX7_dryMoment yX7_dryMoment ∈ T0 := T0_s 5 (by decide +kernel) rfl
theorem ms_6 : Cond.selects RX0 yX0_leanIn yX0_leanIn ∈ T0 := T0_s 6 (by decide +kernel) rfl
theorem ms_7 : Cond.selects RX2 yX2_firstOutside yX2_firstOutside ∈ T0 := T0_s 7 (by decide +kernel) rfl
theorem ms_8 : Cond.selects RX2 yX2_firstWithoutRoom yX2_firstWithoutRoom ∈ T0 := T0_s 8 (by decide +kernel) rfl
theorem ms_9 : Cond.selects RX2 yX2_room yX2_room ∈ T0 := T0_s 9 (by decide +kernel) rfl
theorem ms_10 : Cond.selects RX2 yX2_isHollow yX2_isHollow ∈ T0 := T0_s 10 (by decide +kernel) rfl
theorem ms_11 : Cond.selects RX2 yX2_bottom yX2_bottom ∈ T0 := T0_s 11 (by decide +kernel) rfl
theorem ms_12 : Cond.selects RX7 yX7_lean yX7_lean ∈ T0 := T0_s 12 (by decide +kernel) rfl
theorem ms_13 : Cond.selects RX1 yX1_nearestPlace yX1_nearestPlace ∈ T0 := T0_s 13 (by decide +kernel) rfl
theorem ms_14 : Cond.selects RX5 yX5_doFirstGoodSwapOf yX5_doFirstGoodSwapOf ∈ T0 := T0_s 14 (by decide +kernel) rfl
theorem ms_15 : Cond.selects RX5 yX5_isNearerSwapped yX5_isNearerSwapped ∈ T0 := T0_s 15 (by decide +kernel) rfl
theorem ms_16 : Cond.selects RX5 yX5_swapIfBothFit yX5_swapIfBothFit ∈ T0 := T0_s 16 (by decide +kernel) rfl
theorem ms_17 : Cond.selects RX5 yX5_moveIfGood yX5_moveIfGood ∈ T0 := T0_s 17 (by decide +kernel) rfl
theorem ms_18 : Cond.selects RX5 yX5_firstGoodPlace yX5_firstGoodPlace ∈ T0 := T0_s 18 (by decide +kernel) rfl
theorem ms_19 : Cond.selects RX4 yX4_gatherWaiting yX4_gatherWaiting ∈ T0 := T0_s 19 (by decide +kernel) rfl
theorem ms_20 : Cond.selects RX4 yX4_gatherFree yX4_gatherFree ∈ T0 := T0_s 20 (by decide +kernel) rfl
theorem ms_21 : Cond.selects RX4 yX4_tryAllFrom yX4_tryAllFrom ∈ T0 := T0_s 21 (by decide +kernel) rfl
theorem ms_22 : Cond.selects RX4 yX4_keepIfBetter yX4_keepIfBetter ∈ T0 := T0_s 22 (by decide +kernel) rfl
theorem ms_23 : Cond.selects RX0 yX0_nearestRow yX0_nearestRow ∈ T0 := T0_s 23 (by decide +kernel) rfl
theorem ms_24 : Cond.selects RX8 yX8_isHold yX8_isHold ∈ T0 := T0_s 24 (by decide +kernel) rfl
theorem ms_25 : Cond.selects RX8 yX8_isItem yX8_isItem ∈ T0 := T0_s 25 (by decide +kernel) rfl
theorem ms_26 : Cond.selects RX8 yX8_isSlot yX8_isSlot ∈ T0 := T0_s 26 (by decide +kernel) rfl
theorem ms_27 : Cond.selects RX8 yX8_fitsAt yX8_fitsAt ∈ T0 := T0_s 27 (by decide +kernel) rfl
theorem ms_28 : Cond.selects RX8 yX8_weightOf yX8_weightOf ∈ T0 := T0_s 28 (by decide +kernel) rfl
theorem ms_29 : Cond.selects RX8 yX8_weightAt yX8_weightAt ∈ T0 := T0_s 29 (by decide +kernel) rfl
theorem ms_30 : Cond.selects RX8 yX8_put yX8_put ∈ T0 := T0_s 30 (by decide +kernel) rfl
theorem ms_31 : Cond.selects RX8 yX8_take yX8_take ∈ T0 := T0_s 31 (by decide +kernel) rfl
theorem ms_32 : Cond.selects RX8 yX8_dryWeight yX8_dryWeight ∈ T0 := T0_s 32 (by decide +kernel) rfl
theorem ms_33 : Cond.selects RX8 yX8_allFuel yX8_allFuel ∈ T0 := T0_s 33 (by decide +kernel) rfl
theorem ms_34 : Cond.selects RX8 yX8_dryMoment yX8_dryMoment ∈ T0 := T0_s 34 (by decide +kernel) rfl
theorem ms_35 : Cond.selects RX8 yX8_fuelMoment yX8_fuelMoment ∈ T0 := T0_s 35 (by decide +kernel) rfl
theorem ms_36 : Cond.selects RX8 yX8_lies yX8_lies ∈ T0 := T0_s 36 (by decide +kernel) rfl
theorem ms_37 : Cond.selects RX8 yX8_firstWrong yX8_firstWrong ∈ T0 := T0_s 37 (by decide +kernel) rfl
theorem ms_38 : Cond.selects RX8 yX8_pushedAll yX8_pushedAll ∈ T0 := T0_s 38 (by decide +kernel) rfl
theorem ms_39 : Cond.selects RX8 yX8_pushedAt yX8_pushedAt ∈ T0 := T0_s 39 (by decide +kernel) rfl
theorem ms_40 : Cond.selects RX8 yX8_placeFor yX8_placeFor ∈ T0 := T0_s 40 (by decide +kernel) rfl
theorem ms_41 : Cond.selects RX8 yX8_far yX8_far ∈ T0 := T0_s 41 (by decide +kernel) rfl
theorem ms_42 : Cond.selects RX8 yX8_betters yX8_betters ∈ T0 := T0_s 42 (by decide +kernel) rfl
theorem ms_43 : Cond.selects RX8 yX8_swaps yX8_swaps ∈ T0 := T0_s 43 (by decide +kernel) rfl
theorem ms_44 : Cond.selects RX8 yX8_isBetter yX8_isBetter ∈ T0 := T0_s 44 (by decide +kernel) rfl
theorem ms_45 : Cond.selects RX8 yX8_isNearer yX8_isNearer ∈ T0 := T0_s 45 (by decide +kernel) rfl
theorem ms_46 : Cond.selects RX8 yX8_moves yX8_moves ∈ T0 := T0_s 46 (by decide +kernel) rfl
theorem ms_47 : Cond.selects RX8 yX8_tries yX8_tries ∈ T0 := T0_s 47 (by decide +kernel) rfl
theorem uin_X0 : ∀ w ∈ u_ws RX0 TX0 5, w ∈ T0 := fun w h => by
  have e : u_ws RX0 TX0 5 = [104, 106, 108, 110, 112].filterMap (fun i => tables_1[i]?) := by decide +kernel
  have g : (u_ws RX0 TX0 5).all goodWord = true := by decide +kernel
  have g1 := List.all_eq_true.mp g w h
  rw [e] at h
  obtain ⟨i, -, hi⟩ := List.mem_filterMap.mp h
  exact T0_in (List.mem_append_right _ (List.mem_of_getElem? hi)) g1
theorem uin_X1 : ∀ w ∈ u_ws RX1 TX1 14, w ∈ T0 := fun w h => by
  have e : u_ws RX1 TX1 14 = [59, 61, 63, 65, 67, 69, 71, 73, 75, 77, 79, 81, 83, 85].filterMap (fun i => tables_1[i]?) := by decide +kernel
  have g : (u_ws RX1 TX1 14).all goodWord = true := by decide +kernel
  have g1 := List.all_eq_true.mp g w h
  rw [e] at h
  obtain ⟨i, -, hi⟩ := List.mem_filterMap.mp h
  exact T0_in (List.mem_append_right _ (List.mem_of_getElem? hi)) g1
theorem uin_X2 : ∀ w ∈ u_ws RX2 TX2 4, w ∈ T0 := fun w h => by
  have e : u_ws RX2 TX2 4 = [170, 172, 174, 176].filterMap (fun i => tables_1[i]?) := by decide +kernel
  have g : (u_ws RX2 TX2 4).all goodWord = true := by decide +kernel
  have g1 := List.all_eq_true.mp g w h
  rw [e] at h
  obtain ⟨i, -, hi⟩ := List.mem_filterMap.mp h
  exact T0_in (List.mem_append_right _ (List.mem_of_getElem? hi)) g1
theorem uin_X3 : ∀ w ∈ u_ws RX3 TX3 4, w ∈ T0 := fun w h => by
  have e : u_ws RX3 TX3 4 = [151, 153, 155, 157].filterMap (fun i => tables_1[i]?) := by decide +kernel
  have g : (u_ws RX3 TX3 4).all goodWord = true := by decide +kernel
  have g1 := List.all_eq_true.mp g w h
  rw [e] at h
  obtain ⟨i, -, hi⟩ := List.mem_filterMap.mp h
  exact T0_in (List.mem_append_right _ (List.mem_of_getElem? hi)) g1
theorem uin_X4 : ∀ w ∈ u_ws RX4 TX4 10, w ∈ T0 := fun w h => by
  have e : u_ws RX4 TX4 10 = [205, 207, 209, 211, 213, 215, 217, 219, 221, 223].filterMap (fun i => tables_1[i]?) := by decide +kernel
  have g : (u_ws RX4 TX4 10).all goodWord = true := by decide +kernel
  have g1 := List.all_eq_true.mp g w h
  rw [e] at h
  obtain ⟨i, -, hi⟩ := List.mem_filterMap.mp h
  exact T0_in (List.mem_append_right _ (List.mem_of_getElem? hi)) g1
theorem uin_X5 : ∀ w ∈ u_ws RX5 TX5 1, w ∈ T0 := fun w h => by
  have e : u_ws RX5 TX5 1 = [186].filterMap (fun i => tables_1[i]?) := by decide +kernel
  have g : (u_ws RX5 TX5 1).all goodWord = true := by decide +kernel
  have g1 := List.all_eq_true.mp g w h
  rw [e] at h
  obtain ⟨i, -, hi⟩ := List.mem_filterMap.mp h
  exact T0_in (List.mem_append_right _ (List.mem_of_getElem? hi)) g1
theorem uin_X6 : ∀ w ∈ u_ws RX6 TX6 4, w ∈ T0 := fun w h => by
  have e : u_ws RX6 TX6 4 = [128, 130, 132, 134].filterMap (fun i => tables_1[i]?) := by decide +kernel
  have g : (u_ws RX6 TX6 4).all goodWord = true := by decide +kernel
  have g1 := List.all_eq_true.mp g w h
  rw [e] at h
  obtain ⟨i, -, hi⟩ := List.mem_filterMap.mp h
  exact T0_in (List.mem_append_right _ (List.mem_of_getElem? hi)) g1
theorem uin_X7 : ∀ w ∈ u_ws RX7 TX7 10, w ∈ T0 := fun w h => by
  have e : u_ws RX7 TX7 10 = [236, 238, 240, 242, 244, 246, 248, 250, 252, 254].filterMap (fun i => tables_1[i]?) := by decide +kernel
  have g : (u_ws RX7 TX7 10).all goodWord = true := by decide +kernel
  have g1 := List.all_eq_true.mp g w h
  rw [e] at h
  obtain ⟨i, -, hi⟩ := List.mem_filterMap.mp h
  exact T0_in (List.mem_append_right _ (List.mem_of_getElem? hi)) g1
theorem uin_X8 : ∀ w ∈ u_ws RX8 TX8 39, w ∈ T0 := fun w h => by
  have e : u_ws RX8 TX8 39 = [782, 784, 786, 788, 790, 792, 794, 796, 798, 800, 802, 804, 806, 808, 810, 812, 814, 816, 818, 820, 822, 824, 826, 828, 830, 832, 834, 836, 838, 840, 842, 844, 846, 848, 850, 852, 854, 856, 858].filterMap (fun i => tables_1[i]?) := by decide +kernel
  have g : (u_ws RX8 TX8 39).all goodWord = true := by decide +kernel
  have g1 := List.all_eq_true.mp g w h
  rw [e] at h
  obtain ⟨i, -, hi⟩ := List.mem_filterMap.mp h
  exact T0_in (List.mem_append_right _ (List.mem_of_getElem? hi)) g1
end
section
/-! THE WORLD: all cells of the class's object and of the reference's, at addresses a 0 .. a 60; ints in f (cell, place), longs in u -/
abbrev FF : Type := Nat → Nat → Int32
abbrev UU : Type := Nat → Nat → Int64
def up (f : FF) (k : Nat) (g : Nat → Int32) : FF := fun j => cond (Nat.beq j k) g (f j)
def upL (u : UU) (k j : Nat) (v : Int64) : UU := fun k' j' => cond (Nat.beq k' k && Nat.beq j' j) v (u k' j')
def wd (a : Nat → Nat) (cI cZ : ClassId) (f : FF) (u : UU) : va_W := [(a 0, .inr (7, [.int (f 0 0), .int (f 0 1), .ref (a 1), .ref (a 2), .ref (a 3), .ref (a 4), .ref (a 5), .ref (a 6), .ref (a 7), .ref (a 8)])), (a 1, .inr (1, [.ref (a 9), .ref (a 10), .ref (a 11), .int (f 1 3), .ref (a 12), .ref (a 13), .ref (a 14), .ref (a 15), .ref (a 16), .ref (a 17), .ref (a 18), .ref (a 19), .int (f 1 12), .ref (a 20)])), (a 2, .inr (0, [.ref (a 21), .ref (a 22), .ref (a 23), .int (f 2 3), .int (f 2 4)])), (a 3, .inr (6, [.ref (a 24), .ref (a 25), .ref (a 26), .int (f 3 3)])), (a 4, .inr (3, [.ref (a 27), .ref (a 28), .ref (a 29), .int (f 4 3)])), (a 5, .inr (3, [.ref (a 30), .ref (a 31), .ref (a 32), .int (f 5 3)])), (a 6, .inr (2, [.ref (a 3), .ref (a 5), .int (f 6 2), .long (u 6 3)])), (a 7, .inr (5, [.ref (a 1)])), (a 8, .inr (4, [.ref (a 1), .ref (a 33), .ref (a 34), .ref (a 35), .int (f 8 4), .int (f 8 5), .int (f 8 6), .int (f 8 7), .int (f 8 8), .long (u 8 9)])), (a 9, .inl (cI, 4, .inl (f 9))), (a 10, .inl (cI, 4, .inl (f 10))), (a 11, .inl (cI, 4, .inl (f 11))), (a 12, .inl (cI, 32, .inl (f 12))), (a 13, .inl (cI, 32, .inl (f 13))), (a 14, .inl (cI, 32, .inl (f 14))), (a 15, .inl (cI, 40, .inl (f 15))), (a 16, .inl (cI, 40, .inl (f 16))), (a 17, .inl (cI, 40, .inl (f 17))), (a 18, .inl (cI, 40, .inl (f 18))), (a 19, .inl (cI, 40, .inl (f 19))), (a 20, .inl (cI, 64, .inl (f 20))), (a 21, .inl (cI, 10, .inl (f 21))), (a 22, .inl (cI, 10, .inl (f 22))), (a 23, .inl (cI, 10, .inl (f 23))), (a 24, .inl (cI, 4, .inl (f 24))), (a 25, .inl (cI, 4, .inl (f 25))), (a 26, .inl (cI, 4, .inl (f 26))), (a 27, .inl (cI, 10, .inl (f 27))), (a 28, .inl (cI, 10, .inl (f 28))), (a 29, .inl (cI, 10, .inl (f 29))), (a 30, .inl (cI, 10, .inl (f 30))), (a 31, .inl (cI, 10, .inl (f 31))), (a 32, .inl (cI, 10, .inl (f 32))), (a 33, .inl (cI, 4, .inl (f 33))), (a 34, .inl (cI, 4, .inl (f 34))), (a 35, .inl (cI, 10, .inl (f 35))), (a 36, .inr (8, [.int (f 36 0), .int (f 36 1), .int (f 36 2), .int (f 36 3), .ref (a 37), .ref (a 38), .ref (a 39), .ref (a 40), .ref (a 41), .ref (a 42), .ref (a 43), .int (f 36 11), .ref (a 44), .ref (a 45), .ref (a 46), .ref (a 47), .int (f 36 16), .ref (a 48), .ref (a 49), .ref (a 50), .int (f 36 20), .ref (a 51), .ref (a 52), .ref (a 53), .int (f 36 24), .ref (a 54), .ref (a 55), .ref (a 56), .ref (a 57), .long (u 36 29), .int (f 36 30), .ref (a 58), .long (u 36 32), .int (f 36 33), .ref (a 59), .int (f 36 35), .ref (a 60), .int (f 36 37), .long (u 36 38)])), (a 37, .inl (cI, 4, .inl (f 37))), (a 38, .inl (cI, 4, .inl (f 38))), (a 39, .inl (cI, 4, .inl (f 39))), (a 40, .inl (cI, 32, .inl (f 40))), (a 41, .inl (cI, 32, .inl (f 41))), (a 42, .inl (cI, 32, .inl (f 42))), (a 43, .inl (cI, 64, .inl (f 43))), (a 44, .inl (cI, 40, .inl (f 44))), (a 45, .inl (cI, 40, .inl (f 45))), (a 46, .inl (cI, 40, .inl (f 46))), (a 47, .inl (cI, 40, .inl (f 47))), (a 48, .inl (cI, 10, .inl (f 48))), (a 49, .inl (cI, 10, .inl (f 49))), (a 50, .inl (cI, 10, .inl (f 50))), (a 51, .inl (cI, 4, .inl (f 51))), (a 52, .inl (cI, 4, .inl (f 52))), (a 53, .inl (cI, 4, .inl (f 53))), (a 54, .inl (cI, 2, .inl (f 54))), (a 55, .inl (cI, 20, .inl (f 55))), (a 56, .inl (cI, 20, .inl (f 56))), (a 57, .inl (cI, 20, .inl (f 57))), (a 58, .inl (cZ, 40, .inl (f 58))), (a 59, .inl (cI, 4, .inl (f 59))), (a 60, .inl (cI, 4, .inl (f 60)))]
def AA (a : Nat → Nat) : Nat → Prop := fun q => ∃ k, k < 61 ∧ q = a k
abbrev tysW (cI cZ : ClassId) : List (ClassId × FieldType) := [(cI, .int), (cZ, .boolean)]
def WS (D : va_G) (a : Nat → Nat) (cI cZ : ClassId) (f : FF) (u : UU) (U : State) : Prop := va_P D vwCl (wd a cI cZ f u) U.heap ∧ va_K D vwCl (tysW cI cZ) U ∧ va_D (AA a) (wd a cI cZ f u)
/-- what stays through a method's body -/
def Cx (p : Program) (s : State) (m : MethodId) (args : Array Value) (c : Code) (cc : ByteArray) (own : String) (nL : Nat) (D : va_G) (cI cZ : ClassId) : Prop := CallFix p m c cc nL s args T0 own ∧ va_K D vwCl (tysW cI cZ) s
/-- the world at a point of a method's body -/
def Wd (D : va_G) (a : Nat → Nat) (cI cZ : ClassId) (s : State) (f : FF) (u : UU) (H : Heap) (locs : List Loc) : Prop := va_P D vwCl (wd a cI cZ f u) H ∧ va_D (AA a) (wd a cI cZ f u) ∧ va_S (AA a) s.heap H locs
/-- a method's ends: an int (or boolean), a long, nothing, a cell -/
def QI (D : va_G) (a : Nat → Nat) (cI cZ : ClassId) (post : Int32 → FF → UU → Prop) : Array Value → State → Outcome → State → Prop := va_Qi (fun r (q : FF × UU) => post r q.1 q.2) (fun q t => WS D a cI cZ q.1 q.2 t) (AA a)
def QL (D : va_G) (a : Nat → Nat) (cI cZ : ClassId) (post : Int64 → FF → UU → Prop) : Array Value → State → Outcome → State → Prop := va_Ql (fun r (q : FF × UU) => post r q.1 q.2) (fun q t => WS D a cI cZ q.1 q.2 t) (AA a)
def QV (D : va_G) (a : Nat → Nat) (cI cZ : ClassId) (post : FF → UU → Prop) : Array Value → State → Outcome → State → Prop := va_Qv (fun (q : FF × UU) => post q.1 q.2) (fun q t => WS D a cI cZ q.1 q.2 t) (AA a)
def QR (D : va_G) (a : Nat → Nat) (cI cZ : ClassId) (post : Nat → FF → UU → Prop) : Array Value → State → Outcome → State → Prop := va_Qr (fun (_ : FF × UU) => True) (fun q b t => (∃ k, b = a k ∧ post k q.1 q.2) ∧ WS D a cI cZ q.1 q.2 t) (AA a)
def KX (l : Launch) (y : MethodName) (bytes : ByteArray) (maxL : Nat) (ret : Option FieldType) (rm : Room) (D : va_G) (a : Nat → Nat) (cI cZ : ClassId) (av : List Value) (f : FF) (u : UU) (Qc : Array Value → State → Outcome → State → Prop) : Prop :=
  Met l y (Cond.code y bytes maxL ret :: T0) rm (va_Pc av (WS D a cI cZ f u)) Qc 0 0 (AA a)
abbrev KI (l : Launch) (y : MethodName) (bytes : ByteArray) (maxL : Nat) (ret : Option FieldType) (rm : Room) (D : va_G) (a : Nat → Nat) (cI cZ : ClassId) (av : List Value) (f : FF) (u : UU) (post : Int32 → FF → UU → Prop) : Prop := KX l y bytes maxL ret rm D a cI cZ av f u (QI D a cI cZ post)
abbrev KL (l : Launch) (y : MethodName) (bytes : ByteArray) (maxL : Nat) (ret : Option FieldType) (rm : Room) (D : va_G) (a : Nat → Nat) (cI cZ : ClassId) (av : List Value) (f : FF) (u : UU) (post : Int64 → FF → UU → Prop) : Prop := KX l y bytes maxL ret rm D a cI cZ av f u (QL D a cI cZ post)
abbrev KV (l : Launch) (y : MethodName) (bytes : ByteArray) (maxL : Nat) (ret : Option FieldType) (rm : Room) (D : va_G) (a : Nat → Nat) (cI cZ : ClassId) (av : List Value) (f : FF) (u : UU) (post : FF → UU → Prop) : Prop := KX l y bytes maxL ret rm D a cI cZ av f u (QV D a cI cZ post)
abbrev KR (l : Launch) (y : MethodName) (bytes : ByteArray) (maxL : Nat) (ret : Option FieldType) (rm : Room) (D : va_G) (a : Nat → Nat) (cI cZ : ClassId) (av : List Value) (f : FF) (u : UU) (post : Nat → FF → UU → Prop) : Prop := KX l y bytes maxL ret rm D a cI cZ av f u (QR D a cI cZ post)
section KW
variable {l : Launch} {y : MethodName} {bytes : ByteArray} {maxL : Nat} {ret : Option FieldType} {rm : Room} {D : va_G} {a : Nat → Nat} {cI cZ : ClassId} {av : List Value} {f : FF} {u : UU}
/-- a contract out of a walk of its body -/
theorem KX.of {Qc : Array Value → State → Outcome → State → Prop} (hy : plainName y.cls = true) (hn : (lg_sl av).length ≤ maxL) (body : ∀ (p : Program) (e : Env) (s : State) (m : MethodId) (below : List Frame) (meth : Method) (c : Code), Cx p s m av.toArray c bytes y.cls maxL D cI cZ → Wd D a cI cZ s f u s.heap [] → meth.sig.returnType = ret → meth.locks = false → ∀ ls : Array Slot, lv_has ls maxL (lv_args 0 av) → W p l e rm s m av.toArray below meth c s.heap [] 0 0 (MQ below Qc av.toArray s 0 0 (AA a)) (F0 m 0 ls [])) : KX l y bytes maxL ret rm D a cI cZ av f u Qc := by
  refine Met.ofW (cc := bytes) (maxL := maxL) (ret := ret) hy rfl ?_
  intro p e s m args below meth c s₁ B hml hv
  obtain ⟨rfl, hP, hK, hD⟩ := hv
  have hts := atoms_spec (ws := Cond.code y bytes maxL ret :: T0) B.pre
  have hl := lv_entry av (n := maxL) hn
  rw [lg_entry_eq]
  exact body p e s m below meth c ⟨⟨B.exec, B.bytes, hml, findClass_of_methodNamed B.named, fun w h => hts w (List.mem_cons_of_mem _ h)⟩, hK⟩ ⟨hP, hD, va_S.rf⟩ B.returns B.notSynchronized _ hl
end KW
section KR1
variable {p : Program} {l : Launch} {e : Env} {R : Room} {s : State} {m : MethodId} {args : Array Value} {below : List Frame} {meth : Method} {c : Code} {H : Heap} {locs : List Loc} {cells slots : Nat} {Q : State → Prop}
variable {cc : ByteArray} {pc : Nat} {ls : Array Slot} {st rest As : List Value} {D : va_G} {a : Nat → Nat} {cI cZ : ClassId} {f : FF} {u : UU} {own : String} {nL : Nat}
variable {y : MethodName} {bytes : ByteArray} {maxL : Nat} {ret : Option FieldType} {rm : Room}
theorem retI {v : Int32} {post : Int32 → FF → UU → Prop} (cx : Cx p s m args c cc own nL D cI cZ) (hw : Wd D a cI cZ s f u H locs) (hr : meth.sig.returnType = some .int) (hk : meth.locks = false) (hdg : decode cc pc = .ok (.ireturn, 1)) (hp : post v f u) : W p l e R s m args below meth c H locs cells slots (MQ below (QI D a cI cZ post) args s cells slots (AA a)) (F0 m pc ls [.int v]) :=
  W.iret cx.1.1 cx.1.2.1 hr (fun t ht hW => ⟨⟨v, (f, u), rfl, hp, by rw [ht]; exact hw.1, va_K.moved hW.alike cx.2, hw.2.1⟩, hw.2.2.F ht⟩) hw.2.2.2.2 hdg hk
theorem retZ {v : Int32} {post : Int32 → FF → UU → Prop} (cx : Cx p s m args c cc own nL D cI cZ) (hw : Wd D a cI cZ s f u H locs) (hr : meth.sig.returnType = some .boolean) (hk : meth.locks = false) (hn : narrow .boolean (.int v) = .int v) (hdg : decode cc pc = .ok (.ireturn, 1)) (hp : post v f u) : W p l e R s m args below meth c H locs cells slots (MQ below (QI D a cI cZ post) args s cells slots (AA a)) (F0 m pc ls [.int v]) :=
  W.zret cx.1.1 cx.1.2.1 hr hn (fun t ht hW => ⟨⟨v, (f, u), rfl, hp, by rw [ht]; exact hw.1, va_K.moved hW.alike cx.2, hw.2.1⟩, hw.2.2.F ht⟩) hw.2.2.2.2 hdg hk
theorem retL {v : Int64} {post : Int64 → FF → UU → Prop} (cx : Cx p s m args c cc own nL D cI cZ) (hw : Wd D a cI cZ s f u H locs) (hr : meth.sig.returnType = some .long) (hk : meth.locks = false) (hdg : decode cc pc = .ok (.lreturn, 1)) (hp : post v f u) : W p l e R s m args below meth c H locs cells slots (MQ below (QL D a cI cZ post) args s cells slots (AA a)) (F0 m pc ls [.long v]) :=
  W.lret cx.1.1 cx.1.2.1 hr (fun t ht hW => ⟨⟨v, (f, u), rfl, hp, by rw [ht]; exact hw.1, va_K.moved hW.alike cx.2, hw.2.1⟩, hw.2.2.F ht⟩) hw.2.2.2.2 hdg hk
theorem retV {post : FF → UU → Prop} (cx : Cx p s m args c cc own nL D cI cZ) (hw : Wd D a cI cZ s f u H locs) (hr : meth.sig.returnType = none) (hk : meth.locks = false) (hdg : decode cc pc = .ok (.return_, 1)) (hp : post f u) : W p l e R s m args below meth c H locs cells slots (MQ below (QV D a cI cZ post) args s cells slots (AA a)) (F0 m pc ls []) :=
  W.vret cx.1.1 cx.1.2.1 hr (fun t ht hW => ⟨⟨(f, u), rfl, hp, by rw [ht]; exact hw.1, va_K.moved hW.alike cx.2, hw.2.1⟩, hw.2.2.F ht⟩) hw.2.2.2.2 hdg hk
theorem retR {k : Nat} {C : String} {post : Nat → FF → UU → Prop} (cx : Cx p s m args c cc own nL D cI cZ) (hw : Wd D a cI cZ s f u H locs) (hr : meth.sig.returnType = some (.object C)) (hk : meth.locks = false) (hdg : decode cc pc = .ok (.areturn, 1)) (hp : post k f u) : W p l e R s m args below meth c H locs cells slots (MQ below (QR D a cI cZ post) args s cells slots (AA a)) (F0 m pc ls [.ref (a k)]) :=
  W.aret (v := .ref (a k)) cx.1.1 cx.1.2.1 hr (Or.inl ⟨_, rfl⟩) (Or.inr ⟨_, rfl⟩) (fun t ht hW => ⟨⟨(f, u), a k, rfl, trivial, ⟨k, rfl, hp⟩, by rw [ht]; exact hw.1, va_K.moved hW.alike cx.2, hw.2.1⟩, hw.2.2.F ht⟩) hw.2.2.2.2 hdg hk
/-- what a call site's link says -/
def LkV (own : String) (idx : Nat) (C : String) (y : MethodName) (bytes : ByteArray) (maxL : Nat) (ret : Option FieldType) (n : Nat) : Prop := Cond.methodLink own idx y ∈ T0 ∧ Cond.instanceMethod y ∈ T0 ∧ Cond.selects C y y ∈ T0 ∧ Cond.initialized C ∈ T0 ∧ Cond.code y bytes maxL ret ∈ T0 ∧ y.cls = C ∧ y.cls ≠ "java/lang/invoke/MethodHandle" ∧ y.cls ≠ "java/lang/invoke/VarHandle" ∧ (parseMethodDescriptor y.desc).map (fun d => d.parameters.length) = some n
def LkS (own : String) (idx : Nat) (y : MethodName) (bytes : ByteArray) (maxL : Nat) (ret : Option FieldType) (n : Nat) : Prop := Cond.methodLink own idx y ∈ T0 ∧ Cond.static y ∈ T0 ∧ Cond.initialized y.cls ∈ T0 ∧ Cond.code y bytes maxL ret ∈ T0 ∧ y.cls ≠ "java/lang/invoke/MethodHandle" ∧ y.cls ≠ "java/lang/invoke/VarHandle" ∧ (parseMethodDescriptor y.desc).map (fun d => d.parameters.length) = some n
theorem goodT {w : Cond} {ws : List Cond} (hw : w ∈ T0) (h : GoodIn T0 ws) : GoodIn T0 (w :: ws) := fun x hx => (List.mem_cons.mp hx).elim (fun e => e ▸ T0_good w hw) (h x)
theorem blindW {av : List Value} : FrameBlind (va_Pc av (WS D a cI cZ f u)) := fun v U g mk q => ⟨q.1, q.2.1, va_K.moved (u := U) (U := U.calling g mk v) (Vm.Alike.refl U.vm) q.2.2.1, q.2.2.2⟩
theorem runVW {Qc : Array Value → State → Outcome → State → Prop} {idx k ci n : Nat} {C : String} {T : u_T} {N : Nat} {fs : List Value} (cx : Cx p s m args c cc own nL D cI cZ) (hw : Wd D a cI cZ s f u H locs) (hM : KX l y bytes maxL ret rm D a cI cZ (.ref (a k) :: As) f u Qc) (lk : LkV own idx C y bytes maxL ret n) (hobj : (wd a cI cZ f u)[k]? = some (a k, .inr (ci, fs))) (hc : vwCl[ci]? = some (C, T, N)) (hR : rm.frames + 1 ≤ R.frames ∧ 8 + (maxL + 11) + rm.locals ≤ R.locals) (h0 : rm.cells = 0 ∧ rm.slots = 0) (hz : cells ≤ R.cells ∧ slots ≤ R.slots) (hn : As.length = n) (hst : st = As.reverse ++ .ref (a k) :: rest) (hls : ls.size = nL) (hrest : (rest.map fun v => v.category).sum ≤ 8) (hdg : decode cc pc = .ok (.invokevirtual idx, 3)) : va_Run p l e R s m args below meth c H locs cells slots 0 0 (F0 m pc ls st) rest (Qc (Value.ref (a k) :: As).toArray) (AA a) := by
  obtain ⟨m1, m2, m3, m4, m5, hd⟩ := lk
  subst hst
  refine va_runV (As := As) (rest := rest) (C := C) (n := n) cx.1 hM (cwV n cx.1.2.2.2.2 (goodT m1 (goodT m2 (goodT m3 (goodT m4 (goodT m5 T0_good))))) rfl h0.1 h0.2 hd hR) ⟨blindW, va_recv cx.2 hw.1 hc hobj, fun U hU hW => ⟨rfl, by rw [hU]; exact hw.1, va_K.moved hW.alike cx.2, hw.2.1⟩⟩ rfl hn hls rfl (lv_room hrest) hdg hz
theorem runSW {Qc : Array Value → State → Outcome → State → Prop} {idx n : Nat} (cx : Cx p s m args c cc own nL D cI cZ) (hw : Wd D a cI cZ s f u H locs) (hM : KX l y bytes maxL ret rm D a cI cZ As f u Qc) (lk : LkS own idx y bytes maxL ret n) (hR : rm.frames + 1 ≤ R.frames ∧ 8 + (maxL + 11) + rm.locals ≤ R.locals) (h0 : rm.cells = 0 ∧ rm.slots = 0) (hz : cells ≤ R.cells ∧ slots ≤ R.slots) (hn : As.length = n) (hst : st = As.reverse ++ rest) (hls : ls.size = nL) (hrest : (rest.map fun v => v.category).sum ≤ 8) (hdg : decode cc pc = .ok (.invokestatic idx, 3)) : va_Run p l e R s m args below meth c H locs cells slots 0 0 (F0 m pc ls st) rest (Qc As.toArray) (AA a) := by
  obtain ⟨m1, m2, m3, m4, hd⟩ := lk
  subst hst
  refine va_runS (As := As) (rest := rest) (n := n) cx.1 hM (va_cwS n cx.1.2.2.2.2 (goodT m1 (goodT m2 (goodT m3 (goodT m4 T0_good)))) rfl h0.1 h0.2 hd hR) ⟨blindW, fun U hU hW => ⟨rfl, by rw [hU]; exact hw.1, va_K.moved hW.alike cx.2, hw.2.1⟩⟩ rfl hn hls rfl (lv_room hrest) hdg hz
theorem goI {post : Int32 → FF → UU → Prop} {av : Array Value} (hw : Wd D a cI cZ s f u H locs) (hr : va_Run p l e R s m args below meth c H locs cells slots 0 0 (F0 m pc ls st) rest (QI D a cI cZ post av) (AA a)) (kk : ∀ (r : Int32) (f : FF) (u : UU) (H : Heap) (locs : List Loc), post r f u → Wd D a cI cZ s f u H locs → W p l e R s m args below meth c H locs cells slots Q (F0 m (pc + 3) ls (.int r :: rest))) : W p l e R s m args below meth c H locs cells slots Q (F0 m pc ls st) := by
  refine va_calli hr hw.2.2 (fun q _ h => h) (fun q h => h) (fun r q t H1 locs1 ht hvm hp hB _ _ hS => ?_)
  obtain ⟨hP, hK, hD⟩ := hB
  rw [ht] at hP
  exact kk r q.1 q.2 H1 locs1 hp ⟨hP, hD, hS⟩
theorem goL {post : Int64 → FF → UU → Prop} {av : Array Value} (hw : Wd D a cI cZ s f u H locs) (hr : va_Run p l e R s m args below meth c H locs cells slots 0 0 (F0 m pc ls st) rest (QL D a cI cZ post av) (AA a)) (kk : ∀ (r : Int64) (f : FF) (u : UU) (H : Heap) (locs : List Loc), post r f u → Wd D a cI cZ s f u H locs → W p l e R s m args below meth c H locs cells slots Q (F0 m (pc + 3) ls (.long r :: rest))) : W p l e R s m args below meth c H locs cells slots Q (F0 m pc ls st) := by
  refine va_calll hr hw.2.2 (fun q _ h => h) (fun q h => h) (fun r q t H1 locs1 ht hvm hp hB _ _ hS => ?_)
  obtain ⟨hP, hK, hD⟩ := hB
  rw [ht] at hP
  exact kk r q.1 q.2 H1 locs1 hp ⟨hP, hD, hS⟩
theorem goV {post : FF → UU → Prop} {av : Array Value} (hw : Wd D a cI cZ s f u H locs) (hr : va_Run p l e R s m args below meth c H locs cells slots 0 0 (F0 m pc ls st) rest (QV D a cI cZ post av) (AA a)) (kk : ∀ (f : FF) (u : UU) (H : Heap) (locs : List Loc), post f u → Wd D a cI cZ s f u H locs → W p l e R s m args below meth c H locs cells slots Q (F0 m (pc + 3) ls rest)) : W p l e R s m args below meth c H locs cells slots Q (F0 m pc ls st) := by
  refine va_callv hr hw.2.2 (fun q _ h => h) (fun q h => h) (fun q t H1 locs1 ht hvm hp hB _ _ hS => ?_)
  obtain ⟨hP, hK, hD⟩ := hB
  rw [ht] at hP
  exact kk q.1 q.2 H1 locs1 hp ⟨hP, hD, hS⟩
theorem goR {post : Nat → FF → UU → Prop} {av : Array Value} (hw : Wd D a cI cZ s f u H locs) (hr : va_Run p l e R s m args below meth c H locs cells slots 0 0 (F0 m pc ls st) rest (QR D a cI cZ post av) (AA a)) (kk : ∀ (k : Nat) (f : FF) (u : UU) (H : Heap) (locs : List Loc), post k f u → Wd D a cI cZ s f u H locs → W p l e R s m args below meth c H locs cells slots Q (F0 m (pc + 3) ls (.ref (a k) :: rest))) : W p l e R s m args below meth c H locs cells slots Q (F0 m pc ls st) := by
  refine va_callr hr hw.2.2 (fun q _ h => h) (fun q h => h) (fun q b t H1 locs1 ht hvm _ hB _ _ hS => ?_)
  obtain ⟨⟨k, rfl, hp⟩, hP, hK, hD⟩ := hB
  rw [ht] at hP
  exact kk k q.1 q.2 H1 locs1 hp ⟨hP, hD, hS⟩
/-- an element of an int array of the world -/
theorem aldW {i : Int32} {n : Nat} (k : Nat) (cx : Cx p s m args c cc own nL D cI cZ) (hw : Wd D a cI cZ s f u H locs) (ha : (wd a cI cZ f u)[k]? = some (a k, .inl (cI, n, .inl (f k)))) (hin : vp_in i n) (hdg : decode cc pc = .ok (.iaload, 1)) (kk : W p l e R s m args below meth c H locs cells slots Q (F0 m (pc + 1) ls (.int (f k i.toNatClampNeg) :: rest))) : W p l e R s m args below meth c H locs cells slots Q (F0 m pc ls (.int i :: .ref (a k) :: rest)) :=
  va_iald cx.1.1 cx.1.2.1 cx.2 hw.1 k 0 ha rfl hin hdg kk
theorem zldW {i : Int32} {n : Nat} (k : Nat) (cx : Cx p s m args c cc own nL D cI cZ) (hw : Wd D a cI cZ s f u H locs) (ha : (wd a cI cZ f u)[k]? = some (a k, .inl (cZ, n, .inl (f k)))) (hin : vp_in i n) (hdg : decode cc pc = .ok (.baload, 1)) (kk : W p l e R s m args below meth c H locs cells slots Q (F0 m (pc + 1) ls (.int (f k i.toNatClampNeg) :: rest))) : W p l e R s m args below meth c H locs cells slots Q (F0 m pc ls (.int i :: .ref (a k) :: rest)) :=
  va_zald cx.1.1 cx.1.2.1 cx.2 hw.1 k 1 ha rfl hin hdg kk
theorem astW {i x : Int32} {n : Nat} (k : Nat) (cx : Cx p s m args c cc own nL D cI cZ) (hw : Wd D a cI cZ s f u H locs) (ha : (wd a cI cZ f u)[k]? = some (a k, .inl (cI, n, .inl (f k)))) (hs : ∀ g : Nat → Int32, (wd a cI cZ f u).set k (a k, .inl (cI, n, .inl g)) = wd a cI cZ (up f k g) u) (hin : vp_in i n) (hdg : decode cc pc = .ok (.iastore, 1)) (kk : ∀ (H : Heap) (locs : List Loc), Wd D a cI cZ s (up f k (upd (f k) i.toNatClampNeg x)) u H locs → W p l e R s m args below meth c H locs cells slots Q (F0 m (pc + 1) ls rest)) : W p l e R s m args below meth c H locs cells slots Q (F0 m pc ls (.int x :: .int i :: .ref (a k) :: rest)) := by
  refine va_iast cx.1.1 cx.1.2.1 cx.2 hw.1 hw.2.1 hw.2.2 k 0 ha rfl hin hdg (fun H1 locs1 hP hD hS => ?_)
  rw [hs] at hP hD
  exact kk H1 locs1 ⟨hP, hD, hS⟩
theorem zstW {i x : Int32} {n : Nat} (k : Nat) (cx : Cx p s m args c cc own nL D cI cZ) (hw : Wd D a cI cZ s f u H locs) (ha : (wd a cI cZ f u)[k]? = some (a k, .inl (cZ, n, .inl (f k)))) (hs : ∀ g : Nat → Int32, (wd a cI cZ f u).set k (a k, .inl (cZ, n, .inl g)) = wd a cI cZ (up f k g) u) (hin : vp_in i n) (hdg : decode cc pc = .ok (.bastore, 1)) (kk : ∀ (H : Heap) (locs : List Loc), Wd D a cI cZ s (up f k (upd (f k) i.toNatClampNeg (vp_nar .boolean x))) u H locs → W p l e R s m args below meth c H locs cells slots Q (F0 m (pc + 1) ls rest)) : W p l e R s m args below meth c H locs cells slots Q (F0 m pc ls (.int x :: .int i :: .ref (a k) :: rest)) := by
  refine va_zast cx.1.1 cx.1.2.1 cx.2 hw.1 hw.2.1 hw.2.2 k 1 ha rfl hin hdg (fun H1 locs1 hP hD hS => ?_)
  rw [hs] at hP hD
  exact kk H1 locs1 ⟨hP, hD, hS⟩
end KR1
end
section
section ROWS
variable {p : Program} {l : Launch} {e : Env} {R : Room} {s : State} {m : MethodId} {args : Array Value} {below : List Frame} {meth : Method} {c : Code} {H : Heap} {locs : List Loc} {cells slots : Nat} {Q : State → Prop}
variable {cc : ByteArray} {pc : Nat} {ls : Array Slot} {rest : List Value} {D : va_G} {a : Nat → Nat} {cI cZ : ClassId} {f : FF} {u : UU} {nL : Nat}
theorem ws_9 (g : Nat → Int32) : (wd a cI cZ f u).set 9 (a 9, .inl (cI, 4, .inl g)) = wd a cI cZ (up f 9 g) u := rfl
theorem ws_10 (g : Nat → Int32) : (wd a cI cZ f u).set 10 (a 10, .inl (cI, 4, .inl g)) = wd a cI cZ (up f 10 g) u := rfl
theorem ws_11 (g : Nat → Int32) : (wd a cI cZ f u).set 11 (a 11, .inl (cI, 4, .inl g)) = wd a cI cZ (up f 11 g) u := rfl
theorem ws_12 (g : Nat → Int32) : (wd a cI cZ f u).set 12 (a 12, .inl (cI, 32, .inl g)) = wd a cI cZ (up f 12 g) u := rfl
theorem ws_13 (g : Nat → Int32) : (wd a cI cZ f u).set 13 (a 13, .inl (cI, 32, .inl g)) = wd a cI cZ (up f 13 g) u := rfl
theorem ws_14 (g : Nat → Int32) : (wd a cI cZ f u).set 14 (a 14, .inl (cI, 32, .inl g)) = wd a cI cZ (up f 14 g) u := rfl
theorem ws_15 (g : Nat → Int32) : (wd a cI cZ f u).set 15 (a 15, .inl (cI, 40, .inl g)) = wd a cI cZ (up f 15 g) u := rfl
theorem ws_16 (g : Nat → Int32) : (wd a cI cZ f u).set 16 (a 16, .inl (cI, 40, .inl g)) = wd a cI cZ (up f 16 g) u := rfl
theorem ws_17 (g : Nat → Int32) : (wd a cI cZ f u).set 17 (a 17, .inl (cI, 40, .inl g)) = wd a cI cZ (up f 17 g) u := rfl
theorem ws_18 (g : Nat → Int32) : (wd a cI cZ f u).set 18 (a 18, .inl (cI, 40, .inl g)) = wd a cI cZ (up f 18 g) u := rfl
theorem ws_19 (g : Nat → Int32) : (wd a cI cZ f u).set 19 (a 19, .inl (cI, 40, .inl g)) = wd a cI cZ (up f 19 g) u := rfl
theorem ws_20 (g : Nat → Int32) : (wd a cI cZ f u).set 20 (a 20, .inl (cI, 64, .inl g)) = wd a cI cZ (up f 20 g) u := rfl
theorem ws_21 (g : Nat → Int32) : (wd a cI cZ f u).set 21 (a 21, .inl (cI, 10, .inl g)) = wd a cI cZ (up f 21 g) u := rfl
theorem ws_22 (g : Nat → Int32) : (wd a cI cZ f u).set 22 (a 22, .inl (cI, 10, .inl g)) = wd a cI cZ (up f 22 g) u := rfl
theorem ws_23 (g : Nat → Int32) : (wd a cI cZ f u).set 23 (a 23, .inl (cI, 10, .inl g)) = wd a cI cZ (up f 23 g) u := rfl
theorem ws_24 (g : Nat → Int32) : (wd a cI cZ f u).set 24 (a 24, .inl (cI, 4, .inl g)) = wd a cI cZ (up f 24 g) u := rfl
theorem ws_25 (g : Nat → Int32) : (wd a cI cZ f u).set 25 (a 25, .inl (cI, 4, .inl g)) = wd a cI cZ (up f 25 g) u := rfl
theorem ws_26 (g : Nat → Int32) : (wd a cI cZ f u).set 26 (a 26, .inl (cI, 4, .inl g)) = wd a cI cZ (up f 26 g) u := rfl
theorem ws_27 (g : Nat → Int32) : (wd a cI cZ f u).set 27 (a 27, .inl (cI, 10, .inl g)) = wd a cI cZ (up f 27 g) u := rfl
theorem ws_28 (g : Nat → Int32) : (wd a cI cZ f u).set 28 (a 28, .inl (cI, 10, .inl g)) = wd a cI cZ (up f 28 g) u := rfl
theorem ws_29 (g : Nat → Int32) : (wd a cI cZ f u).set 29 (a 29, .inl (cI, 10, .inl g)) = wd a cI cZ (up f 29 g) u := rfl
theorem ws_30 (g : Nat → Int32) : (wd a cI cZ f u).set 30 (a 30, .inl (cI, 10, .inl g)) = wd a cI cZ (up f 30 g) u := rfl
theorem ws_31 (g : Nat → Int32) : (wd a cI cZ f u).set 31 (a 31, .inl (cI, 10, .inl g)) = wd a cI cZ (up f 31 g) u := rfl
theorem ws_32 (g : Nat → Int32) : (wd a cI cZ f u).set 32 (a 32, .inl (cI, 10, .inl g)) = wd a cI cZ (up f 32 g) u := rfl
theorem ws_33 (g : Nat → Int32) : (wd a cI cZ f u).set 33 (a 33, .inl (cI, 4, .inl g)) = wd a cI cZ (up f 33 g) u := rfl
theorem ws_34 (g : Nat → Int32) : (wd a cI cZ f u).set 34 (a 34, .inl (cI, 4, .inl g)) = wd a cI cZ (up f 34 g) u := rfl
theorem ws_35 (g : Nat → Int32) : (wd a cI cZ f u).set 35 (a 35, .inl (cI, 10, .inl g)) = wd a cI cZ (up f 35 g) u := rfl
theorem ws_37 (g : Nat → Int32) : (wd a cI cZ f u).set 37 (a 37, .inl (cI, 4, .inl g)) = wd a cI cZ (up f 37 g) u := rfl
theorem ws_38 (g : Nat → Int32) : (wd a cI cZ f u).set 38 (a 38, .inl (cI, 4, .inl g)) = wd a cI cZ (up f 38 g) u := rfl
theorem ws_39 (g : Nat → Int32) : (wd a cI cZ f u).set 39 (a 39, .inl (cI, 4, .inl g)) = wd a cI cZ (up f 39 g) u := rfl
theorem ws_40 (g : Nat → Int32) : (wd a cI cZ f u).set 40 (a 40, .inl (cI, 32, .inl g)) = wd a cI cZ (up f 40 g) u := rfl
theorem ws_41 (g : Nat → Int32) : (wd a cI cZ f u).set 41 (a 41, .inl (cI, 32, .inl g)) = wd a cI cZ (up f 41 g) u := rfl
theorem ws_42 (g : Nat → Int32) : (wd a cI cZ f u).set 42 (a 42, .inl (cI, 32, .inl g)) = wd a cI cZ (up f 42 g) u := rfl
theorem ws_43 (g : Nat → Int32) : (wd a cI cZ f u).set 43 (a 43, .inl (cI, 64, .inl g)) = wd a cI cZ (up f 43 g) u := rfl
theorem ws_44 (g : Nat → Int32) : (wd a cI cZ f u).set 44 (a 44, .inl (cI, 40, .inl g)) = wd a cI cZ (up f 44 g) u := rfl
theorem ws_45 (g : Nat → Int32) : (wd a cI cZ f u).set 45 (a 45, .inl (cI, 40, .inl g)) = wd a cI cZ (up f 45 g) u := rfl
theorem ws_46 (g : Nat → Int32) : (wd a cI cZ f u).set 46 (a 46, .inl (cI, 40, .inl g)) = wd a cI cZ (up f 46 g) u := rfl
theorem ws_47 (g : Nat → Int32) : (wd a cI cZ f u).set 47 (a 47, .inl (cI, 40, .inl g)) = wd a cI cZ (up f 47 g) u := rfl
theorem ws_48 (g : Nat → Int32) : (wd a cI cZ f u).set 48 (a 48, .inl (cI, 10, .inl g)) = wd a cI cZ (up f 48 g) u := rfl
theorem ws_49 (g : Nat → Int32) : (wd a cI cZ f u).set 49 (a 49, .inl (cI, 10, .inl g)) = wd a cI cZ (up f 49 g) u := rfl
theorem ws_50 (g : Nat → Int32) : (wd a cI cZ f u).set 50 (a 50, .inl (cI, 10, .inl g)) = wd a cI cZ (up f 50 g) u := rfl
theorem ws_51 (g : Nat → Int32) : (wd a cI cZ f u).set 51 (a 51, .inl (cI, 4, .inl g)) = wd a cI cZ (up f 51 g) u := rfl
theorem ws_52 (g : Nat → Int32) : (wd a cI cZ f u).set 52 (a 52, .inl (cI, 4, .inl g)) = wd a cI cZ (up f 52 g) u := rfl
theorem ws_53 (g : Nat → Int32) : (wd a cI cZ f u).set 53 (a 53, .inl (cI, 4, .inl g)) = wd a cI cZ (up f 53 g) u := rfl
theorem ws_54 (g : Nat → Int32) : (wd a cI cZ f u).set 54 (a 54, .inl (cI, 2, .inl g)) = wd a cI cZ (up f 54 g) u := rfl
theorem ws_55 (g : Nat → Int32) : (wd a cI cZ f u).set 55 (a 55, .inl (cI, 20, .inl g)) = wd a cI cZ (up f 55 g) u := rfl
theorem ws_56 (g : Nat → Int32) : (wd a cI cZ f u).set 56 (a 56, .inl (cI, 20, .inl g)) = wd a cI cZ (up f 56 g) u := rfl
theorem ws_57 (g : Nat → Int32) : (wd a cI cZ f u).set 57 (a 57, .inl (cI, 20, .inl g)) = wd a cI cZ (up f 57 g) u := rfl
theorem ws_58 (g : Nat → Int32) : (wd a cI cZ f u).set 58 (a 58, .inl (cZ, 40, .inl g)) = wd a cI cZ (up f 58 g) u := rfl
theorem ws_59 (g : Nat → Int32) : (wd a cI cZ f u).set 59 (a 59, .inl (cI, 4, .inl g)) = wd a cI cZ (up f 59 g) u := rfl
theorem ws_60 (g : Nat → Int32) : (wd a cI cZ f u).set 60 (a 60, .inl (cI, 4, .inl g)) = wd a cI cZ (up f 60 g) u := rfl
theorem gf_X1_11 (cx : Cx p s m args c cc RX1 nL D cI cZ) (hw : Wd D a cI cZ s f u H locs) (hdg : decode cc pc = .ok (.getfield 11, 3)) (kk : W p l e R s m args below meth c H locs cells slots Q (F0 m (pc + 3) ls (.ref (a 9) :: rest))) : W p l e R s m args below meth c H locs cells slots Q (F0 m pc ls (.ref (a 1) :: rest)) := va_get (D := D) (ci := 1) (v := .ref (a 9)) (C := RX1) (T := TX1) (N := 14) cx.1.1 cx.1.2.1 cx.1.2.2.2.2 uin_X1 cx.1.2.2.2.1 cx.2 hw.1 1 rfl rfl 0 (by decide) (cx.1.2.2.2.2 _ mm_1_30) (fun _ h => h) rfl hdg kk
theorem gf_X1_15 (cx : Cx p s m args c cc RX1 nL D cI cZ) (hw : Wd D a cI cZ s f u H locs) (hdg : decode cc pc = .ok (.getfield 15, 3)) (kk : W p l e R s m args below meth c H locs cells slots Q (F0 m (pc + 3) ls (.ref (a 10) :: rest))) : W p l e R s m args below meth c H locs cells slots Q (F0 m pc ls (.ref (a 1) :: rest)) := va_get (D := D) (ci := 1) (v := .ref (a 10)) (C := RX1) (T := TX1) (N := 14) cx.1.1 cx.1.2.1 cx.1.2.2.2.2 uin_X1 cx.1.2.2.2.1 cx.2 hw.1 1 rfl rfl 1 (by decide) (cx.1.2.2.2.2 _ mm_1_31) (fun _ h => h) rfl hdg kk
theorem gf_X1_18 (cx : Cx p s m args c cc RX1 nL D cI cZ) (hw : Wd D a cI cZ s f u H locs) (hdg : decode cc pc = .ok (.getfield 18, 3)) (kk : W p l e R s m args below meth c H locs cells slots Q (F0 m (pc + 3) ls (.ref (a 11) :: rest))) : W p l e R s m args below meth c H locs cells slots Q (F0 m pc ls (.ref (a 1) :: rest)) := va_get (D := D) (ci := 1) (v := .ref (a 11)) (C := RX1) (T := TX1) (N := 14) cx.1.1 cx.1.2.1 cx.1.2.2.2.2 uin_X1 cx.1.2.2.2.1 cx.2 hw.1 1 rfl rfl 2 (by decide) (cx.1.2.2.2.2 _ mm_1_32) (fun _ h => h) rfl hdg kk
theorem gf_X4_65 (cx : Cx p s m args c cc RX4 nL D cI cZ) (hw : Wd D a cI cZ s f u H locs) (hdg : decode cc pc = .ok (.getfield 65, 3)) (kk : W p l e R s m args below meth c H locs cells slots Q (F0 m (pc + 3) ls (.ref (a 11) :: rest))) : W p l e R s m args below meth c H locs cells slots Q (F0 m pc ls (.ref (a 1) :: rest)) := va_get (D := D) (ci := 1) (v := .ref (a 11)) (C := RX1) (T := TX1) (N := 14) cx.1.1 cx.1.2.1 cx.1.2.2.2.2 uin_X1 cx.1.2.2.2.1 cx.2 hw.1 1 rfl rfl 2 (by decide) (cx.1.2.2.2.2 _ mm_1_33) (fun _ h => h) rfl hdg kk
theorem gf_X5_79 (cx : Cx p s m args c cc RX5 nL D cI cZ) (hw : Wd D a cI cZ s f u H locs) (hdg : decode cc pc = .ok (.getfield 79, 3)) (kk : W p l e R s m args below meth c H locs cells slots Q (F0 m (pc + 3) ls (.ref (a 11) :: rest))) : W p l e R s m args below meth c H locs cells slots Q (F0 m pc ls (.ref (a 1) :: rest)) := va_get (D := D) (ci := 1) (v := .ref (a 11)) (C := RX1) (T := TX1) (N := 14) cx.1.1 cx.1.2.1 cx.1.2.2.2.2 uin_X1 cx.1.2.2.2.1 cx.2 hw.1 1 rfl rfl 2 (by decide) (cx.1.2.2.2.2 _ mm_1_34) (fun _ h => h) rfl hdg kk
theorem gf_X1_21 (cx : Cx p s m args c cc RX1 nL D cI cZ) (hw : Wd D a cI cZ s f u H locs) (hdg : decode cc pc = .ok (.getfield 21, 3)) (kk : W p l e R s m args below meth c H locs cells slots Q (F0 m (pc + 3) ls (.int (f 1 3) :: rest))) : W p l e R s m args below meth c H locs cells slots Q (F0 m pc ls (.ref (a 1) :: rest)) := va_get (D := D) (ci := 1) (v := .int (f 1 3)) (C := RX1) (T := TX1) (N := 14) cx.1.1 cx.1.2.1 cx.1.2.2.2.2 uin_X1 cx.1.2.2.2.1 cx.2 hw.1 1 rfl rfl 3 (by decide) (cx.1.2.2.2.2 _ mm_1_35) (fun _ h => h) rfl hdg kk
theorem pf_X1_21 {x : Int32} (cx : Cx p s m args c cc RX1 nL D cI cZ) (hw : Wd D a cI cZ s f u H locs) (hdg : decode cc pc = .ok (.putfield 21, 3)) (kk : ∀ (H : Heap) (locs : List Loc), Wd D a cI cZ s (up f 1 (upd (f 1) 3 x)) u H locs → W p l e R s m args below meth c H locs cells slots Q (F0 m (pc + 3) ls rest)) : W p l e R s m args below meth c H locs cells slots Q (F0 m pc ls (.int x :: .ref (a 1) :: rest)) := va_put (D := D) (ci := 1) (v := .int x) (ty := .int) (C := RX1) (T := TX1) (N := 14) cx.1.1 cx.1.2.1 cx.1.2.2.2.2 uin_X1 tyX1 tyX1_ok nmX1 cx.1.2.2.2.1 cx.2 hw.1 hw.2.1 hw.2.2 1 rfl rfl 3 (by decide) (cx.1.2.2.2.2 _ mm_1_35) (fun _ h => h) rfl (by decide +kernel) rfl rfl (Nat.le_of_ble_eq_true rfl) hdg (fun H1 locs1 hP hD hS => kk H1 locs1 ⟨hP, hD, hS⟩)
theorem gf_X4_62 (cx : Cx p s m args c cc RX4 nL D cI cZ) (hw : Wd D a cI cZ s f u H locs) (hdg : decode cc pc = .ok (.getfield 62, 3)) (kk : W p l e R s m args below meth c H locs cells slots Q (F0 m (pc + 3) ls (.int (f 1 3) :: rest))) : W p l e R s m args below meth c H locs cells slots Q (F0 m pc ls (.ref (a 1) :: rest)) := va_get (D := D) (ci := 1) (v := .int (f 1 3)) (C := RX1) (T := TX1) (N := 14) cx.1.1 cx.1.2.1 cx.1.2.2.2.2 uin_X1 cx.1.2.2.2.1 cx.2 hw.1 1 rfl rfl 3 (by decide) (cx.1.2.2.2.2 _ mm_1_36) (fun _ h => h) rfl hdg kk
theorem pf_X4_62 {x : Int32} (cx : Cx p s m args c cc RX4 nL D cI cZ) (hw : Wd D a cI cZ s f u H locs) (hdg : decode cc pc = .ok (.putfield 62, 3)) (kk : ∀ (H : Heap) (locs : List Loc), Wd D a cI cZ s (up f 1 (upd (f 1) 3 x)) u H locs → W p l e R s m args below meth c H locs cells slots Q (F0 m (pc + 3) ls rest)) : W p l e R s m args below meth c H locs cells slots Q (F0 m pc ls (.int x :: .ref (a 1) :: rest)) := va_put (D := D) (ci := 1) (v := .int x) (ty := .int) (C := RX1) (T := TX1) (N := 14) cx.1.1 cx.1.2.1 cx.1.2.2.2.2 uin_X1 tyX1 tyX1_ok nmX1 cx.1.2.2.2.1 cx.2 hw.1 hw.2.1 hw.2.2 1 rfl rfl 3 (by decide) (cx.1.2.2.2.2 _ mm_1_36) (fun _ h => h) rfl (by decide +kernel) rfl rfl (Nat.le_of_ble_eq_true rfl) hdg (fun H1 locs1 hP hD hS => kk H1 locs1 ⟨hP, hD, hS⟩)
theorem gf_X5_76 (cx : Cx p s m args c cc RX5 nL D cI cZ) (hw : Wd D a cI cZ s f u H locs) (hdg : decode cc pc = .ok (.getfield 76, 3)) (kk : W p l e R s m args below meth c H locs cells slots Q (F0 m (pc + 3) ls (.int (f 1 3) :: rest))) : W p l e R s m args below meth c H locs cells slots Q (F0 m pc ls (.ref (a 1) :: rest)) := va_get (D := D) (ci := 1) (v := .int (f 1 3)) (C := RX1) (T := TX1) (N := 14) cx.1.1 cx.1.2.1 cx.1.2.2.2.2 uin_X1 cx.1.2.2.2.1 cx.2 hw.1 1 rfl rfl 3 (by decide) (cx.1.2.2.2.2 _ mm_1_37) (fun _ h => h) rfl hdg kk
theorem pf_X5_76 {x : Int32} (cx : Cx p s m args c cc RX5 nL D cI cZ) (hw : Wd D a cI cZ s f u H locs) (hdg : decode cc pc = .ok (.putfield 76, 3)) (kk : ∀ (H : Heap) (locs : List Loc), Wd D a cI cZ s (up f 1 (upd (f 1) 3 x)) u H locs → W p l e R s m args below meth c H locs cells slots Q (F0 m (pc + 3) ls rest)) : W p l e R s m args below meth c H locs cells slots Q (F0 m pc ls (.int x :: .ref (a 1) :: rest)) := va_put (D := D) (ci := 1) (v := .int x) (ty := .int) (C := RX1) (T := TX1) (N := 14) cx.1.1 cx.1.2.1 cx.1.2.2.2.2 uin_X1 tyX1 tyX1_ok nmX1 cx.1.2.2.2.1 cx.2 hw.1 hw.2.1 hw.2.2 1 rfl rfl 3 (by decide) (cx.1.2.2.2.2 _ mm_1_37) (fun _ h => h) rfl (by decide +kernel) rfl rfl (Nat.le_of_ble_eq_true rfl) hdg (fun H1 locs1 hP hD hS => kk H1 locs1 ⟨hP, hD, hS⟩)
theorem gf_X7_262 (cx : Cx p s m args c cc RX7 nL D cI cZ) (hw : Wd D a cI cZ s f u H locs) (hdg : decode cc pc = .ok (.getfield 262, 3)) (kk : W p l e R s m args below meth c H locs cells slots Q (F0 m (pc + 3) ls (.int (f 1 3) :: rest))) : W p l e R s m args below meth c H locs cells slots Q (F0 m pc ls (.ref (a 1) :: rest)) := va_get (D := D) (ci := 1) (v := .int (f 1 3)) (C := RX1) (T := TX1) (N := 14) cx.1.1 cx.1.2.1 cx.1.2.2.2.2 uin_X1 cx.1.2.2.2.1 cx.2 hw.1 1 rfl rfl 3 (by decide) (cx.1.2.2.2.2 _ mm_1_38) (fun _ h => h) rfl hdg kk
theorem pf_X7_262 {x : Int32} (cx : Cx p s m args c cc RX7 nL D cI cZ) (hw : Wd D a cI cZ s f u H locs) (hdg : decode cc pc = .ok (.putfield 262, 3)) (kk : ∀ (H : Heap) (locs : List Loc), Wd D a cI cZ s (up f 1 (upd (f 1) 3 x)) u H locs → W p l e R s m args below meth c H locs cells slots Q (F0 m (pc + 3) ls rest)) : W p l e R s m args below meth c H locs cells slots Q (F0 m pc ls (.int x :: .ref (a 1) :: rest)) := va_put (D := D) (ci := 1) (v := .int x) (ty := .int) (C := RX1) (T := TX1) (N := 14) cx.1.1 cx.1.2.1 cx.1.2.2.2.2 uin_X1 tyX1 tyX1_ok nmX1 cx.1.2.2.2.1 cx.2 hw.1 hw.2.1 hw.2.2 1 rfl rfl 3 (by decide) (cx.1.2.2.2.2 _ mm_1_38) (fun _ h => h) rfl (by decide +kernel) rfl rfl (Nat.le_of_ble_eq_true rfl) hdg (fun H1 locs1 hP hD hS => kk H1 locs1 ⟨hP, hD, hS⟩)
theorem gf_X1_25 (cx : Cx p s m args c cc RX1 nL D cI cZ) (hw : Wd D a cI cZ s f u H locs) (hdg : decode cc pc = .ok (.getfield 25, 3)) (kk : W p l e R s m args below meth c H locs cells slots Q (F0 m (pc + 3) ls (.ref (a 12) :: rest))) : W p l e R s m args below meth c H locs cells slots Q (F0 m pc ls (.ref (a 1) :: rest)) := va_get (D := D) (ci := 1) (v := .ref (a 12)) (C := RX1) (T := TX1) (N := 14) cx.1.1 cx.1.2.1 cx.1.2.2.2.2 uin_X1 cx.1.2.2.2.1 cx.2 hw.1 1 rfl rfl 4 (by decide) (cx.1.2.2.2.2 _ mm_1_39) (fun _ h => h) rfl hdg kk
theorem gf_X5_37 (cx : Cx p s m args c cc RX5 nL D cI cZ) (hw : Wd D a cI cZ s f u H locs) (hdg : decode cc pc = .ok (.getfield 37, 3)) (kk : W p l e R s m args below meth c H locs cells slots Q (F0 m (pc + 3) ls (.ref (a 12) :: rest))) : W p l e R s m args below meth c H locs cells slots Q (F0 m pc ls (.ref (a 1) :: rest)) := va_get (D := D) (ci := 1) (v := .ref (a 12)) (C := RX1) (T := TX1) (N := 14) cx.1.1 cx.1.2.1 cx.1.2.2.2.2 uin_X1 cx.1.2.2.2.1 cx.2 hw.1 1 rfl rfl 4 (by decide) (cx.1.2.2.2.2 _ mm_1_40) (fun _ h => h) rfl hdg kk
theorem gf_X1_28 (cx : Cx p s m args c cc RX1 nL D cI cZ) (hw : Wd D a cI cZ s f u H locs) (hdg : decode cc pc = .ok (.getfield 28, 3)) (kk : W p l e R s m args below meth c H locs cells slots Q (F0 m (pc + 3) ls (.ref (a 13) :: rest))) : W p l e R s m args below meth c H locs cells slots Q (F0 m pc ls (.ref (a 1) :: rest)) := va_get (D := D) (ci := 1) (v := .ref (a 13)) (C := RX1) (T := TX1) (N := 14) cx.1.1 cx.1.2.1 cx.1.2.2.2.2 uin_X1 cx.1.2.2.2.1 cx.2 hw.1 1 rfl rfl 5 (by decide) (cx.1.2.2.2.2 _ mm_1_41) (fun _ h => h) rfl hdg kk
theorem gf_X1_31 (cx : Cx p s m args c cc RX1 nL D cI cZ) (hw : Wd D a cI cZ s f u H locs) (hdg : decode cc pc = .ok (.getfield 31, 3)) (kk : W p l e R s m args below meth c H locs cells slots Q (F0 m (pc + 3) ls (.ref (a 14) :: rest))) : W p l e R s m args below meth c H locs cells slots Q (F0 m pc ls (.ref (a 1) :: rest)) := va_get (D := D) (ci := 1) (v := .ref (a 14)) (C := RX1) (T := TX1) (N := 14) cx.1.1 cx.1.2.1 cx.1.2.2.2.2 uin_X1 cx.1.2.2.2.1 cx.2 hw.1 1 rfl rfl 6 (by decide) (cx.1.2.2.2.2 _ mm_1_42) (fun _ h => h) rfl hdg kk
theorem gf_X4_72 (cx : Cx p s m args c cc RX4 nL D cI cZ) (hw : Wd D a cI cZ s f u H locs) (hdg : decode cc pc = .ok (.getfield 72, 3)) (kk : W p l e R s m args below meth c H locs cells slots Q (F0 m (pc + 3) ls (.ref (a 14) :: rest))) : W p l e R s m args below meth c H locs cells slots Q (F0 m pc ls (.ref (a 1) :: rest)) := va_get (D := D) (ci := 1) (v := .ref (a 14)) (C := RX1) (T := TX1) (N := 14) cx.1.1 cx.1.2.1 cx.1.2.2.2.2 uin_X1 cx.1.2.2.2.1 cx.2 hw.1 1 rfl rfl 6 (by decide) (cx.1.2.2.2.2 _ mm_1_43) (fun _ h => h) rfl hdg kk
theorem gf_X7_189 (cx : Cx p s m args c cc RX7 nL D cI cZ) (hw : Wd D a cI cZ s f u H locs) (hdg : decode cc pc = .ok (.getfield 189, 3)) (kk : W p l e R s m args below meth c H locs cells slots Q (F0 m (pc + 3) ls (.ref (a 14) :: rest))) : W p l e R s m args below meth c H locs cells slots Q (F0 m pc ls (.ref (a 1) :: rest)) := va_get (D := D) (ci := 1) (v := .ref (a 14)) (C := RX1) (T := TX1) (N := 14) cx.1.1 cx.1.2.1 cx.1.2.2.2.2 uin_X1 cx.1.2.2.2.1 cx.2 hw.1 1 rfl rfl 6 (by decide) (cx.1.2.2.2.2 _ mm_1_44) (fun _ h => h) rfl hdg kk
theorem gf_X1_34 (cx : Cx p s m args c cc RX1 nL D cI cZ) (hw : Wd D a cI cZ s f u H locs) (hdg : decode cc pc = .ok (.getfield 34, 3)) (kk : W p l e R s m args below meth c H locs cells slots Q (F0 m (pc + 3) ls (.ref (a 15) :: rest))) : W p l e R s m args below meth c H locs cells slots Q (F0 m pc ls (.ref (a 1) :: rest)) := va_get (D := D) (ci := 1) (v := .ref (a 15)) (C := RX1) (T := TX1) (N := 14) cx.1.1 cx.1.2.1 cx.1.2.2.2.2 uin_X1 cx.1.2.2.2.1 cx.2 hw.1 1 rfl rfl 7 (by decide) (cx.1.2.2.2.2 _ mm_1_45) (fun _ h => h) rfl hdg kk
theorem gf_X5_44 (cx : Cx p s m args c cc RX5 nL D cI cZ) (hw : Wd D a cI cZ s f u H locs) (hdg : decode cc pc = .ok (.getfield 44, 3)) (kk : W p l e R s m args below meth c H locs cells slots Q (F0 m (pc + 3) ls (.ref (a 15) :: rest))) : W p l e R s m args below meth c H locs cells slots Q (F0 m pc ls (.ref (a 1) :: rest)) := va_get (D := D) (ci := 1) (v := .ref (a 15)) (C := RX1) (T := TX1) (N := 14) cx.1.1 cx.1.2.1 cx.1.2.2.2.2 uin_X1 cx.1.2.2.2.1 cx.2 hw.1 1 rfl rfl 7 (by decide) (cx.1.2.2.2.2 _ mm_1_46) (fun _ h => h) rfl hdg kk
theorem gf_X1_37 (cx : Cx p s m args c cc RX1 nL D cI cZ) (hw : Wd D a cI cZ s f u H locs) (hdg : decode cc pc = .ok (.getfield 37, 3)) (kk : W p l e R s m args below meth c H locs cells slots Q (F0 m (pc + 3) ls (.ref (a 16) :: rest))) : W p l e R s m args below meth c H locs cells slots Q (F0 m pc ls (.ref (a 1) :: rest)) := va_get (D := D) (ci := 1) (v := .ref (a 16)) (C := RX1) (T := TX1) (N := 14) cx.1.1 cx.1.2.1 cx.1.2.2.2.2 uin_X1 cx.1.2.2.2.1 cx.2 hw.1 1 rfl rfl 8 (by decide) (cx.1.2.2.2.2 _ mm_1_47) (fun _ h => h) rfl hdg kk
theorem gf_X1_40 (cx : Cx p s m args c cc RX1 nL D cI cZ) (hw : Wd D a cI cZ s f u H locs) (hdg : decode cc pc = .ok (.getfield 40, 3)) (kk : W p l e R s m args below meth c H locs cells slots Q (F0 m (pc + 3) ls (.ref (a 17) :: rest))) : W p l e R s m args below meth c H locs cells slots Q (F0 m pc ls (.ref (a 1) :: rest)) := va_get (D := D) (ci := 1) (v := .ref (a 17)) (C := RX1) (T := TX1) (N := 14) cx.1.1 cx.1.2.1 cx.1.2.2.2.2 uin_X1 cx.1.2.2.2.1 cx.2 hw.1 1 rfl rfl 9 (by decide) (cx.1.2.2.2.2 _ mm_1_48) (fun _ h => h) rfl hdg kk
theorem gf_X1_43 (cx : Cx p s m args c cc RX1 nL D cI cZ) (hw : Wd D a cI cZ s f u H locs) (hdg : decode cc pc = .ok (.getfield 43, 3)) (kk : W p l e R s m args below meth c H locs cells slots Q (F0 m (pc + 3) ls (.ref (a 18) :: rest))) : W p l e R s m args below meth c H locs cells slots Q (F0 m pc ls (.ref (a 1) :: rest)) := va_get (D := D) (ci := 1) (v := .ref (a 18)) (C := RX1) (T := TX1) (N := 14) cx.1.1 cx.1.2.1 cx.1.2.2.2.2 uin_X1 cx.1.2.2.2.1 cx.2 hw.1 1 rfl rfl 10 (by decide) (cx.1.2.2.2.2 _ mm_1_49) (fun _ h => h) rfl hdg kk
theorem gf_X5_41 (cx : Cx p s m args c cc RX5 nL D cI cZ) (hw : Wd D a cI cZ s f u H locs) (hdg : decode cc pc = .ok (.getfield 41, 3)) (kk : W p l e R s m args below meth c H locs cells slots Q (F0 m (pc + 3) ls (.ref (a 18) :: rest))) : W p l e R s m args below meth c H locs cells slots Q (F0 m pc ls (.ref (a 1) :: rest)) := va_get (D := D) (ci := 1) (v := .ref (a 18)) (C := RX1) (T := TX1) (N := 14) cx.1.1 cx.1.2.1 cx.1.2.2.2.2 uin_X1 cx.1.2.2.2.1 cx.2 hw.1 1 rfl rfl 10 (by decide) (cx.1.2.2.2.2 _ mm_1_50) (fun _ h => h) rfl hdg kk
theorem gf_X4_111 (cx : Cx p s m args c cc RX4 nL D cI cZ) (hw : Wd D a cI cZ s f u H locs) (hdg : decode cc pc = .ok (.getfield 111, 3)) (kk : W p l e R s m args below meth c H locs cells slots Q (F0 m (pc + 3) ls (.ref (a 18) :: rest))) : W p l e R s m args below meth c H locs cells slots Q (F0 m pc ls (.ref (a 1) :: rest)) := va_get (D := D) (ci := 1) (v := .ref (a 18)) (C := RX1) (T := TX1) (N := 14) cx.1.1 cx.1.2.1 cx.1.2.2.2.2 uin_X1 cx.1.2.2.2.1 cx.2 hw.1 1 rfl rfl 10 (by decide) (cx.1.2.2.2.2 _ mm_1_51) (fun _ h => h) rfl hdg kk
theorem gf_X7_186 (cx : Cx p s m args c cc RX7 nL D cI cZ) (hw : Wd D a cI cZ s f u H locs) (hdg : decode cc pc = .ok (.getfield 186, 3)) (kk : W p l e R s m args below meth c H locs cells slots Q (F0 m (pc + 3) ls (.ref (a 18) :: rest))) : W p l e R s m args below meth c H locs cells slots Q (F0 m pc ls (.ref (a 1) :: rest)) := va_get (D := D) (ci := 1) (v := .ref (a 18)) (C := RX1) (T := TX1) (N := 14) cx.1.1 cx.1.2.1 cx.1.2.2.2.2 uin_X1 cx.1.2.2.2.1 cx.2 hw.1 1 rfl rfl 10 (by decide) (cx.1.2.2.2.2 _ mm_1_52) (fun _ h => h) rfl hdg kk
theorem gf_X1_46 (cx : Cx p s m args c cc RX1 nL D cI cZ) (hw : Wd D a cI cZ s f u H locs) (hdg : decode cc pc = .ok (.getfield 46, 3)) (kk : W p l e R s m args below meth c H locs cells slots Q (F0 m (pc + 3) ls (.ref (a 19) :: rest))) : W p l e R s m args below meth c H locs cells slots Q (F0 m pc ls (.ref (a 1) :: rest)) := va_get (D := D) (ci := 1) (v := .ref (a 19)) (C := RX1) (T := TX1) (N := 14) cx.1.1 cx.1.2.1 cx.1.2.2.2.2 uin_X1 cx.1.2.2.2.1 cx.2 hw.1 1 rfl rfl 11 (by decide) (cx.1.2.2.2.2 _ mm_1_53) (fun _ h => h) rfl hdg kk
theorem gf_X1_49 (cx : Cx p s m args c cc RX1 nL D cI cZ) (hw : Wd D a cI cZ s f u H locs) (hdg : decode cc pc = .ok (.getfield 49, 3)) (kk : W p l e R s m args below meth c H locs cells slots Q (F0 m (pc + 3) ls (.int (f 1 12) :: rest))) : W p l e R s m args below meth c H locs cells slots Q (F0 m pc ls (.ref (a 1) :: rest)) := va_get (D := D) (ci := 1) (v := .int (f 1 12)) (C := RX1) (T := TX1) (N := 14) cx.1.1 cx.1.2.1 cx.1.2.2.2.2 uin_X1 cx.1.2.2.2.1 cx.2 hw.1 1 rfl rfl 12 (by decide) (cx.1.2.2.2.2 _ mm_1_54) (fun _ h => h) rfl hdg kk
theorem pf_X1_49 {x : Int32} (cx : Cx p s m args c cc RX1 nL D cI cZ) (hw : Wd D a cI cZ s f u H locs) (hdg : decode cc pc = .ok (.putfield 49, 3)) (kk : ∀ (H : Heap) (locs : List Loc), Wd D a cI cZ s (up f 1 (upd (f 1) 12 x)) u H locs → W p l e R s m args below meth c H locs cells slots Q (F0 m (pc + 3) ls rest)) : W p l e R s m args below meth c H locs cells slots Q (F0 m pc ls (.int x :: .ref (a 1) :: rest)) := va_put (D := D) (ci := 1) (v := .int x) (ty := .int) (C := RX1) (T := TX1) (N := 14) cx.1.1 cx.1.2.1 cx.1.2.2.2.2 uin_X1 tyX1 tyX1_ok nmX1 cx.1.2.2.2.1 cx.2 hw.1 hw.2.1 hw.2.2 1 rfl rfl 12 (by decide) (cx.1.2.2.2.2 _ mm_1_54) (fun _ h => h) rfl (by decide +kernel) rfl rfl (Nat.le_of_ble_eq_true rfl) hdg (fun H1 locs1 hP hD hS => kk H1 locs1 ⟨hP, hD, hS⟩)
theorem gf_X5_15 (cx : Cx p s m args c cc RX5 nL D cI cZ) (hw : Wd D a cI cZ s f u H locs) (hdg : decode cc pc = .ok (.getfield 15, 3)) (kk : W p l e R s m args below meth c H locs cells slots Q (F0 m (pc + 3) ls (.int (f 1 12) :: rest))) : W p l e R s m args below meth c H locs cells slots Q (F0 m pc ls (.ref (a 1) :: rest)) := va_get (D := D) (ci := 1) (v := .int (f 1 12)) (C := RX1) (T := TX1) (N := 14) cx.1.1 cx.1.2.1 cx.1.2.2.2.2 uin_X1 cx.1.2.2.2.1 cx.2 hw.1 1 rfl rfl 12 (by decide) (cx.1.2.2.2.2 _ mm_1_55) (fun _ h => h) rfl hdg kk
theorem pf_X5_15 {x : Int32} (cx : Cx p s m args c cc RX5 nL D cI cZ) (hw : Wd D a cI cZ s f u H locs) (hdg : decode cc pc = .ok (.putfield 15, 3)) (kk : ∀ (H : Heap) (locs : List Loc), Wd D a cI cZ s (up f 1 (upd (f 1) 12 x)) u H locs → W p l e R s m args below meth c H locs cells slots Q (F0 m (pc + 3) ls rest)) : W p l e R s m args below meth c H locs cells slots Q (F0 m pc ls (.int x :: .ref (a 1) :: rest)) := va_put (D := D) (ci := 1) (v := .int x) (ty := .int) (C := RX1) (T := TX1) (N := 14) cx.1.1 cx.1.2.1 cx.1.2.2.2.2 uin_X1 tyX1 tyX1_ok nmX1 cx.1.2.2.2.1 cx.2 hw.1 hw.2.1 hw.2.2 1 rfl rfl 12 (by decide) (cx.1.2.2.2.2 _ mm_1_55) (fun _ h => h) rfl (by decide +kernel) rfl rfl (Nat.le_of_ble_eq_true rfl) hdg (fun H1 locs1 hP hD hS => kk H1 locs1 ⟨hP, hD, hS⟩)
theorem gf_X4_53 (cx : Cx p s m args c cc RX4 nL D cI cZ) (hw : Wd D a cI cZ s f u H locs) (hdg : decode cc pc = .ok (.getfield 53, 3)) (kk : W p l e R s m args below meth c H locs cells slots Q (F0 m (pc + 3) ls (.int (f 1 12) :: rest))) : W p l e R s m args below meth c H locs cells slots Q (F0 m pc ls (.ref (a 1) :: rest)) := va_get (D := D) (ci := 1) (v := .int (f 1 12)) (C := RX1) (T := TX1) (N := 14) cx.1.1 cx.1.2.1 cx.1.2.2.2.2 uin_X1 cx.1.2.2.2.1 cx.2 hw.1 1 rfl rfl 12 (by decide) (cx.1.2.2.2.2 _ mm_1_56) (fun _ h => h) rfl hdg kk
theorem pf_X4_53 {x : Int32} (cx : Cx p s m args c cc RX4 nL D cI cZ) (hw : Wd D a cI cZ s f u H locs) (hdg : decode cc pc = .ok (.putfield 53, 3)) (kk : ∀ (H : Heap) (locs : List Loc), Wd D a cI cZ s (up f 1 (upd (f 1) 12 x)) u H locs → W p l e R s m args below meth c H locs cells slots Q (F0 m (pc + 3) ls rest)) : W p l e R s m args below meth c H locs cells slots Q (F0 m pc ls (.int x :: .ref (a 1) :: rest)) := va_put (D := D) (ci := 1) (v := .int x) (ty := .int) (C := RX1) (T := TX1) (N := 14) cx.1.1 cx.1.2.1 cx.1.2.2.2.2 uin_X1 tyX1 tyX1_ok nmX1 cx.1.2.2.2.1 cx.2 hw.1 hw.2.1 hw.2.2 1 rfl rfl 12 (by decide) (cx.1.2.2.2.2 _ mm_1_56) (fun _ h => h) rfl (by decide +kernel) rfl rfl (Nat.le_of_ble_eq_true rfl) hdg (fun H1 locs1 hP hD hS => kk H1 locs1 ⟨hP, hD, hS⟩)
theorem gf_X7_268 (cx : Cx p s m args c cc RX7 nL D cI cZ) (hw : Wd D a cI cZ s f u H locs) (hdg : decode cc pc = .ok (.getfield 268, 3)) (kk : W p l e R s m args below meth c H locs cells slots Q (F0 m (pc + 3) ls (.int (f 1 12) :: rest))) : W p l e R s m args below meth c H locs cells slots Q (F0 m pc ls (.ref (a 1) :: rest)) := va_get (D := D) (ci := 1) (v := .int (f 1 12)) (C := RX1) (T := TX1) (N := 14) cx.1.1 cx.1.2.1 cx.1.2.2.2.2 uin_X1 cx.1.2.2.2.1 cx.2 hw.1 1 rfl rfl 12 (by decide) (cx.1.2.2.2.2 _ mm_1_57) (fun _ h => h) rfl hdg kk
theorem pf_X7_268 {x : Int32} (cx : Cx p s m args c cc RX7 nL D cI cZ) (hw : Wd D a cI cZ s f u H locs) (hdg : decode cc pc = .ok (.putfield 268, 3)) (kk : ∀ (H : Heap) (locs : List Loc), Wd D a cI cZ s (up f 1 (upd (f 1) 12 x)) u H locs → W p l e R s m args below meth c H locs cells slots Q (F0 m (pc + 3) ls rest)) : W p l e R s m args below meth c H locs cells slots Q (F0 m pc ls (.int x :: .ref (a 1) :: rest)) := va_put (D := D) (ci := 1) (v := .int x) (ty := .int) (C := RX1) (T := TX1) (N := 14) cx.1.1 cx.1.2.1 cx.1.2.2.2.2 uin_X1 tyX1 tyX1_ok nmX1 cx.1.2.2.2.1 cx.2 hw.1 hw.2.1 hw.2.2 1 rfl rfl 12 (by decide) (cx.1.2.2.2.2 _ mm_1_57) (fun _ h => h) rfl (by decide +kernel) rfl rfl (Nat.le_of_ble_eq_true rfl) hdg (fun H1 locs1 hP hD hS => kk H1 locs1 ⟨hP, hD, hS⟩)
theorem gf_X1_52 (cx : Cx p s m args c cc RX1 nL D cI cZ) (hw : Wd D a cI cZ s f u H locs) (hdg : decode cc pc = .ok (.getfield 52, 3)) (kk : W p l e R s m args below meth c H locs cells slots Q (F0 m (pc + 3) ls (.ref (a 20) :: rest))) : W p l e R s m args below meth c H locs cells slots Q (F0 m pc ls (.ref (a 1) :: rest)) := va_get (D := D) (ci := 1) (v := .ref (a 20)) (C := RX1) (T := TX1) (N := 14) cx.1.1 cx.1.2.1 cx.1.2.2.2.2 uin_X1 cx.1.2.2.2.1 cx.2 hw.1 1 rfl rfl 13 (by decide) (cx.1.2.2.2.2 _ mm_1_58) (fun _ h => h) rfl hdg kk
theorem gf_X0_11 (cx : Cx p s m args c cc RX0 nL D cI cZ) (hw : Wd D a cI cZ s f u H locs) (hdg : decode cc pc = .ok (.getfield 11, 3)) (kk : W p l e R s m args below meth c H locs cells slots Q (F0 m (pc + 3) ls (.ref (a 21) :: rest))) : W p l e R s m args below meth c H locs cells slots Q (F0 m pc ls (.ref (a 2) :: rest)) := va_get (D := D) (ci := 0) (v := .ref (a 21)) (C := RX0) (T := TX0) (N := 5) cx.1.1 cx.1.2.1 cx.1.2.2.2.2 uin_X0 cx.1.2.2.2.1 cx.2 hw.1 2 rfl rfl 0 (by decide) (cx.1.2.2.2.2 _ mm_1_95) (fun _ h => h) rfl hdg kk
theorem gf_X0_15 (cx : Cx p s m args c cc RX0 nL D cI cZ) (hw : Wd D a cI cZ s f u H locs) (hdg : decode cc pc = .ok (.getfield 15, 3)) (kk : W p l e R s m args below meth c H locs cells slots Q (F0 m (pc + 3) ls (.ref (a 22) :: rest))) : W p l e R s m args below meth c H locs cells slots Q (F0 m pc ls (.ref (a 2) :: rest)) := va_get (D := D) (ci := 0) (v := .ref (a 22)) (C := RX0) (T := TX0) (N := 5) cx.1.1 cx.1.2.1 cx.1.2.2.2.2 uin_X0 cx.1.2.2.2.1 cx.2 hw.1 2 rfl rfl 1 (by decide) (cx.1.2.2.2.2 _ mm_1_96) (fun _ h => h) rfl hdg kk
theorem gf_X7_125 (cx : Cx p s m args c cc RX7 nL D cI cZ) (hw : Wd D a cI cZ s f u H locs) (hdg : decode cc pc = .ok (.getfield 125, 3)) (kk : W p l e R s m args below meth c H locs cells slots Q (F0 m (pc + 3) ls (.ref (a 22) :: rest))) : W p l e R s m args below meth c H locs cells slots Q (F0 m pc ls (.ref (a 2) :: rest)) := va_get (D := D) (ci := 0) (v := .ref (a 22)) (C := RX0) (T := TX0) (N := 5) cx.1.1 cx.1.2.1 cx.1.2.2.2.2 uin_X0 cx.1.2.2.2.1 cx.2 hw.1 2 rfl rfl 1 (by decide) (cx.1.2.2.2.2 _ mm_1_97) (fun _ h => h) rfl hdg kk
theorem gf_X0_18 (cx : Cx p s m args c cc RX0 nL D cI cZ) (hw : Wd D a cI cZ s f u H locs) (hdg : decode cc pc = .ok (.getfield 18, 3)) (kk : W p l e R s m args below meth c H locs cells slots Q (F0 m (pc + 3) ls (.ref (a 23) :: rest))) : W p l e R s m args below meth c H locs cells slots Q (F0 m pc ls (.ref (a 2) :: rest)) := va_get (D := D) (ci := 0) (v := .ref (a 23)) (C := RX0) (T := TX0) (N := 5) cx.1.1 cx.1.2.1 cx.1.2.2.2.2 uin_X0 cx.1.2.2.2.1 cx.2 hw.1 2 rfl rfl 2 (by decide) (cx.1.2.2.2.2 _ mm_1_98) (fun _ h => h) rfl hdg kk
theorem gf_X7_129 (cx : Cx p s m args c cc RX7 nL D cI cZ) (hw : Wd D a cI cZ s f u H locs) (hdg : decode cc pc = .ok (.getfield 129, 3)) (kk : W p l e R s m args below meth c H locs cells slots Q (F0 m (pc + 3) ls (.ref (a 23) :: rest))) : W p l e R s m args below meth c H locs cells slots Q (F0 m pc ls (.ref (a 2) :: rest)) := va_get (D := D) (ci := 0) (v := .ref (a 23)) (C := RX0) (T := TX0) (N := 5) cx.1.1 cx.1.2.1 cx.1.2.2.2.2 uin_X0 cx.1.2.2.2.1 cx.2 hw.1 2 rfl rfl 2 (by decide) (cx.1.2.2.2.2 _ mm_1_99) (fun _ h => h) rfl hdg kk
theorem gf_X0_21 (cx : Cx p s m args c cc RX0 nL D cI cZ) (hw : Wd D a cI cZ s f u H locs) (hdg : decode cc pc = .ok (.getfield 21, 3)) (kk : W p l e R s m args below meth c H locs cells slots Q (F0 m (pc + 3) ls (.int (f 2 3) :: rest))) : W p l e R s m args below meth c H locs cells slots Q (F0 m pc ls (.ref (a 2) :: rest)) := va_get (D := D) (ci := 0) (v := .int (f 2 3)) (C := RX0) (T := TX0) (N := 5) cx.1.1 cx.1.2.1 cx.1.2.2.2.2 uin_X0 cx.1.2.2.2.1 cx.2 hw.1 2 rfl rfl 3 (by decide) (cx.1.2.2.2.2 _ mm_1_100) (fun _ h => h) rfl hdg kk
theorem pf_X0_21 {x : Int32} (cx : Cx p s m args c cc RX0 nL D cI cZ) (hw : Wd D a cI cZ s f u H locs) (hdg : decode cc pc = .ok (.putfield 21, 3)) (kk : ∀ (H : Heap) (locs : List Loc), Wd D a cI cZ s (up f 2 (upd (f 2) 3 x)) u H locs → W p l e R s m args below meth c H locs cells slots Q (F0 m (pc + 3) ls rest)) : W p l e R s m args below meth c H locs cells slots Q (F0 m pc ls (.int x :: .ref (a 2) :: rest)) := va_put (D := D) (ci := 0) (v := .int x) (ty := .int) (C := RX0) (T := TX0) (N := 5) cx.1.1 cx.1.2.1 cx.1.2.2.2.2 uin_X0 tyX0 tyX0_ok nmX0 cx.1.2.2.2.1 cx.2 hw.1 hw.2.1 hw.2.2 2 rfl rfl 3 (by decide) (cx.1.2.2.2.2 _ mm_1_100) (fun _ h => h) rfl (by decide +kernel) rfl rfl (Nat.le_of_ble_eq_true rfl) hdg (fun H1 locs1 hP hD hS => kk H1 locs1 ⟨hP, hD, hS⟩)
theorem gf_X7_122 (cx : Cx p s m args c cc RX7 nL D cI cZ) (hw : Wd D a cI cZ s f u H locs) (hdg : decode cc pc = .ok (.getfield 122, 3)) (kk : W p l e R s m args below meth c H locs cells slots Q (F0 m (pc + 3) ls (.int (f 2 3) :: rest))) : W p l e R s m args below meth c H locs cells slots Q (F0 m pc ls (.ref (a 2) :: rest)) := va_get (D := D) (ci := 0) (v := .int (f 2 3)) (C := RX0) (T := TX0) (N := 5) cx.1.1 cx.1.2.1 cx.1.2.2.2.2 uin_X0 cx.1.2.2.2.1 cx.2 hw.1 2 rfl rfl 3 (by decide) (cx.1.2.2.2.2 _ mm_1_101) (fun _ h => h) rfl hdg kk
theorem pf_X7_122 {x : Int32} (cx : Cx p s m args c cc RX7 nL D cI cZ) (hw : Wd D a cI cZ s f u H locs) (hdg : decode cc pc = .ok (.putfield 122, 3)) (kk : ∀ (H : Heap) (locs : List Loc), Wd D a cI cZ s (up f 2 (upd (f 2) 3 x)) u H locs → W p l e R s m args below meth c H locs cells slots Q (F0 m (pc + 3) ls rest)) : W p l e R s m args below meth c H locs cells slots Q (F0 m pc ls (.int x :: .ref (a 2) :: rest)) := va_put (D := D) (ci := 0) (v := .int x) (ty := .int) (C := RX0) (T := TX0) (N := 5) cx.1.1 cx.1.2.1 cx.1.2.2.2.2 uin_X0 tyX0 tyX0_ok nmX0 cx.1.2.2.2.1 cx.2 hw.1 hw.2.1 hw.2.2 2 rfl rfl 3 (by decide) (cx.1.2.2.2.2 _ mm_1_101) (fun _ h => h) rfl (by decide +kernel) rfl rfl (Nat.le_of_ble_eq_true rfl) hdg (fun H1 locs1 hP hD hS => kk H1 locs1 ⟨hP, hD, hS⟩)
theorem gf_X0_25 (cx : Cx p s m args c cc RX0 nL D cI cZ) (hw : Wd D a cI cZ s f u H locs) (hdg : decode cc pc = .ok (.getfield 25, 3)) (kk : W p l e R s m args below meth c H locs cells slots Q (F0 m (pc + 3) ls (.int (f 2 4) :: rest))) : W p l e R s m args below meth c H locs cells slots Q (F0 m pc ls (.ref (a 2) :: rest)) := va_get (D := D) (ci := 0) (v := .int (f 2 4)) (C := RX0) (T := TX0) (N := 5) cx.1.1 cx.1.2.1 cx.1.2.2.2.2 uin_X0 cx.1.2.2.2.1 cx.2 hw.1 2 rfl rfl 4 (by decide) (cx.1.2.2.2.2 _ mm_1_102) (fun _ h => h) rfl hdg kk
theorem pf_X0_25 {x : Int32} (cx : Cx p s m args c cc RX0 nL D cI cZ) (hw : Wd D a cI cZ s f u H locs) (hdg : decode cc pc = .ok (.putfield 25, 3)) (kk : ∀ (H : Heap) (locs : List Loc), Wd D a cI cZ s (up f 2 (upd (f 2) 4 x)) u H locs → W p l e R s m args below meth c H locs cells slots Q (F0 m (pc + 3) ls rest)) : W p l e R s m args below meth c H locs cells slots Q (F0 m pc ls (.int x :: .ref (a 2) :: rest)) := va_put (D := D) (ci := 0) (v := .int x) (ty := .int) (C := RX0) (T := TX0) (N := 5) cx.1.1 cx.1.2.1 cx.1.2.2.2.2 uin_X0 tyX0 tyX0_ok nmX0 cx.1.2.2.2.1 cx.2 hw.1 hw.2.1 hw.2.2 2 rfl rfl 4 (by decide) (cx.1.2.2.2.2 _ mm_1_102) (fun _ h => h) rfl (by decide +kernel) rfl rfl (Nat.le_of_ble_eq_true rfl) hdg (fun H1 locs1 hP hD hS => kk H1 locs1 ⟨hP, hD, hS⟩)
theorem gf_X7_119 (cx : Cx p s m args c cc RX7 nL D cI cZ) (hw : Wd D a cI cZ s f u H locs) (hdg : decode cc pc = .ok (.getfield 119, 3)) (kk : W p l e R s m args below meth c H locs cells slots Q (F0 m (pc + 3) ls (.int (f 2 4) :: rest))) : W p l e R s m args below meth c H locs cells slots Q (F0 m pc ls (.ref (a 2) :: rest)) := va_get (D := D) (ci := 0) (v := .int (f 2 4)) (C := RX0) (T := TX0) (N := 5) cx.1.1 cx.1.2.1 cx.1.2.2.2.2 uin_X0 cx.1.2.2.2.1 cx.2 hw.1 2 rfl rfl 4 (by decide) (cx.1.2.2.2.2 _ mm_1_103) (fun _ h => h) rfl hdg kk
theorem pf_X7_119 {x : Int32} (cx : Cx p s m args c cc RX7 nL D cI cZ) (hw : Wd D a cI cZ s f u H locs) (hdg : decode cc pc = .ok (.putfield 119, 3)) (kk : ∀ (H : Heap) (locs : List Loc), Wd D a cI cZ s (up f 2 (upd (f 2) 4 x)) u H locs → W p l e R s m args below meth c H locs cells slots Q (F0 m (pc + 3) ls rest)) : W p l e R s m args below meth c H locs cells slots Q (F0 m pc ls (.int x :: .ref (a 2) :: rest)) := va_put (D := D) (ci := 0) (v := .int x) (ty := .int) (C := RX0) (T := TX0) (N := 5) cx.1.1 cx.1.2.1 cx.1.2.2.2.2 uin_X0 tyX0 tyX0_ok nmX0 cx.1.2.2.2.1 cx.2 hw.1 hw.2.1 hw.2.2 2 rfl rfl 4 (by decide) (cx.1.2.2.2.2 _ mm_1_103) (fun _ h => h) rfl (by decide +kernel) rfl rfl (Nat.le_of_ble_eq_true rfl) hdg (fun H1 locs1 hP hD hS => kk H1 locs1 ⟨hP, hD, hS⟩)
theorem gf_X6_11 (cx : Cx p s m args c cc RX6 nL D cI cZ) (hw : Wd D a cI cZ s f u H locs) (hdg : decode cc pc = .ok (.getfield 11, 3)) (kk : W p l e R s m args below meth c H locs cells slots Q (F0 m (pc + 3) ls (.ref (a 24) :: rest))) : W p l e R s m args below meth c H locs cells slots Q (F0 m pc ls (.ref (a 3) :: rest)) := va_get (D := D) (ci := 6) (v := .ref (a 24)) (C := RX6) (T := TX6) (N := 4) cx.1.1 cx.1.2.1 cx.1.2.2.2.2 uin_X6 cx.1.2.2.2.1 cx.2 hw.1 3 rfl rfl 0 (by decide) (cx.1.2.2.2.2 _ mm_1_121) (fun _ h => h) rfl hdg kk
theorem gf_X6_15 (cx : Cx p s m args c cc RX6 nL D cI cZ) (hw : Wd D a cI cZ s f u H locs) (hdg : decode cc pc = .ok (.getfield 15, 3)) (kk : W p l e R s m args below meth c H locs cells slots Q (F0 m (pc + 3) ls (.ref (a 25) :: rest))) : W p l e R s m args below meth c H locs cells slots Q (F0 m pc ls (.ref (a 3) :: rest)) := va_get (D := D) (ci := 6) (v := .ref (a 25)) (C := RX6) (T := TX6) (N := 4) cx.1.1 cx.1.2.1 cx.1.2.2.2.2 uin_X6 cx.1.2.2.2.1 cx.2 hw.1 3 rfl rfl 1 (by decide) (cx.1.2.2.2.2 _ mm_1_122) (fun _ h => h) rfl hdg kk
theorem gf_X7_135 (cx : Cx p s m args c cc RX7 nL D cI cZ) (hw : Wd D a cI cZ s f u H locs) (hdg : decode cc pc = .ok (.getfield 135, 3)) (kk : W p l e R s m args below meth c H locs cells slots Q (F0 m (pc + 3) ls (.ref (a 25) :: rest))) : W p l e R s m args below meth c H locs cells slots Q (F0 m pc ls (.ref (a 3) :: rest)) := va_get (D := D) (ci := 6) (v := .ref (a 25)) (C := RX6) (T := TX6) (N := 4) cx.1.1 cx.1.2.1 cx.1.2.2.2.2 uin_X6 cx.1.2.2.2.1 cx.2 hw.1 3 rfl rfl 1 (by decide) (cx.1.2.2.2.2 _ mm_1_123) (fun _ h => h) rfl hdg kk
theorem gf_X6_18 (cx : Cx p s m args c cc RX6 nL D cI cZ) (hw : Wd D a cI cZ s f u H locs) (hdg : decode cc pc = .ok (.getfield 18, 3)) (kk : W p l e R s m args below meth c H locs cells slots Q (F0 m (pc + 3) ls (.ref (a 26) :: rest))) : W p l e R s m args below meth c H locs cells slots Q (F0 m pc ls (.ref (a 3) :: rest)) := va_get (D := D) (ci := 6) (v := .ref (a 26)) (C := RX6) (T := TX6) (N := 4) cx.1.1 cx.1.2.1 cx.1.2.2.2.2 uin_X6 cx.1.2.2.2.1 cx.2 hw.1 3 rfl rfl 2 (by decide) (cx.1.2.2.2.2 _ mm_1_124) (fun _ h => h) rfl hdg kk
theorem gf_X7_138 (cx : Cx p s m args c cc RX7 nL D cI cZ) (hw : Wd D a cI cZ s f u H locs) (hdg : decode cc pc = .ok (.getfield 138, 3)) (kk : W p l e R s m args below meth c H locs cells slots Q (F0 m (pc + 3) ls (.ref (a 26) :: rest))) : W p l e R s m args below meth c H locs cells slots Q (F0 m pc ls (.ref (a 3) :: rest)) := va_get (D := D) (ci := 6) (v := .ref (a 26)) (C := RX6) (T := TX6) (N := 4) cx.1.1 cx.1.2.1 cx.1.2.2.2.2 uin_X6 cx.1.2.2.2.1 cx.2 hw.1 3 rfl rfl 2 (by decide) (cx.1.2.2.2.2 _ mm_1_125) (fun _ h => h) rfl hdg kk
theorem gf_X6_21 (cx : Cx p s m args c cc RX6 nL D cI cZ) (hw : Wd D a cI cZ s f u H locs) (hdg : decode cc pc = .ok (.getfield 21, 3)) (kk : W p l e R s m args below meth c H locs cells slots Q (F0 m (pc + 3) ls (.int (f 3 3) :: rest))) : W p l e R s m args below meth c H locs cells slots Q (F0 m pc ls (.ref (a 3) :: rest)) := va_get (D := D) (ci := 6) (v := .int (f 3 3)) (C := RX6) (T := TX6) (N := 4) cx.1.1 cx.1.2.1 cx.1.2.2.2.2 uin_X6 cx.1.2.2.2.1 cx.2 hw.1 3 rfl rfl 3 (by decide) (cx.1.2.2.2.2 _ mm_1_126) (fun _ h => h) rfl hdg kk
theorem pf_X6_21 {x : Int32} (cx : Cx p s m args c cc RX6 nL D cI cZ) (hw : Wd D a cI cZ s f u H locs) (hdg : decode cc pc = .ok (.putfield 21, 3)) (kk : ∀ (H : Heap) (locs : List Loc), Wd D a cI cZ s (up f 3 (upd (f 3) 3 x)) u H locs → W p l e R s m args below meth c H locs cells slots Q (F0 m (pc + 3) ls rest)) : W p l e R s m args below meth c H locs cells slots Q (F0 m pc ls (.int x :: .ref (a 3) :: rest)) := va_put (D := D) (ci := 6) (v := .int x) (ty := .int) (C := RX6) (T := TX6) (N := 4) cx.1.1 cx.1.2.1 cx.1.2.2.2.2 uin_X6 tyX6 tyX6_ok nmX6 cx.1.2.2.2.1 cx.2 hw.1 hw.2.1 hw.2.2 3 rfl rfl 3 (by decide) (cx.1.2.2.2.2 _ mm_1_126) (fun _ h => h) rfl (by decide +kernel) rfl rfl (Nat.le_of_ble_eq_true rfl) hdg (fun H1 locs1 hP hD hS => kk H1 locs1 ⟨hP, hD, hS⟩)
theorem gf_X7_132 (cx : Cx p s m args c cc RX7 nL D cI cZ) (hw : Wd D a cI cZ s f u H locs) (hdg : decode cc pc = .ok (.getfield 132, 3)) (kk : W p l e R s m args below meth c H locs cells slots Q (F0 m (pc + 3) ls (.int (f 3 3) :: rest))) : W p l e R s m args below meth c H locs cells slots Q (F0 m pc ls (.ref (a 3) :: rest)) := va_get (D := D) (ci := 6) (v := .int (f 3 3)) (C := RX6) (T := TX6) (N := 4) cx.1.1 cx.1.2.1 cx.1.2.2.2.2 uin_X6 cx.1.2.2.2.1 cx.2 hw.1 3 rfl rfl 3 (by decide) (cx.1.2.2.2.2 _ mm_1_127) (fun _ h => h) rfl hdg kk
theorem pf_X7_132 {x : Int32} (cx : Cx p s m args c cc RX7 nL D cI cZ) (hw : Wd D a cI cZ s f u H locs) (hdg : decode cc pc = .ok (.putfield 132, 3)) (kk : ∀ (H : Heap) (locs : List Loc), Wd D a cI cZ s (up f 3 (upd (f 3) 3 x)) u H locs → W p l e R s m args below meth c H locs cells slots Q (F0 m (pc + 3) ls rest)) : W p l e R s m args below meth c H locs cells slots Q (F0 m pc ls (.int x :: .ref (a 3) :: rest)) := va_put (D := D) (ci := 6) (v := .int x) (ty := .int) (C := RX6) (T := TX6) (N := 4) cx.1.1 cx.1.2.1 cx.1.2.2.2.2 uin_X6 tyX6 tyX6_ok nmX6 cx.1.2.2.2.1 cx.2 hw.1 hw.2.1 hw.2.2 3 rfl rfl 3 (by decide) (cx.1.2.2.2.2 _ mm_1_127) (fun _ h => h) rfl (by decide +kernel) rfl rfl (Nat.le_of_ble_eq_true rfl) hdg (fun H1 locs1 hP hD hS => kk H1 locs1 ⟨hP, hD, hS⟩)
theorem gf_X3_11_4 (cx : Cx p s m args c cc RX3 nL D cI cZ) (hw : Wd D a cI cZ s f u H locs) (hdg : decode cc pc = .ok (.getfield 11, 3)) (kk : W p l e R s m args below meth c H locs cells slots Q (F0 m (pc + 3) ls (.ref (a 27) :: rest))) : W p l e R s m args below meth c H locs cells slots Q (F0 m pc ls (.ref (a 4) :: rest)) := va_get (D := D) (ci := 3) (v := .ref (a 27)) (C := RX3) (T := TX3) (N := 4) cx.1.1 cx.1.2.1 cx.1.2.2.2.2 uin_X3 cx.1.2.2.2.1 cx.2 hw.1 4 rfl rfl 0 (by decide) (cx.1.2.2.2.2 _ mm_1_143) (fun _ h => h) rfl hdg kk
theorem gf_X3_11_5 (cx : Cx p s m args c cc RX3 nL D cI cZ) (hw : Wd D a cI cZ s f u H locs) (hdg : decode cc pc = .ok (.getfield 11, 3)) (kk : W p l e R s m args below meth c H locs cells slots Q (F0 m (pc + 3) ls (.ref (a 30) :: rest))) : W p l e R s m args below meth c H locs cells slots Q (F0 m pc ls (.ref (a 5) :: rest)) := va_get (D := D) (ci := 3) (v := .ref (a 30)) (C := RX3) (T := TX3) (N := 4) cx.1.1 cx.1.2.1 cx.1.2.2.2.2 uin_X3 cx.1.2.2.2.1 cx.2 hw.1 5 rfl rfl 0 (by decide) (cx.1.2.2.2.2 _ mm_1_143) (fun _ h => h) rfl hdg kk
theorem gf_X2_49_4 (cx : Cx p s m args c cc RX2 nL D cI cZ) (hw : Wd D a cI cZ s f u H locs) (hdg : decode cc pc = .ok (.getfield 49, 3)) (kk : W p l e R s m args below meth c H locs cells slots Q (F0 m (pc + 3) ls (.ref (a 27) :: rest))) : W p l e R s m args below meth c H locs cells slots Q (F0 m pc ls (.ref (a 4) :: rest)) := va_get (D := D) (ci := 3) (v := .ref (a 27)) (C := RX3) (T := TX3) (N := 4) cx.1.1 cx.1.2.1 cx.1.2.2.2.2 uin_X3 cx.1.2.2.2.1 cx.2 hw.1 4 rfl rfl 0 (by decide) (cx.1.2.2.2.2 _ mm_1_144) (fun _ h => h) rfl hdg kk
theorem gf_X2_49_5 (cx : Cx p s m args c cc RX2 nL D cI cZ) (hw : Wd D a cI cZ s f u H locs) (hdg : decode cc pc = .ok (.getfield 49, 3)) (kk : W p l e R s m args below meth c H locs cells slots Q (F0 m (pc + 3) ls (.ref (a 30) :: rest))) : W p l e R s m args below meth c H locs cells slots Q (F0 m pc ls (.ref (a 5) :: rest)) := va_get (D := D) (ci := 3) (v := .ref (a 30)) (C := RX3) (T := TX3) (N := 4) cx.1.1 cx.1.2.1 cx.1.2.2.2.2 uin_X3 cx.1.2.2.2.1 cx.2 hw.1 5 rfl rfl 0 (by decide) (cx.1.2.2.2.2 _ mm_1_144) (fun _ h => h) rfl hdg kk
theorem gf_X3_15_4 (cx : Cx p s m args c cc RX3 nL D cI cZ) (hw : Wd D a cI cZ s f u H locs) (hdg : decode cc pc = .ok (.getfield 15, 3)) (kk : W p l e R s m args below meth c H locs cells slots Q (F0 m (pc + 3) ls (.ref (a 28) :: rest))) : W p l e R s m args below meth c H locs cells slots Q (F0 m pc ls (.ref (a 4) :: rest)) := va_get (D := D) (ci := 3) (v := .ref (a 28)) (C := RX3) (T := TX3) (N := 4) cx.1.1 cx.1.2.1 cx.1.2.2.2.2 uin_X3 cx.1.2.2.2.1 cx.2 hw.1 4 rfl rfl 1 (by decide) (cx.1.2.2.2.2 _ mm_1_145) (fun _ h => h) rfl hdg kk
theorem gf_X3_15_5 (cx : Cx p s m args c cc RX3 nL D cI cZ) (hw : Wd D a cI cZ s f u H locs) (hdg : decode cc pc = .ok (.getfield 15, 3)) (kk : W p l e R s m args below meth c H locs cells slots Q (F0 m (pc + 3) ls (.ref (a 31) :: rest))) : W p l e R s m args below meth c H locs cells slots Q (F0 m pc ls (.ref (a 5) :: rest)) := va_get (D := D) (ci := 3) (v := .ref (a 31)) (C := RX3) (T := TX3) (N := 4) cx.1.1 cx.1.2.1 cx.1.2.2.2.2 uin_X3 cx.1.2.2.2.1 cx.2 hw.1 5 rfl rfl 1 (by decide) (cx.1.2.2.2.2 _ mm_1_145) (fun _ h => h) rfl hdg kk
theorem gf_X2_79_4 (cx : Cx p s m args c cc RX2 nL D cI cZ) (hw : Wd D a cI cZ s f u H locs) (hdg : decode cc pc = .ok (.getfield 79, 3)) (kk : W p l e R s m args below meth c H locs cells slots Q (F0 m (pc + 3) ls (.ref (a 28) :: rest))) : W p l e R s m args below meth c H locs cells slots Q (F0 m pc ls (.ref (a 4) :: rest)) := va_get (D := D) (ci := 3) (v := .ref (a 28)) (C := RX3) (T := TX3) (N := 4) cx.1.1 cx.1.2.1 cx.1.2.2.2.2 uin_X3 cx.1.2.2.2.1 cx.2 hw.1 4 rfl rfl 1 (by decide) (cx.1.2.2.2.2 _ mm_1_146) (fun _ h => h) rfl hdg kk
theorem gf_X2_79_5 (cx : Cx p s m args c cc RX2 nL D cI cZ) (hw : Wd D a cI cZ s f u H locs) (hdg : decode cc pc = .ok (.getfield 79, 3)) (kk : W p l e R s m args below meth c H locs cells slots Q (F0 m (pc + 3) ls (.ref (a 31) :: rest))) : W p l e R s m args below meth c H locs cells slots Q (F0 m pc ls (.ref (a 5) :: rest)) := va_get (D := D) (ci := 3) (v := .ref (a 31)) (C := RX3) (T := TX3) (N := 4) cx.1.1 cx.1.2.1 cx.1.2.2.2.2 uin_X3 cx.1.2.2.2.1 cx.2 hw.1 5 rfl rfl 1 (by decide) (cx.1.2.2.2.2 _ mm_1_146) (fun _ h => h) rfl hdg kk
theorem gf_X3_18_4 (cx : Cx p s m args c cc RX3 nL D cI cZ) (hw : Wd D a cI cZ s f u H locs) (hdg : decode cc pc = .ok (.getfield 18, 3)) (kk : W p l e R s m args below meth c H locs cells slots Q (F0 m (pc + 3) ls (.ref (a 29) :: rest))) : W p l e R s m args below meth c H locs cells slots Q (F0 m pc ls (.ref (a 4) :: rest)) := va_get (D := D) (ci := 3) (v := .ref (a 29)) (C := RX3) (T := TX3) (N := 4) cx.1.1 cx.1.2.1 cx.1.2.2.2.2 uin_X3 cx.1.2.2.2.1 cx.2 hw.1 4 rfl rfl 2 (by decide) (cx.1.2.2.2.2 _ mm_1_147) (fun _ h => h) rfl hdg kk
theorem gf_X3_18_5 (cx : Cx p s m args c cc RX3 nL D cI cZ) (hw : Wd D a cI cZ s f u H locs) (hdg : decode cc pc = .ok (.getfield 18, 3)) (kk : W p l e R s m args below meth c H locs cells slots Q (F0 m (pc + 3) ls (.ref (a 32) :: rest))) : W p l e R s m args below meth c H locs cells slots Q (F0 m pc ls (.ref (a 5) :: rest)) := va_get (D := D) (ci := 3) (v := .ref (a 32)) (C := RX3) (T := TX3) (N := 4) cx.1.1 cx.1.2.1 cx.1.2.2.2.2 uin_X3 cx.1.2.2.2.1 cx.2 hw.1 5 rfl rfl 2 (by decide) (cx.1.2.2.2.2 _ mm_1_147) (fun _ h => h) rfl hdg kk
theorem gf_X2_86_4 (cx : Cx p s m args c cc RX2 nL D cI cZ) (hw : Wd D a cI cZ s f u H locs) (hdg : decode cc pc = .ok (.getfield 86, 3)) (kk : W p l e R s m args below meth c H locs cells slots Q (F0 m (pc + 3) ls (.ref (a 29) :: rest))) : W p l e R s m args below meth c H locs cells slots Q (F0 m pc ls (.ref (a 4) :: rest)) := va_get (D := D) (ci := 3) (v := .ref (a 29)) (C := RX3) (T := TX3) (N := 4) cx.1.1 cx.1.2.1 cx.1.2.2.2.2 uin_X3 cx.1.2.2.2.1 cx.2 hw.1 4 rfl rfl 2 (by decide) (cx.1.2.2.2.2 _ mm_1_148) (fun _ h => h) rfl hdg kk
theorem gf_X2_86_5 (cx : Cx p s m args c cc RX2 nL D cI cZ) (hw : Wd D a cI cZ s f u H locs) (hdg : decode cc pc = .ok (.getfield 86, 3)) (kk : W p l e R s m args below meth c H locs cells slots Q (F0 m (pc + 3) ls (.ref (a 32) :: rest))) : W p l e R s m args below meth c H locs cells slots Q (F0 m pc ls (.ref (a 5) :: rest)) := va_get (D := D) (ci := 3) (v := .ref (a 32)) (C := RX3) (T := TX3) (N := 4) cx.1.1 cx.1.2.1 cx.1.2.2.2.2 uin_X3 cx.1.2.2.2.1 cx.2 hw.1 5 rfl rfl 2 (by decide) (cx.1.2.2.2.2 _ mm_1_148) (fun _ h => h) rfl hdg kk
theorem gf_X3_21_4 (cx : Cx p s m args c cc RX3 nL D cI cZ) (hw : Wd D a cI cZ s f u H locs) (hdg : decode cc pc = .ok (.getfield 21, 3)) (kk : W p l e R s m args below meth c H locs cells slots Q (F0 m (pc + 3) ls (.int (f 4 3) :: rest))) : W p l e R s m args below meth c H locs cells slots Q (F0 m pc ls (.ref (a 4) :: rest)) := va_get (D := D) (ci := 3) (v := .int (f 4 3)) (C := RX3) (T := TX3) (N := 4) cx.1.1 cx.1.2.1 cx.1.2.2.2.2 uin_X3 cx.1.2.2.2.1 cx.2 hw.1 4 rfl rfl 3 (by decide) (cx.1.2.2.2.2 _ mm_1_149) (fun _ h => h) rfl hdg kk
theorem pf_X3_21_4 {x : Int32} (cx : Cx p s m args c cc RX3 nL D cI cZ) (hw : Wd D a cI cZ s f u H locs) (hdg : decode cc pc = .ok (.putfield 21, 3)) (kk : ∀ (H : Heap) (locs : List Loc), Wd D a cI cZ s (up f 4 (upd (f 4) 3 x)) u H locs → W p l e R s m args below meth c H locs cells slots Q (F0 m (pc + 3) ls rest)) : W p l e R s m args below meth c H locs cells slots Q (F0 m pc ls (.int x :: .ref (a 4) :: rest)) := va_put (D := D) (ci := 3) (v := .int x) (ty := .int) (C := RX3) (T := TX3) (N := 4) cx.1.1 cx.1.2.1 cx.1.2.2.2.2 uin_X3 tyX3 tyX3_ok nmX3 cx.1.2.2.2.1 cx.2 hw.1 hw.2.1 hw.2.2 4 rfl rfl 3 (by decide) (cx.1.2.2.2.2 _ mm_1_149) (fun _ h => h) rfl (by decide +kernel) rfl rfl (Nat.le_of_ble_eq_true rfl) hdg (fun H1 locs1 hP hD hS => kk H1 locs1 ⟨hP, hD, hS⟩)
theorem gf_X3_21_5 (cx : Cx p s m args c cc RX3 nL D cI cZ) (hw : Wd D a cI cZ s f u H locs) (hdg : decode cc pc = .ok (.getfield 21, 3)) (kk : W p l e R s m args below meth c H locs cells slots Q (F0 m (pc + 3) ls (.int (f 5 3) :: rest))) : W p l e R s m args below meth c H locs cells slots Q (F0 m pc ls (.ref (a 5) :: rest)) := va_get (D := D) (ci := 3) (v := .int (f 5 3)) (C := RX3) (T := TX3) (N := 4) cx.1.1 cx.1.2.1 cx.1.2.2.2.2 uin_X3 cx.1.2.2.2.1 cx.2 hw.1 5 rfl rfl 3 (by decide) (cx.1.2.2.2.2 _ mm_1_149) (fun _ h => h) rfl hdg kk
theorem pf_X3_21_5 {x : Int32} (cx : Cx p s m args c cc RX3 nL D cI cZ) (hw : Wd D a cI cZ s f u H locs) (hdg : decode cc pc = .ok (.putfield 21, 3)) (kk : ∀ (H : Heap) (locs : List Loc), Wd D a cI cZ s (up f 5 (upd (f 5) 3 x)) u H locs → W p l e R s m args below meth c H locs cells slots Q (F0 m (pc + 3) ls rest)) : W p l e R s m args below meth c H locs cells slots Q (F0 m pc ls (.int x :: .ref (a 5) :: rest)) := va_put (D := D) (ci := 3) (v := .int x) (ty := .int) (C := RX3) (T := TX3) (N := 4) cx.1.1 cx.1.2.1 cx.1.2.2.2.2 uin_X3 tyX3 tyX3_ok nmX3 cx.1.2.2.2.1 cx.2 hw.1 hw.2.1 hw.2.2 5 rfl rfl 3 (by decide) (cx.1.2.2.2.2 _ mm_1_149) (fun _ h => h) rfl (by decide +kernel) rfl rfl (Nat.le_of_ble_eq_true rfl) hdg (fun H1 locs1 hP hD hS => kk H1 locs1 ⟨hP, hD, hS⟩)
theorem gf_X7_156_4 (cx : Cx p s m args c cc RX7 nL D cI cZ) (hw : Wd D a cI cZ s f u H locs) (hdg : decode cc pc = .ok (.getfield 156, 3)) (kk : W p l e R s m args below meth c H locs cells slots Q (F0 m (pc + 3) ls (.int (f 4 3) :: rest))) : W p l e R s m args below meth c H locs cells slots Q (F0 m pc ls (.ref (a 4) :: rest)) := va_get (D := D) (ci := 3) (v := .int (f 4 3)) (C := RX3) (T := TX3) (N := 4) cx.1.1 cx.1.2.1 cx.1.2.2.2.2 uin_X3 cx.1.2.2.2.1 cx.2 hw.1 4 rfl rfl 3 (by decide) (cx.1.2.2.2.2 _ mm_1_150) (fun _ h => h) rfl hdg kk
theorem pf_X7_156_4 {x : Int32} (cx : Cx p s m args c cc RX7 nL D cI cZ) (hw : Wd D a cI cZ s f u H locs) (hdg : decode cc pc = .ok (.putfield 156, 3)) (kk : ∀ (H : Heap) (locs : List Loc), Wd D a cI cZ s (up f 4 (upd (f 4) 3 x)) u H locs → W p l e R s m args below meth c H locs cells slots Q (F0 m (pc + 3) ls rest)) : W p l e R s m args below meth c H locs cells slots Q (F0 m pc ls (.int x :: .ref (a 4) :: rest)) := va_put (D := D) (ci := 3) (v := .int x) (ty := .int) (C := RX3) (T := TX3) (N := 4) cx.1.1 cx.1.2.1 cx.1.2.2.2.2 uin_X3 tyX3 tyX3_ok nmX3 cx.1.2.2.2.1 cx.2 hw.1 hw.2.1 hw.2.2 4 rfl rfl 3 (by decide) (cx.1.2.2.2.2 _ mm_1_150) (fun _ h => h) rfl (by decide +kernel) rfl rfl (Nat.le_of_ble_eq_true rfl) hdg (fun H1 locs1 hP hD hS => kk H1 locs1 ⟨hP, hD, hS⟩)
theorem gf_X7_156_5 (cx : Cx p s m args c cc RX7 nL D cI cZ) (hw : Wd D a cI cZ s f u H locs) (hdg : decode cc pc = .ok (.getfield 156, 3)) (kk : W p l e R s m args below meth c H locs cells slots Q (F0 m (pc + 3) ls (.int (f 5 3) :: rest))) : W p l e R s m args below meth c H locs cells slots Q (F0 m pc ls (.ref (a 5) :: rest)) := va_get (D := D) (ci := 3) (v := .int (f 5 3)) (C := RX3) (T := TX3) (N := 4) cx.1.1 cx.1.2.1 cx.1.2.2.2.2 uin_X3 cx.1.2.2.2.1 cx.2 hw.1 5 rfl rfl 3 (by decide) (cx.1.2.2.2.2 _ mm_1_150) (fun _ h => h) rfl hdg kk
theorem pf_X7_156_5 {x : Int32} (cx : Cx p s m args c cc RX7 nL D cI cZ) (hw : Wd D a cI cZ s f u H locs) (hdg : decode cc pc = .ok (.putfield 156, 3)) (kk : ∀ (H : Heap) (locs : List Loc), Wd D a cI cZ s (up f 5 (upd (f 5) 3 x)) u H locs → W p l e R s m args below meth c H locs cells slots Q (F0 m (pc + 3) ls rest)) : W p l e R s m args below meth c H locs cells slots Q (F0 m pc ls (.int x :: .ref (a 5) :: rest)) := va_put (D := D) (ci := 3) (v := .int x) (ty := .int) (C := RX3) (T := TX3) (N := 4) cx.1.1 cx.1.2.1 cx.1.2.2.2.2 uin_X3 tyX3 tyX3_ok nmX3 cx.1.2.2.2.1 cx.2 hw.1 hw.2.1 hw.2.2 5 rfl rfl 3 (by decide) (cx.1.2.2.2.2 _ mm_1_150) (fun _ h => h) rfl (by decide +kernel) rfl rfl (Nat.le_of_ble_eq_true rfl) hdg (fun H1 locs1 hP hD hS => kk H1 locs1 ⟨hP, hD, hS⟩)
theorem gf_X2_19 (cx : Cx p s m args c cc RX2 nL D cI cZ) (hw : Wd D a cI cZ s f u H locs) (hdg : decode cc pc = .ok (.getfield 19, 3)) (kk : W p l e R s m args below meth c H locs cells slots Q (F0 m (pc + 3) ls (.ref (a 3) :: rest))) : W p l e R s m args below meth c H locs cells slots Q (F0 m pc ls (.ref (a 6) :: rest)) := va_get (D := D) (ci := 2) (v := .ref (a 3)) (C := RX2) (T := TX2) (N := 4) cx.1.1 cx.1.2.1 cx.1.2.2.2.2 uin_X2 cx.1.2.2.2.1 cx.2 hw.1 6 rfl rfl 0 (by decide) (cx.1.2.2.2.2 _ mm_1_166) (fun _ h => h) rfl hdg kk
theorem gf_X2_23 (cx : Cx p s m args c cc RX2 nL D cI cZ) (hw : Wd D a cI cZ s f u H locs) (hdg : decode cc pc = .ok (.getfield 23, 3)) (kk : W p l e R s m args below meth c H locs cells slots Q (F0 m (pc + 3) ls (.ref (a 5) :: rest))) : W p l e R s m args below meth c H locs cells slots Q (F0 m pc ls (.ref (a 6) :: rest)) := va_get (D := D) (ci := 2) (v := .ref (a 5)) (C := RX2) (T := TX2) (N := 4) cx.1.1 cx.1.2.1 cx.1.2.2.2.2 uin_X2 cx.1.2.2.2.1 cx.2 hw.1 6 rfl rfl 1 (by decide) (cx.1.2.2.2.2 _ mm_1_167) (fun _ h => h) rfl hdg kk
theorem gf_X2_9 (cx : Cx p s m args c cc RX2 nL D cI cZ) (hw : Wd D a cI cZ s f u H locs) (hdg : decode cc pc = .ok (.getfield 9, 3)) (kk : W p l e R s m args below meth c H locs cells slots Q (F0 m (pc + 3) ls (.int (f 6 2) :: rest))) : W p l e R s m args below meth c H locs cells slots Q (F0 m pc ls (.ref (a 6) :: rest)) := va_get (D := D) (ci := 2) (v := .int (f 6 2)) (C := RX2) (T := TX2) (N := 4) cx.1.1 cx.1.2.1 cx.1.2.2.2.2 uin_X2 cx.1.2.2.2.1 cx.2 hw.1 6 rfl rfl 2 (by decide) (cx.1.2.2.2.2 _ mm_1_168) (fun _ h => h) rfl hdg kk
theorem pf_X2_9 {x : Int32} (cx : Cx p s m args c cc RX2 nL D cI cZ) (hw : Wd D a cI cZ s f u H locs) (hdg : decode cc pc = .ok (.putfield 9, 3)) (kk : ∀ (H : Heap) (locs : List Loc), Wd D a cI cZ s (up f 6 (upd (f 6) 2 x)) u H locs → W p l e R s m args below meth c H locs cells slots Q (F0 m (pc + 3) ls rest)) : W p l e R s m args below meth c H locs cells slots Q (F0 m pc ls (.int x :: .ref (a 6) :: rest)) := va_put (D := D) (ci := 2) (v := .int x) (ty := .int) (C := RX2) (T := TX2) (N := 4) cx.1.1 cx.1.2.1 cx.1.2.2.2.2 uin_X2 tyX2 tyX2_ok nmX2 cx.1.2.2.2.1 cx.2 hw.1 hw.2.1 hw.2.2 6 rfl rfl 2 (by decide) (cx.1.2.2.2.2 _ mm_1_168) (fun _ h => h) rfl (by decide +kernel) rfl rfl (Nat.le_of_ble_eq_true rfl) hdg (fun H1 locs1 hP hD hS => kk H1 locs1 ⟨hP, hD, hS⟩)
theorem gf_X2_15 (cx : Cx p s m args c cc RX2 nL D cI cZ) (hw : Wd D a cI cZ s f u H locs) (hdg : decode cc pc = .ok (.getfield 15, 3)) (kk : W p l e R s m args below meth c H locs cells slots Q (F0 m (pc + 3) ls (.long (u 6 3) :: rest))) : W p l e R s m args below meth c H locs cells slots Q (F0 m pc ls (.ref (a 6) :: rest)) := va_get (D := D) (ci := 2) (v := .long (u 6 3)) (C := RX2) (T := TX2) (N := 4) cx.1.1 cx.1.2.1 cx.1.2.2.2.2 uin_X2 cx.1.2.2.2.1 cx.2 hw.1 6 rfl rfl 3 (by decide) (cx.1.2.2.2.2 _ mm_1_169) (fun _ h => h) rfl hdg kk
theorem pf_X2_15 {x : Int64} (cx : Cx p s m args c cc RX2 nL D cI cZ) (hw : Wd D a cI cZ s f u H locs) (hdg : decode cc pc = .ok (.putfield 15, 3)) (kk : ∀ (H : Heap) (locs : List Loc), Wd D a cI cZ s f (upL u 6 3 x) H locs → W p l e R s m args below meth c H locs cells slots Q (F0 m (pc + 3) ls rest)) : W p l e R s m args below meth c H locs cells slots Q (F0 m pc ls (.long x :: .ref (a 6) :: rest)) := va_put (D := D) (ci := 2) (v := .long x) (ty := .long) (C := RX2) (T := TX2) (N := 4) cx.1.1 cx.1.2.1 cx.1.2.2.2.2 uin_X2 tyX2 tyX2_ok nmX2 cx.1.2.2.2.1 cx.2 hw.1 hw.2.1 hw.2.2 6 rfl rfl 3 (by decide) (cx.1.2.2.2.2 _ mm_1_169) (fun _ h => h) rfl (by decide +kernel) rfl rfl (Nat.le_of_ble_eq_true rfl) hdg (fun H1 locs1 hP hD hS => kk H1 locs1 ⟨hP, hD, hS⟩)
theorem gf_X5_9 (cx : Cx p s m args c cc RX5 nL D cI cZ) (hw : Wd D a cI cZ s f u H locs) (hdg : decode cc pc = .ok (.getfield 9, 3)) (kk : W p l e R s m args below meth c H locs cells slots Q (F0 m (pc + 3) ls (.ref (a 1) :: rest))) : W p l e R s m args below meth c H locs cells slots Q (F0 m pc ls (.ref (a 7) :: rest)) := va_get (D := D) (ci := 5) (v := .ref (a 1)) (C := RX5) (T := TX5) (N := 1) cx.1.1 cx.1.2.1 cx.1.2.2.2.2 uin_X5 cx.1.2.2.2.1 cx.2 hw.1 7 rfl rfl 0 (by decide) (cx.1.2.2.2.2 _ mm_1_185) (fun _ h => h) rfl hdg kk
theorem gf_X4_42 (cx : Cx p s m args c cc RX4 nL D cI cZ) (hw : Wd D a cI cZ s f u H locs) (hdg : decode cc pc = .ok (.getfield 42, 3)) (kk : W p l e R s m args below meth c H locs cells slots Q (F0 m (pc + 3) ls (.ref (a 1) :: rest))) : W p l e R s m args below meth c H locs cells slots Q (F0 m pc ls (.ref (a 8) :: rest)) := va_get (D := D) (ci := 4) (v := .ref (a 1)) (C := RX4) (T := TX4) (N := 10) cx.1.1 cx.1.2.1 cx.1.2.2.2.2 uin_X4 cx.1.2.2.2.1 cx.2 hw.1 8 rfl rfl 0 (by decide) (cx.1.2.2.2.2 _ mm_1_195) (fun _ h => h) rfl hdg kk
theorem gf_X4_11 (cx : Cx p s m args c cc RX4 nL D cI cZ) (hw : Wd D a cI cZ s f u H locs) (hdg : decode cc pc = .ok (.getfield 11, 3)) (kk : W p l e R s m args below meth c H locs cells slots Q (F0 m (pc + 3) ls (.ref (a 33) :: rest))) : W p l e R s m args below meth c H locs cells slots Q (F0 m pc ls (.ref (a 8) :: rest)) := va_get (D := D) (ci := 4) (v := .ref (a 33)) (C := RX4) (T := TX4) (N := 10) cx.1.1 cx.1.2.1 cx.1.2.2.2.2 uin_X4 cx.1.2.2.2.1 cx.2 hw.1 8 rfl rfl 1 (by decide) (cx.1.2.2.2.2 _ mm_1_196) (fun _ h => h) rfl hdg kk
theorem gf_X4_15 (cx : Cx p s m args c cc RX4 nL D cI cZ) (hw : Wd D a cI cZ s f u H locs) (hdg : decode cc pc = .ok (.getfield 15, 3)) (kk : W p l e R s m args below meth c H locs cells slots Q (F0 m (pc + 3) ls (.ref (a 34) :: rest))) : W p l e R s m args below meth c H locs cells slots Q (F0 m pc ls (.ref (a 8) :: rest)) := va_get (D := D) (ci := 4) (v := .ref (a 34)) (C := RX4) (T := TX4) (N := 10) cx.1.1 cx.1.2.1 cx.1.2.2.2.2 uin_X4 cx.1.2.2.2.1 cx.2 hw.1 8 rfl rfl 2 (by decide) (cx.1.2.2.2.2 _ mm_1_197) (fun _ h => h) rfl hdg kk
theorem gf_X4_18 (cx : Cx p s m args c cc RX4 nL D cI cZ) (hw : Wd D a cI cZ s f u H locs) (hdg : decode cc pc = .ok (.getfield 18, 3)) (kk : W p l e R s m args below meth c H locs cells slots Q (F0 m (pc + 3) ls (.ref (a 35) :: rest))) : W p l e R s m args below meth c H locs cells slots Q (F0 m pc ls (.ref (a 8) :: rest)) := va_get (D := D) (ci := 4) (v := .ref (a 35)) (C := RX4) (T := TX4) (N := 10) cx.1.1 cx.1.2.1 cx.1.2.2.2.2 uin_X4 cx.1.2.2.2.1 cx.2 hw.1 8 rfl rfl 3 (by decide) (cx.1.2.2.2.2 _ mm_1_198) (fun _ h => h) rfl hdg kk
theorem gf_X4_21 (cx : Cx p s m args c cc RX4 nL D cI cZ) (hw : Wd D a cI cZ s f u H locs) (hdg : decode cc pc = .ok (.getfield 21, 3)) (kk : W p l e R s m args below meth c H locs cells slots Q (F0 m (pc + 3) ls (.int (f 8 4) :: rest))) : W p l e R s m args below meth c H locs cells slots Q (F0 m pc ls (.ref (a 8) :: rest)) := va_get (D := D) (ci := 4) (v := .int (f 8 4)) (C := RX4) (T := TX4) (N := 10) cx.1.1 cx.1.2.1 cx.1.2.2.2.2 uin_X4 cx.1.2.2.2.1 cx.2 hw.1 8 rfl rfl 4 (by decide) (cx.1.2.2.2.2 _ mm_1_199) (fun _ h => h) rfl hdg kk
theorem pf_X4_21 {x : Int32} (cx : Cx p s m args c cc RX4 nL D cI cZ) (hw : Wd D a cI cZ s f u H locs) (hdg : decode cc pc = .ok (.putfield 21, 3)) (kk : ∀ (H : Heap) (locs : List Loc), Wd D a cI cZ s (up f 8 (upd (f 8) 4 x)) u H locs → W p l e R s m args below meth c H locs cells slots Q (F0 m (pc + 3) ls rest)) : W p l e R s m args below meth c H locs cells slots Q (F0 m pc ls (.int x :: .ref (a 8) :: rest)) := va_put (D := D) (ci := 4) (v := .int x) (ty := .int) (C := RX4) (T := TX4) (N := 10) cx.1.1 cx.1.2.1 cx.1.2.2.2.2 uin_X4 tyX4 tyX4_ok nmX4 cx.1.2.2.2.1 cx.2 hw.1 hw.2.1 hw.2.2 8 rfl rfl 4 (by decide) (cx.1.2.2.2.2 _ mm_1_199) (fun _ h => h) rfl (by decide +kernel) rfl rfl (Nat.le_of_ble_eq_true rfl) hdg (fun H1 locs1 hP hD hS => kk H1 locs1 ⟨hP, hD, hS⟩)
theorem gf_X4_25 (cx : Cx p s m args c cc RX4 nL D cI cZ) (hw : Wd D a cI cZ s f u H locs) (hdg : decode cc pc = .ok (.getfield 25, 3)) (kk : W p l e R s m args below meth c H locs cells slots Q (F0 m (pc + 3) ls (.int (f 8 5) :: rest))) : W p l e R s m args below meth c H locs cells slots Q (F0 m pc ls (.ref (a 8) :: rest)) := va_get (D := D) (ci := 4) (v := .int (f 8 5)) (C := RX4) (T := TX4) (N := 10) cx.1.1 cx.1.2.1 cx.1.2.2.2.2 uin_X4 cx.1.2.2.2.1 cx.2 hw.1 8 rfl rfl 5 (by decide) (cx.1.2.2.2.2 _ mm_1_200) (fun _ h => h) rfl hdg kk
theorem pf_X4_25 {x : Int32} (cx : Cx p s m args c cc RX4 nL D cI cZ) (hw : Wd D a cI cZ s f u H locs) (hdg : decode cc pc = .ok (.putfield 25, 3)) (kk : ∀ (H : Heap) (locs : List Loc), Wd D a cI cZ s (up f 8 (upd (f 8) 5 x)) u H locs → W p l e R s m args below meth c H locs cells slots Q (F0 m (pc + 3) ls rest)) : W p l e R s m args below meth c H locs cells slots Q (F0 m pc ls (.int x :: .ref (a 8) :: rest)) := va_put (D := D) (ci := 4) (v := .int x) (ty := .int) (C := RX4) (T := TX4) (N := 10) cx.1.1 cx.1.2.1 cx.1.2.2.2.2 uin_X4 tyX4 tyX4_ok nmX4 cx.1.2.2.2.1 cx.2 hw.1 hw.2.1 hw.2.2 8 rfl rfl 5 (by decide) (cx.1.2.2.2.2 _ mm_1_200) (fun _ h => h) rfl (by decide +kernel) rfl rfl (Nat.le_of_ble_eq_true rfl) hdg (fun H1 locs1 hP hD hS => kk H1 locs1 ⟨hP, hD, hS⟩)
theorem gf_X4_28 (cx : Cx p s m args c cc RX4 nL D cI cZ) (hw : Wd D a cI cZ s f u H locs) (hdg : decode cc pc = .ok (.getfield 28, 3)) (kk : W p l e R s m args below meth c H locs cells slots Q (F0 m (pc + 3) ls (.int (f 8 6) :: rest))) : W p l e R s m args below meth c H locs cells slots Q (F0 m pc ls (.ref (a 8) :: rest)) := va_get (D := D) (ci := 4) (v := .int (f 8 6)) (C := RX4) (T := TX4) (N := 10) cx.1.1 cx.1.2.1 cx.1.2.2.2.2 uin_X4 cx.1.2.2.2.1 cx.2 hw.1 8 rfl rfl 6 (by decide) (cx.1.2.2.2.2 _ mm_1_201) (fun _ h => h) rfl hdg kk
theorem pf_X4_28 {x : Int32} (cx : Cx p s m args c cc RX4 nL D cI cZ) (hw : Wd D a cI cZ s f u H locs) (hdg : decode cc pc = .ok (.putfield 28, 3)) (kk : ∀ (H : Heap) (locs : List Loc), Wd D a cI cZ s (up f 8 (upd (f 8) 6 x)) u H locs → W p l e R s m args below meth c H locs cells slots Q (F0 m (pc + 3) ls rest)) : W p l e R s m args below meth c H locs cells slots Q (F0 m pc ls (.int x :: .ref (a 8) :: rest)) := va_put (D := D) (ci := 4) (v := .int x) (ty := .int) (C := RX4) (T := TX4) (N := 10) cx.1.1 cx.1.2.1 cx.1.2.2.2.2 uin_X4 tyX4 tyX4_ok nmX4 cx.1.2.2.2.1 cx.2 hw.1 hw.2.1 hw.2.2 8 rfl rfl 6 (by decide) (cx.1.2.2.2.2 _ mm_1_201) (fun _ h => h) rfl (by decide +kernel) rfl rfl (Nat.le_of_ble_eq_true rfl) hdg (fun H1 locs1 hP hD hS => kk H1 locs1 ⟨hP, hD, hS⟩)
theorem gf_X4_31 (cx : Cx p s m args c cc RX4 nL D cI cZ) (hw : Wd D a cI cZ s f u H locs) (hdg : decode cc pc = .ok (.getfield 31, 3)) (kk : W p l e R s m args below meth c H locs cells slots Q (F0 m (pc + 3) ls (.int (f 8 7) :: rest))) : W p l e R s m args below meth c H locs cells slots Q (F0 m pc ls (.ref (a 8) :: rest)) := va_get (D := D) (ci := 4) (v := .int (f 8 7)) (C := RX4) (T := TX4) (N := 10) cx.1.1 cx.1.2.1 cx.1.2.2.2.2 uin_X4 cx.1.2.2.2.1 cx.2 hw.1 8 rfl rfl 7 (by decide) (cx.1.2.2.2.2 _ mm_1_202) (fun _ h => h) rfl hdg kk
theorem pf_X4_31 {x : Int32} (cx : Cx p s m args c cc RX4 nL D cI cZ) (hw : Wd D a cI cZ s f u H locs) (hn : narrow .boolean (.int x) = .int x) (hf : fits .boolean (.int x) = true) (hdg : decode cc pc = .ok (.putfield 31, 3)) (kk : ∀ (H : Heap) (locs : List Loc), Wd D a cI cZ s (up f 8 (upd (f 8) 7 x)) u H locs → W p l e R s m args below meth c H locs cells slots Q (F0 m (pc + 3) ls rest)) : W p l e R s m args below meth c H locs cells slots Q (F0 m pc ls (.int x :: .ref (a 8) :: rest)) := va_put (D := D) (ci := 4) (v := .int x) (ty := .boolean) (C := RX4) (T := TX4) (N := 10) cx.1.1 cx.1.2.1 cx.1.2.2.2.2 uin_X4 tyX4 tyX4_ok nmX4 cx.1.2.2.2.1 cx.2 hw.1 hw.2.1 hw.2.2 8 rfl rfl 7 (by decide) (cx.1.2.2.2.2 _ mm_1_202) (fun _ h => h) rfl (by decide +kernel) hn hf (Nat.le_of_ble_eq_true rfl) hdg (fun H1 locs1 hP hD hS => kk H1 locs1 ⟨hP, hD, hS⟩)
theorem gf_X4_35 (cx : Cx p s m args c cc RX4 nL D cI cZ) (hw : Wd D a cI cZ s f u H locs) (hdg : decode cc pc = .ok (.getfield 35, 3)) (kk : W p l e R s m args below meth c H locs cells slots Q (F0 m (pc + 3) ls (.int (f 8 8) :: rest))) : W p l e R s m args below meth c H locs cells slots Q (F0 m pc ls (.ref (a 8) :: rest)) := va_get (D := D) (ci := 4) (v := .int (f 8 8)) (C := RX4) (T := TX4) (N := 10) cx.1.1 cx.1.2.1 cx.1.2.2.2.2 uin_X4 cx.1.2.2.2.1 cx.2 hw.1 8 rfl rfl 8 (by decide) (cx.1.2.2.2.2 _ mm_1_203) (fun _ h => h) rfl hdg kk
theorem pf_X4_35 {x : Int32} (cx : Cx p s m args c cc RX4 nL D cI cZ) (hw : Wd D a cI cZ s f u H locs) (hdg : decode cc pc = .ok (.putfield 35, 3)) (kk : ∀ (H : Heap) (locs : List Loc), Wd D a cI cZ s (up f 8 (upd (f 8) 8 x)) u H locs → W p l e R s m args below meth c H locs cells slots Q (F0 m (pc + 3) ls rest)) : W p l e R s m args below meth c H locs cells slots Q (F0 m pc ls (.int x :: .ref (a 8) :: rest)) := va_put (D := D) (ci := 4) (v := .int x) (ty := .int) (C := RX4) (T := TX4) (N := 10) cx.1.1 cx.1.2.1 cx.1.2.2.2.2 uin_X4 tyX4 tyX4_ok nmX4 cx.1.2.2.2.1 cx.2 hw.1 hw.2.1 hw.2.2 8 rfl rfl 8 (by decide) (cx.1.2.2.2.2 _ mm_1_203) (fun _ h => h) rfl (by decide +kernel) rfl rfl (Nat.le_of_ble_eq_true rfl) hdg (fun H1 locs1 hP hD hS => kk H1 locs1 ⟨hP, hD, hS⟩)
theorem gf_X4_38 (cx : Cx p s m args c cc RX4 nL D cI cZ) (hw : Wd D a cI cZ s f u H locs) (hdg : decode cc pc = .ok (.getfield 38, 3)) (kk : W p l e R s m args below meth c H locs cells slots Q (F0 m (pc + 3) ls (.long (u 8 9) :: rest))) : W p l e R s m args below meth c H locs cells slots Q (F0 m pc ls (.ref (a 8) :: rest)) := va_get (D := D) (ci := 4) (v := .long (u 8 9)) (C := RX4) (T := TX4) (N := 10) cx.1.1 cx.1.2.1 cx.1.2.2.2.2 uin_X4 cx.1.2.2.2.1 cx.2 hw.1 8 rfl rfl 9 (by decide) (cx.1.2.2.2.2 _ mm_1_204) (fun _ h => h) rfl hdg kk
theorem pf_X4_38 {x : Int64} (cx : Cx p s m args c cc RX4 nL D cI cZ) (hw : Wd D a cI cZ s f u H locs) (hdg : decode cc pc = .ok (.putfield 38, 3)) (kk : ∀ (H : Heap) (locs : List Loc), Wd D a cI cZ s f (upL u 8 9 x) H locs → W p l e R s m args below meth c H locs cells slots Q (F0 m (pc + 3) ls rest)) : W p l e R s m args below meth c H locs cells slots Q (F0 m pc ls (.long x :: .ref (a 8) :: rest)) := va_put (D := D) (ci := 4) (v := .long x) (ty := .long) (C := RX4) (T := TX4) (N := 10) cx.1.1 cx.1.2.1 cx.1.2.2.2.2 uin_X4 tyX4 tyX4_ok nmX4 cx.1.2.2.2.1 cx.2 hw.1 hw.2.1 hw.2.2 8 rfl rfl 9 (by decide) (cx.1.2.2.2.2 _ mm_1_204) (fun _ h => h) rfl (by decide +kernel) rfl rfl (Nat.le_of_ble_eq_true rfl) hdg (fun H1 locs1 hP hD hS => kk H1 locs1 ⟨hP, hD, hS⟩)
theorem gf_X7_9 (cx : Cx p s m args c cc RX7 nL D cI cZ) (hw : Wd D a cI cZ s f u H locs) (hdg : decode cc pc = .ok (.getfield 9, 3)) (kk : W p l e R s m args below meth c H locs cells slots Q (F0 m (pc + 3) ls (.int (f 0 0) :: rest))) : W p l e R s m args below meth c H locs cells slots Q (F0 m pc ls (.ref (a 0) :: rest)) := va_get (D := D) (ci := 7) (v := .int (f 0 0)) (C := RX7) (T := TX7) (N := 10) cx.1.1 cx.1.2.1 cx.1.2.2.2.2 uin_X7 cx.1.2.2.2.1 cx.2 hw.1 0 rfl rfl 0 (by decide) (cx.1.2.2.2.2 _ mm_1_226) (fun _ h => h) rfl hdg kk
theorem pf_X7_9 {x : Int32} (cx : Cx p s m args c cc RX7 nL D cI cZ) (hw : Wd D a cI cZ s f u H locs) (hdg : decode cc pc = .ok (.putfield 9, 3)) (kk : ∀ (H : Heap) (locs : List Loc), Wd D a cI cZ s (up f 0 (upd (f 0) 0 x)) u H locs → W p l e R s m args below meth c H locs cells slots Q (F0 m (pc + 3) ls rest)) : W p l e R s m args below meth c H locs cells slots Q (F0 m pc ls (.int x :: .ref (a 0) :: rest)) := va_put (D := D) (ci := 7) (v := .int x) (ty := .int) (C := RX7) (T := TX7) (N := 10) cx.1.1 cx.1.2.1 cx.1.2.2.2.2 uin_X7 tyX7 tyX7_ok nmX7 cx.1.2.2.2.1 cx.2 hw.1 hw.2.1 hw.2.2 0 rfl rfl 0 (by decide) (cx.1.2.2.2.2 _ mm_1_226) (fun _ h => h) rfl (by decide +kernel) rfl rfl (Nat.le_of_ble_eq_true rfl) hdg (fun H1 locs1 hP hD hS => kk H1 locs1 ⟨hP, hD, hS⟩)
theorem gf_X7_15 (cx : Cx p s m args c cc RX7 nL D cI cZ) (hw : Wd D a cI cZ s f u H locs) (hdg : decode cc pc = .ok (.getfield 15, 3)) (kk : W p l e R s m args below meth c H locs cells slots Q (F0 m (pc + 3) ls (.int (f 0 1) :: rest))) : W p l e R s m args below meth c H locs cells slots Q (F0 m pc ls (.ref (a 0) :: rest)) := va_get (D := D) (ci := 7) (v := .int (f 0 1)) (C := RX7) (T := TX7) (N := 10) cx.1.1 cx.1.2.1 cx.1.2.2.2.2 uin_X7 cx.1.2.2.2.1 cx.2 hw.1 0 rfl rfl 1 (by decide) (cx.1.2.2.2.2 _ mm_1_227) (fun _ h => h) rfl hdg kk
theorem pf_X7_15 {x : Int32} (cx : Cx p s m args c cc RX7 nL D cI cZ) (hw : Wd D a cI cZ s f u H locs) (hdg : decode cc pc = .ok (.putfield 15, 3)) (kk : ∀ (H : Heap) (locs : List Loc), Wd D a cI cZ s (up f 0 (upd (f 0) 1 x)) u H locs → W p l e R s m args below meth c H locs cells slots Q (F0 m (pc + 3) ls rest)) : W p l e R s m args below meth c H locs cells slots Q (F0 m pc ls (.int x :: .ref (a 0) :: rest)) := va_put (D := D) (ci := 7) (v := .int x) (ty := .int) (C := RX7) (T := TX7) (N := 10) cx.1.1 cx.1.2.1 cx.1.2.2.2.2 uin_X7 tyX7 tyX7_ok nmX7 cx.1.2.2.2.1 cx.2 hw.1 hw.2.1 hw.2.2 0 rfl rfl 1 (by decide) (cx.1.2.2.2.2 _ mm_1_227) (fun _ h => h) rfl (by decide +kernel) rfl rfl (Nat.le_of_ble_eq_true rfl) hdg (fun H1 locs1 hP hD hS => kk H1 locs1 ⟨hP, hD, hS⟩)
theorem gf_X7_21 (cx : Cx p s m args c cc RX7 nL D cI cZ) (hw : Wd D a cI cZ s f u H locs) (hdg : decode cc pc = .ok (.getfield 21, 3)) (kk : W p l e R s m args below meth c H locs cells slots Q (F0 m (pc + 3) ls (.ref (a 1) :: rest))) : W p l e R s m args below meth c H locs cells slots Q (F0 m pc ls (.ref (a 0) :: rest)) := va_get (D := D) (ci := 7) (v := .ref (a 1)) (C := RX7) (T := TX7) (N := 10) cx.1.1 cx.1.2.1 cx.1.2.2.2.2 uin_X7 cx.1.2.2.2.1 cx.2 hw.1 0 rfl rfl 2 (by decide) (cx.1.2.2.2.2 _ mm_1_228) (fun _ h => h) rfl hdg kk
theorem gf_X7_28 (cx : Cx p s m args c cc RX7 nL D cI cZ) (hw : Wd D a cI cZ s f u H locs) (hdg : decode cc pc = .ok (.getfield 28, 3)) (kk : W p l e R s m args below meth c H locs cells slots Q (F0 m (pc + 3) ls (.ref (a 2) :: rest))) : W p l e R s m args below meth c H locs cells slots Q (F0 m pc ls (.ref (a 0) :: rest)) := va_get (D := D) (ci := 7) (v := .ref (a 2)) (C := RX7) (T := TX7) (N := 10) cx.1.1 cx.1.2.1 cx.1.2.2.2.2 uin_X7 cx.1.2.2.2.1 cx.2 hw.1 0 rfl rfl 3 (by decide) (cx.1.2.2.2.2 _ mm_1_229) (fun _ h => h) rfl hdg kk
theorem gf_X7_35 (cx : Cx p s m args c cc RX7 nL D cI cZ) (hw : Wd D a cI cZ s f u H locs) (hdg : decode cc pc = .ok (.getfield 35, 3)) (kk : W p l e R s m args below meth c H locs cells slots Q (F0 m (pc + 3) ls (.ref (a 3) :: rest))) : W p l e R s m args below meth c H locs cells slots Q (F0 m pc ls (.ref (a 0) :: rest)) := va_get (D := D) (ci := 7) (v := .ref (a 3)) (C := RX7) (T := TX7) (N := 10) cx.1.1 cx.1.2.1 cx.1.2.2.2.2 uin_X7 cx.1.2.2.2.1 cx.2 hw.1 0 rfl rfl 4 (by decide) (cx.1.2.2.2.2 _ mm_1_230) (fun _ h => h) rfl hdg kk
theorem gf_X7_42 (cx : Cx p s m args c cc RX7 nL D cI cZ) (hw : Wd D a cI cZ s f u H locs) (hdg : decode cc pc = .ok (.getfield 42, 3)) (kk : W p l e R s m args below meth c H locs cells slots Q (F0 m (pc + 3) ls (.ref (a 4) :: rest))) : W p l e R s m args below meth c H locs cells slots Q (F0 m pc ls (.ref (a 0) :: rest)) := va_get (D := D) (ci := 7) (v := .ref (a 4)) (C := RX7) (T := TX7) (N := 10) cx.1.1 cx.1.2.1 cx.1.2.2.2.2 uin_X7 cx.1.2.2.2.1 cx.2 hw.1 0 rfl rfl 5 (by decide) (cx.1.2.2.2.2 _ mm_1_231) (fun _ h => h) rfl hdg kk
theorem gf_X7_46 (cx : Cx p s m args c cc RX7 nL D cI cZ) (hw : Wd D a cI cZ s f u H locs) (hdg : decode cc pc = .ok (.getfield 46, 3)) (kk : W p l e R s m args below meth c H locs cells slots Q (F0 m (pc + 3) ls (.ref (a 5) :: rest))) : W p l e R s m args below meth c H locs cells slots Q (F0 m pc ls (.ref (a 0) :: rest)) := va_get (D := D) (ci := 7) (v := .ref (a 5)) (C := RX7) (T := TX7) (N := 10) cx.1.1 cx.1.2.1 cx.1.2.2.2.2 uin_X7 cx.1.2.2.2.1 cx.2 hw.1 0 rfl rfl 6 (by decide) (cx.1.2.2.2.2 _ mm_1_232) (fun _ h => h) rfl hdg kk
theorem gf_X7_54 (cx : Cx p s m args c cc RX7 nL D cI cZ) (hw : Wd D a cI cZ s f u H locs) (hdg : decode cc pc = .ok (.getfield 54, 3)) (kk : W p l e R s m args below meth c H locs cells slots Q (F0 m (pc + 3) ls (.ref (a 6) :: rest))) : W p l e R s m args below meth c H locs cells slots Q (F0 m pc ls (.ref (a 0) :: rest)) := va_get (D := D) (ci := 7) (v := .ref (a 6)) (C := RX7) (T := TX7) (N := 10) cx.1.1 cx.1.2.1 cx.1.2.2.2.2 uin_X7 cx.1.2.2.2.1 cx.2 hw.1 0 rfl rfl 7 (by decide) (cx.1.2.2.2.2 _ mm_1_233) (fun _ h => h) rfl hdg kk
theorem gf_X7_63 (cx : Cx p s m args c cc RX7 nL D cI cZ) (hw : Wd D a cI cZ s f u H locs) (hdg : decode cc pc = .ok (.getfield 63, 3)) (kk : W p l e R s m args below meth c H locs cells slots Q (F0 m (pc + 3) ls (.ref (a 7) :: rest))) : W p l e R s m args below meth c H locs cells slots Q (F0 m pc ls (.ref (a 0) :: rest)) := va_get (D := D) (ci := 7) (v := .ref (a 7)) (C := RX7) (T := TX7) (N := 10) cx.1.1 cx.1.2.1 cx.1.2.2.2.2 uin_X7 cx.1.2.2.2.1 cx.2 hw.1 0 rfl rfl 8 (by decide) (cx.1.2.2.2.2 _ mm_1_234) (fun _ h => h) rfl hdg kk
theorem gf_X7_70 (cx : Cx p s m args c cc RX7 nL D cI cZ) (hw : Wd D a cI cZ s f u H locs) (hdg : decode cc pc = .ok (.getfield 70, 3)) (kk : W p l e R s m args below meth c H locs cells slots Q (F0 m (pc + 3) ls (.ref (a 8) :: rest))) : W p l e R s m args below meth c H locs cells slots Q (F0 m pc ls (.ref (a 0) :: rest)) := va_get (D := D) (ci := 7) (v := .ref (a 8)) (C := RX7) (T := TX7) (N := 10) cx.1.1 cx.1.2.1 cx.1.2.2.2.2 uin_X7 cx.1.2.2.2.1 cx.2 hw.1 0 rfl rfl 9 (by decide) (cx.1.2.2.2.2 _ mm_1_235) (fun _ h => h) rfl hdg kk
theorem gf_X8_15 (cx : Cx p s m args c cc RX8 nL D cI cZ) (hw : Wd D a cI cZ s f u H locs) (hdg : decode cc pc = .ok (.getfield 15, 3)) (kk : W p l e R s m args below meth c H locs cells slots Q (F0 m (pc + 3) ls (.int (f 36 1) :: rest))) : W p l e R s m args below meth c H locs cells slots Q (F0 m pc ls (.ref (a 36) :: rest)) := va_get (D := D) (ci := 8) (v := .int (f 36 1)) (C := RX8) (T := TX8) (N := 39) cx.1.1 cx.1.2.1 cx.1.2.2.2.2 uin_X8 cx.1.2.2.2.1 cx.2 hw.1 36 rfl rfl 1 (by decide) (cx.1.2.2.2.2 _ mm_4_24) (fun _ h => h) rfl hdg kk
theorem pf_X8_15 {x : Int32} (cx : Cx p s m args c cc RX8 nL D cI cZ) (hw : Wd D a cI cZ s f u H locs) (hdg : decode cc pc = .ok (.putfield 15, 3)) (kk : ∀ (H : Heap) (locs : List Loc), Wd D a cI cZ s (up f 36 (upd (f 36) 1 x)) u H locs → W p l e R s m args below meth c H locs cells slots Q (F0 m (pc + 3) ls rest)) : W p l e R s m args below meth c H locs cells slots Q (F0 m pc ls (.int x :: .ref (a 36) :: rest)) := va_put (D := D) (ci := 8) (v := .int x) (ty := .int) (C := RX8) (T := TX8) (N := 39) cx.1.1 cx.1.2.1 cx.1.2.2.2.2 uin_X8 tyX8 tyX8_ok nmX8 cx.1.2.2.2.1 cx.2 hw.1 hw.2.1 hw.2.2 36 rfl rfl 1 (by decide) (cx.1.2.2.2.2 _ mm_4_24) (fun _ h => h) rfl (by decide +kernel) rfl rfl (Nat.le_of_ble_eq_true rfl) hdg (fun H1 locs1 hP hD hS => kk H1 locs1 ⟨hP, hD, hS⟩)
theorem gf_X8_113 (cx : Cx p s m args c cc RX8 nL D cI cZ) (hw : Wd D a cI cZ s f u H locs) (hdg : decode cc pc = .ok (.getfield 113, 3)) (kk : W p l e R s m args below meth c H locs cells slots Q (F0 m (pc + 3) ls (.int (f 36 2) :: rest))) : W p l e R s m args below meth c H locs cells slots Q (F0 m pc ls (.ref (a 36) :: rest)) := va_get (D := D) (ci := 8) (v := .int (f 36 2)) (C := RX8) (T := TX8) (N := 39) cx.1.1 cx.1.2.1 cx.1.2.2.2.2 uin_X8 cx.1.2.2.2.1 cx.2 hw.1 36 rfl rfl 2 (by decide) (cx.1.2.2.2.2 _ mm_4_25) (fun _ h => h) rfl hdg kk
theorem pf_X8_113 {x : Int32} (cx : Cx p s m args c cc RX8 nL D cI cZ) (hw : Wd D a cI cZ s f u H locs) (hdg : decode cc pc = .ok (.putfield 113, 3)) (kk : ∀ (H : Heap) (locs : List Loc), Wd D a cI cZ s (up f 36 (upd (f 36) 2 x)) u H locs → W p l e R s m args below meth c H locs cells slots Q (F0 m (pc + 3) ls rest)) : W p l e R s m args below meth c H locs cells slots Q (F0 m pc ls (.int x :: .ref (a 36) :: rest)) := va_put (D := D) (ci := 8) (v := .int x) (ty := .int) (C := RX8) (T := TX8) (N := 39) cx.1.1 cx.1.2.1 cx.1.2.2.2.2 uin_X8 tyX8 tyX8_ok nmX8 cx.1.2.2.2.1 cx.2 hw.1 hw.2.1 hw.2.2 36 rfl rfl 2 (by decide) (cx.1.2.2.2.2 _ mm_4_25) (fun _ h => h) rfl (by decide +kernel) rfl rfl (Nat.le_of_ble_eq_true rfl) hdg (fun H1 locs1 hP hD hS => kk H1 locs1 ⟨hP, hD, hS⟩)
theorem gf_X8_99 (cx : Cx p s m args c cc RX8 nL D cI cZ) (hw : Wd D a cI cZ s f u H locs) (hdg : decode cc pc = .ok (.getfield 99, 3)) (kk : W p l e R s m args below meth c H locs cells slots Q (F0 m (pc + 3) ls (.int (f 36 3) :: rest))) : W p l e R s m args below meth c H locs cells slots Q (F0 m pc ls (.ref (a 36) :: rest)) := va_get (D := D) (ci := 8) (v := .int (f 36 3)) (C := RX8) (T := TX8) (N := 39) cx.1.1 cx.1.2.1 cx.1.2.2.2.2 uin_X8 cx.1.2.2.2.1 cx.2 hw.1 36 rfl rfl 3 (by decide) (cx.1.2.2.2.2 _ mm_4_26) (fun _ h => h) rfl hdg kk
theorem pf_X8_99 {x : Int32} (cx : Cx p s m args c cc RX8 nL D cI cZ) (hw : Wd D a cI cZ s f u H locs) (hdg : decode cc pc = .ok (.putfield 99, 3)) (kk : ∀ (H : Heap) (locs : List Loc), Wd D a cI cZ s (up f 36 (upd (f 36) 3 x)) u H locs → W p l e R s m args below meth c H locs cells slots Q (F0 m (pc + 3) ls rest)) : W p l e R s m args below meth c H locs cells slots Q (F0 m pc ls (.int x :: .ref (a 36) :: rest)) := va_put (D := D) (ci := 8) (v := .int x) (ty := .int) (C := RX8) (T := TX8) (N := 39) cx.1.1 cx.1.2.1 cx.1.2.2.2.2 uin_X8 tyX8 tyX8_ok nmX8 cx.1.2.2.2.1 cx.2 hw.1 hw.2.1 hw.2.2 36 rfl rfl 3 (by decide) (cx.1.2.2.2.2 _ mm_4_26) (fun _ h => h) rfl (by decide +kernel) rfl rfl (Nat.le_of_ble_eq_true rfl) hdg (fun H1 locs1 hP hD hS => kk H1 locs1 ⟨hP, hD, hS⟩)
theorem gf_X8_18 (cx : Cx p s m args c cc RX8 nL D cI cZ) (hw : Wd D a cI cZ s f u H locs) (hdg : decode cc pc = .ok (.getfield 18, 3)) (kk : W p l e R s m args below meth c H locs cells slots Q (F0 m (pc + 3) ls (.ref (a 37) :: rest))) : W p l e R s m args below meth c H locs cells slots Q (F0 m pc ls (.ref (a 36) :: rest)) := va_get (D := D) (ci := 8) (v := .ref (a 37)) (C := RX8) (T := TX8) (N := 39) cx.1.1 cx.1.2.1 cx.1.2.2.2.2 uin_X8 cx.1.2.2.2.1 cx.2 hw.1 36 rfl rfl 4 (by decide) (cx.1.2.2.2.2 _ mm_4_27) (fun _ h => h) rfl hdg kk
theorem gf_X8_22 (cx : Cx p s m args c cc RX8 nL D cI cZ) (hw : Wd D a cI cZ s f u H locs) (hdg : decode cc pc = .ok (.getfield 22, 3)) (kk : W p l e R s m args below meth c H locs cells slots Q (F0 m (pc + 3) ls (.ref (a 38) :: rest))) : W p l e R s m args below meth c H locs cells slots Q (F0 m pc ls (.ref (a 36) :: rest)) := va_get (D := D) (ci := 8) (v := .ref (a 38)) (C := RX8) (T := TX8) (N := 39) cx.1.1 cx.1.2.1 cx.1.2.2.2.2 uin_X8 cx.1.2.2.2.1 cx.2 hw.1 36 rfl rfl 5 (by decide) (cx.1.2.2.2.2 _ mm_4_28) (fun _ h => h) rfl hdg kk
theorem gf_X8_25 (cx : Cx p s m args c cc RX8 nL D cI cZ) (hw : Wd D a cI cZ s f u H locs) (hdg : decode cc pc = .ok (.getfield 25, 3)) (kk : W p l e R s m args below meth c H locs cells slots Q (F0 m (pc + 3) ls (.ref (a 39) :: rest))) : W p l e R s m args below meth c H locs cells slots Q (F0 m pc ls (.ref (a 36) :: rest)) := va_get (D := D) (ci := 8) (v := .ref (a 39)) (C := RX8) (T := TX8) (N := 39) cx.1.1 cx.1.2.1 cx.1.2.2.2.2 uin_X8 cx.1.2.2.2.1 cx.2 hw.1 36 rfl rfl 6 (by decide) (cx.1.2.2.2.2 _ mm_4_29) (fun _ h => h) rfl hdg kk
theorem gf_X8_28 (cx : Cx p s m args c cc RX8 nL D cI cZ) (hw : Wd D a cI cZ s f u H locs) (hdg : decode cc pc = .ok (.getfield 28, 3)) (kk : W p l e R s m args below meth c H locs cells slots Q (F0 m (pc + 3) ls (.ref (a 40) :: rest))) : W p l e R s m args below meth c H locs cells slots Q (F0 m pc ls (.ref (a 36) :: rest)) := va_get (D := D) (ci := 8) (v := .ref (a 40)) (C := RX8) (T := TX8) (N := 39) cx.1.1 cx.1.2.1 cx.1.2.2.2.2 uin_X8 cx.1.2.2.2.1 cx.2 hw.1 36 rfl rfl 7 (by decide) (cx.1.2.2.2.2 _ mm_4_30) (fun _ h => h) rfl hdg kk
theorem gf_X8_31 (cx : Cx p s m args c cc RX8 nL D cI cZ) (hw : Wd D a cI cZ s f u H locs) (hdg : decode cc pc = .ok (.getfield 31, 3)) (kk : W p l e R s m args below meth c H locs cells slots Q (F0 m (pc + 3) ls (.ref (a 41) :: rest))) : W p l e R s m args below meth c H locs cells slots Q (F0 m pc ls (.ref (a 36) :: rest)) := va_get (D := D) (ci := 8) (v := .ref (a 41)) (C := RX8) (T := TX8) (N := 39) cx.1.1 cx.1.2.1 cx.1.2.2.2.2 uin_X8 cx.1.2.2.2.1 cx.2 hw.1 36 rfl rfl 8 (by decide) (cx.1.2.2.2.2 _ mm_4_31) (fun _ h => h) rfl hdg kk
theorem gf_X8_34 (cx : Cx p s m args c cc RX8 nL D cI cZ) (hw : Wd D a cI cZ s f u H locs) (hdg : decode cc pc = .ok (.getfield 34, 3)) (kk : W p l e R s m args below meth c H locs cells slots Q (F0 m (pc + 3) ls (.ref (a 42) :: rest))) : W p l e R s m args below meth c H locs cells slots Q (F0 m pc ls (.ref (a 36) :: rest)) := va_get (D := D) (ci := 8) (v := .ref (a 42)) (C := RX8) (T := TX8) (N := 39) cx.1.1 cx.1.2.1 cx.1.2.2.2.2 uin_X8 cx.1.2.2.2.1 cx.2 hw.1 36 rfl rfl 9 (by decide) (cx.1.2.2.2.2 _ mm_4_32) (fun _ h => h) rfl hdg kk
theorem gf_X8_37 (cx : Cx p s m args c cc RX8 nL D cI cZ) (hw : Wd D a cI cZ s f u H locs) (hdg : decode cc pc = .ok (.getfield 37, 3)) (kk : W p l e R s m args below meth c H locs cells slots Q (F0 m (pc + 3) ls (.ref (a 43) :: rest))) : W p l e R s m args below meth c H locs cells slots Q (F0 m pc ls (.ref (a 36) :: rest)) := va_get (D := D) (ci := 8) (v := .ref (a 43)) (C := RX8) (T := TX8) (N := 39) cx.1.1 cx.1.2.1 cx.1.2.2.2.2 uin_X8 cx.1.2.2.2.1 cx.2 hw.1 36 rfl rfl 10 (by decide) (cx.1.2.2.2.2 _ mm_4_33) (fun _ h => h) rfl hdg kk
theorem gf_X8_106 (cx : Cx p s m args c cc RX8 nL D cI cZ) (hw : Wd D a cI cZ s f u H locs) (hdg : decode cc pc = .ok (.getfield 106, 3)) (kk : W p l e R s m args below meth c H locs cells slots Q (F0 m (pc + 3) ls (.int (f 36 11) :: rest))) : W p l e R s m args below meth c H locs cells slots Q (F0 m pc ls (.ref (a 36) :: rest)) := va_get (D := D) (ci := 8) (v := .int (f 36 11)) (C := RX8) (T := TX8) (N := 39) cx.1.1 cx.1.2.1 cx.1.2.2.2.2 uin_X8 cx.1.2.2.2.1 cx.2 hw.1 36 rfl rfl 11 (by decide) (cx.1.2.2.2.2 _ mm_4_34) (fun _ h => h) rfl hdg kk
theorem pf_X8_106 {x : Int32} (cx : Cx p s m args c cc RX8 nL D cI cZ) (hw : Wd D a cI cZ s f u H locs) (hdg : decode cc pc = .ok (.putfield 106, 3)) (kk : ∀ (H : Heap) (locs : List Loc), Wd D a cI cZ s (up f 36 (upd (f 36) 11 x)) u H locs → W p l e R s m args below meth c H locs cells slots Q (F0 m (pc + 3) ls rest)) : W p l e R s m args below meth c H locs cells slots Q (F0 m pc ls (.int x :: .ref (a 36) :: rest)) := va_put (D := D) (ci := 8) (v := .int x) (ty := .int) (C := RX8) (T := TX8) (N := 39) cx.1.1 cx.1.2.1 cx.1.2.2.2.2 uin_X8 tyX8 tyX8_ok nmX8 cx.1.2.2.2.1 cx.2 hw.1 hw.2.1 hw.2.2 36 rfl rfl 11 (by decide) (cx.1.2.2.2.2 _ mm_4_34) (fun _ h => h) rfl (by decide +kernel) rfl rfl (Nat.le_of_ble_eq_true rfl) hdg (fun H1 locs1 hP hD hS => kk H1 locs1 ⟨hP, hD, hS⟩)
theorem gf_X8_40 (cx : Cx p s m args c cc RX8 nL D cI cZ) (hw : Wd D a cI cZ s f u H locs) (hdg : decode cc pc = .ok (.getfield 40, 3)) (kk : W p l e R s m args below meth c H locs cells slots Q (F0 m (pc + 3) ls (.ref (a 44) :: rest))) : W p l e R s m args below meth c H locs cells slots Q (F0 m pc ls (.ref (a 36) :: rest)) := va_get (D := D) (ci := 8) (v := .ref (a 44)) (C := RX8) (T := TX8) (N := 39) cx.1.1 cx.1.2.1 cx.1.2.2.2.2 uin_X8 cx.1.2.2.2.1 cx.2 hw.1 36 rfl rfl 12 (by decide) (cx.1.2.2.2.2 _ mm_4_35) (fun _ h => h) rfl hdg kk
theorem gf_X8_43 (cx : Cx p s m args c cc RX8 nL D cI cZ) (hw : Wd D a cI cZ s f u H locs) (hdg : decode cc pc = .ok (.getfield 43, 3)) (kk : W p l e R s m args below meth c H locs cells slots Q (F0 m (pc + 3) ls (.ref (a 45) :: rest))) : W p l e R s m args below meth c H locs cells slots Q (F0 m pc ls (.ref (a 36) :: rest)) := va_get (D := D) (ci := 8) (v := .ref (a 45)) (C := RX8) (T := TX8) (N := 39) cx.1.1 cx.1.2.1 cx.1.2.2.2.2 uin_X8 cx.1.2.2.2.1 cx.2 hw.1 36 rfl rfl 13 (by decide) (cx.1.2.2.2.2 _ mm_4_36) (fun _ h => h) rfl hdg kk
theorem gf_X8_46 (cx : Cx p s m args c cc RX8 nL D cI cZ) (hw : Wd D a cI cZ s f u H locs) (hdg : decode cc pc = .ok (.getfield 46, 3)) (kk : W p l e R s m args below meth c H locs cells slots Q (F0 m (pc + 3) ls (.ref (a 46) :: rest))) : W p l e R s m args below meth c H locs cells slots Q (F0 m pc ls (.ref (a 36) :: rest)) := va_get (D := D) (ci := 8) (v := .ref (a 46)) (C := RX8) (T := TX8) (N := 39) cx.1.1 cx.1.2.1 cx.1.2.2.2.2 uin_X8 cx.1.2.2.2.1 cx.2 hw.1 36 rfl rfl 14 (by decide) (cx.1.2.2.2.2 _ mm_4_37) (fun _ h => h) rfl hdg kk
theorem gf_X8_49 (cx : Cx p s m args c cc RX8 nL D cI cZ) (hw : Wd D a cI cZ s f u H locs) (hdg : decode cc pc = .ok (.getfield 49, 3)) (kk : W p l e R s m args below meth c H locs cells slots Q (F0 m (pc + 3) ls (.ref (a 47) :: rest))) : W p l e R s m args below meth c H locs cells slots Q (F0 m pc ls (.ref (a 36) :: rest)) := va_get (D := D) (ci := 8) (v := .ref (a 47)) (C := RX8) (T := TX8) (N := 39) cx.1.1 cx.1.2.1 cx.1.2.2.2.2 uin_X8 cx.1.2.2.2.1 cx.2 hw.1 36 rfl rfl 15 (by decide) (cx.1.2.2.2.2 _ mm_4_38) (fun _ h => h) rfl hdg kk
theorem gf_X8_116 (cx : Cx p s m args c cc RX8 nL D cI cZ) (hw : Wd D a cI cZ s f u H locs) (hdg : decode cc pc = .ok (.getfield 116, 3)) (kk : W p l e R s m args below meth c H locs cells slots Q (F0 m (pc + 3) ls (.int (f 36 16) :: rest))) : W p l e R s m args below meth c H locs cells slots Q (F0 m pc ls (.ref (a 36) :: rest)) := va_get (D := D) (ci := 8) (v := .int (f 36 16)) (C := RX8) (T := TX8) (N := 39) cx.1.1 cx.1.2.1 cx.1.2.2.2.2 uin_X8 cx.1.2.2.2.1 cx.2 hw.1 36 rfl rfl 16 (by decide) (cx.1.2.2.2.2 _ mm_4_39) (fun _ h => h) rfl hdg kk
theorem pf_X8_116 {x : Int32} (cx : Cx p s m args c cc RX8 nL D cI cZ) (hw : Wd D a cI cZ s f u H locs) (hdg : decode cc pc = .ok (.putfield 116, 3)) (kk : ∀ (H : Heap) (locs : List Loc), Wd D a cI cZ s (up f 36 (upd (f 36) 16 x)) u H locs → W p l e R s m args below meth c H locs cells slots Q (F0 m (pc + 3) ls rest)) : W p l e R s m args below meth c H locs cells slots Q (F0 m pc ls (.int x :: .ref (a 36) :: rest)) := va_put (D := D) (ci := 8) (v := .int x) (ty := .int) (C := RX8) (T := TX8) (N := 39) cx.1.1 cx.1.2.1 cx.1.2.2.2.2 uin_X8 tyX8 tyX8_ok nmX8 cx.1.2.2.2.1 cx.2 hw.1 hw.2.1 hw.2.2 36 rfl rfl 16 (by decide) (cx.1.2.2.2.2 _ mm_4_39) (fun _ h => h) rfl (by decide +kernel) rfl rfl (Nat.le_of_ble_eq_true rfl) hdg (fun H1 locs1 hP hD hS => kk H1 locs1 ⟨hP, hD, hS⟩)
theorem gf_X8_52 (cx : Cx p s m args c cc RX8 nL D cI cZ) (hw : Wd D a cI cZ s f u H locs) (hdg : decode cc pc = .ok (.getfield 52, 3)) (kk : W p l e R s m args below meth c H locs cells slots Q (F0 m (pc + 3) ls (.ref (a 48) :: rest))) : W p l e R s m args below meth c H locs cells slots Q (F0 m pc ls (.ref (a 36) :: rest)) := va_get (D := D) (ci := 8) (v := .ref (a 48)) (C := RX8) (T := TX8) (N := 39) cx.1.1 cx.1.2.1 cx.1.2.2.2.2 uin_X8 cx.1.2.2.2.1 cx.2 hw.1 36 rfl rfl 17 (by decide) (cx.1.2.2.2.2 _ mm_4_40) (fun _ h => h) rfl hdg kk
theorem gf_X8_55 (cx : Cx p s m args c cc RX8 nL D cI cZ) (hw : Wd D a cI cZ s f u H locs) (hdg : decode cc pc = .ok (.getfield 55, 3)) (kk : W p l e R s m args below meth c H locs cells slots Q (F0 m (pc + 3) ls (.ref (a 49) :: rest))) : W p l e R s m args below meth c H locs cells slots Q (F0 m pc ls (.ref (a 36) :: rest)) := va_get (D := D) (ci := 8) (v := .ref (a 49)) (C := RX8) (T := TX8) (N := 39) cx.1.1 cx.1.2.1 cx.1.2.2.2.2 uin_X8 cx.1.2.2.2.1 cx.2 hw.1 36 rfl rfl 18 (by decide) (cx.1.2.2.2.2 _ mm_4_41) (fun _ h => h) rfl hdg kk
theorem gf_X8_58 (cx : Cx p s m args c cc RX8 nL D cI cZ) (hw : Wd D a cI cZ s f u H locs) (hdg : decode cc pc = .ok (.getfield 58, 3)) (kk : W p l e R s m args below meth c H locs cells slots Q (F0 m (pc + 3) ls (.ref (a 50) :: rest))) : W p l e R s m args below meth c H locs cells slots Q (F0 m pc ls (.ref (a 36) :: rest)) := va_get (D := D) (ci := 8) (v := .ref (a 50)) (C := RX8) (T := TX8) (N := 39) cx.1.1 cx.1.2.1 cx.1.2.2.2.2 uin_X8 cx.1.2.2.2.1 cx.2 hw.1 36 rfl rfl 19 (by decide) (cx.1.2.2.2.2 _ mm_4_42) (fun _ h => h) rfl hdg kk
theorem gf_X8_119 (cx : Cx p s m args c cc RX8 nL D cI cZ) (hw : Wd D a cI cZ s f u H locs) (hdg : decode cc pc = .ok (.getfield 119, 3)) (kk : W p l e R s m args below meth c H locs cells slots Q (F0 m (pc + 3) ls (.int (f 36 20) :: rest))) : W p l e R s m args below meth c H locs cells slots Q (F0 m pc ls (.ref (a 36) :: rest)) := va_get (D := D) (ci := 8) (v := .int (f 36 20)) (C := RX8) (T := TX8) (N := 39) cx.1.1 cx.1.2.1 cx.1.2.2.2.2 uin_X8 cx.1.2.2.2.1 cx.2 hw.1 36 rfl rfl 20 (by decide) (cx.1.2.2.2.2 _ mm_4_43) (fun _ h => h) rfl hdg kk
theorem pf_X8_119 {x : Int32} (cx : Cx p s m args c cc RX8 nL D cI cZ) (hw : Wd D a cI cZ s f u H locs) (hdg : decode cc pc = .ok (.putfield 119, 3)) (kk : ∀ (H : Heap) (locs : List Loc), Wd D a cI cZ s (up f 36 (upd (f 36) 20 x)) u H locs → W p l e R s m args below meth c H locs cells slots Q (F0 m (pc + 3) ls rest)) : W p l e R s m args below meth c H locs cells slots Q (F0 m pc ls (.int x :: .ref (a 36) :: rest)) := va_put (D := D) (ci := 8) (v := .int x) (ty := .int) (C := RX8) (T := TX8) (N := 39) cx.1.1 cx.1.2.1 cx.1.2.2.2.2 uin_X8 tyX8 tyX8_ok nmX8 cx.1.2.2.2.1 cx.2 hw.1 hw.2.1 hw.2.2 36 rfl rfl 20 (by decide) (cx.1.2.2.2.2 _ mm_4_43) (fun _ h => h) rfl (by decide +kernel) rfl rfl (Nat.le_of_ble_eq_true rfl) hdg (fun H1 locs1 hP hD hS => kk H1 locs1 ⟨hP, hD, hS⟩)
theorem gf_X8_61 (cx : Cx p s m args c cc RX8 nL D cI cZ) (hw : Wd D a cI cZ s f u H locs) (hdg : decode cc pc = .ok (.getfield 61, 3)) (kk : W p l e R s m args below meth c H locs cells slots Q (F0 m (pc + 3) ls (.ref (a 51) :: rest))) : W p l e R s m args below meth c H locs cells slots Q (F0 m pc ls (.ref (a 36) :: rest)) := va_get (D := D) (ci := 8) (v := .ref (a 51)) (C := RX8) (T := TX8) (N := 39) cx.1.1 cx.1.2.1 cx.1.2.2.2.2 uin_X8 cx.1.2.2.2.1 cx.2 hw.1 36 rfl rfl 21 (by decide) (cx.1.2.2.2.2 _ mm_4_44) (fun _ h => h) rfl hdg kk
theorem gf_X8_64 (cx : Cx p s m args c cc RX8 nL D cI cZ) (hw : Wd D a cI cZ s f u H locs) (hdg : decode cc pc = .ok (.getfield 64, 3)) (kk : W p l e R s m args below meth c H locs cells slots Q (F0 m (pc + 3) ls (.ref (a 52) :: rest))) : W p l e R s m args below meth c H locs cells slots Q (F0 m pc ls (.ref (a 36) :: rest)) := va_get (D := D) (ci := 8) (v := .ref (a 52)) (C := RX8) (T := TX8) (N := 39) cx.1.1 cx.1.2.1 cx.1.2.2.2.2 uin_X8 cx.1.2.2.2.1 cx.2 hw.1 36 rfl rfl 22 (by decide) (cx.1.2.2.2.2 _ mm_4_45) (fun _ h => h) rfl hdg kk
theorem gf_X8_67 (cx : Cx p s m args c cc RX8 nL D cI cZ) (hw : Wd D a cI cZ s f u H locs) (hdg : decode cc pc = .ok (.getfield 67, 3)) (kk : W p l e R s m args below meth c H locs cells slots Q (F0 m (pc + 3) ls (.ref (a 53) :: rest))) : W p l e R s m args below meth c H locs cells slots Q (F0 m pc ls (.ref (a 36) :: rest)) := va_get (D := D) (ci := 8) (v := .ref (a 53)) (C := RX8) (T := TX8) (N := 39) cx.1.1 cx.1.2.1 cx.1.2.2.2.2 uin_X8 cx.1.2.2.2.1 cx.2 hw.1 36 rfl rfl 23 (by decide) (cx.1.2.2.2.2 _ mm_4_46) (fun _ h => h) rfl hdg kk
theorem gf_X8_70 (cx : Cx p s m args c cc RX8 nL D cI cZ) (hw : Wd D a cI cZ s f u H locs) (hdg : decode cc pc = .ok (.getfield 70, 3)) (kk : W p l e R s m args below meth c H locs cells slots Q (F0 m (pc + 3) ls (.int (f 36 24) :: rest))) : W p l e R s m args below meth c H locs cells slots Q (F0 m pc ls (.ref (a 36) :: rest)) := va_get (D := D) (ci := 8) (v := .int (f 36 24)) (C := RX8) (T := TX8) (N := 39) cx.1.1 cx.1.2.1 cx.1.2.2.2.2 uin_X8 cx.1.2.2.2.1 cx.2 hw.1 36 rfl rfl 24 (by decide) (cx.1.2.2.2.2 _ mm_4_47) (fun _ h => h) rfl hdg kk
theorem pf_X8_70 {x : Int32} (cx : Cx p s m args c cc RX8 nL D cI cZ) (hw : Wd D a cI cZ s f u H locs) (hdg : decode cc pc = .ok (.putfield 70, 3)) (kk : ∀ (H : Heap) (locs : List Loc), Wd D a cI cZ s (up f 36 (upd (f 36) 24 x)) u H locs → W p l e R s m args below meth c H locs cells slots Q (F0 m (pc + 3) ls rest)) : W p l e R s m args below meth c H locs cells slots Q (F0 m pc ls (.int x :: .ref (a 36) :: rest)) := va_put (D := D) (ci := 8) (v := .int x) (ty := .int) (C := RX8) (T := TX8) (N := 39) cx.1.1 cx.1.2.1 cx.1.2.2.2.2 uin_X8 tyX8 tyX8_ok nmX8 cx.1.2.2.2.1 cx.2 hw.1 hw.2.1 hw.2.2 36 rfl rfl 24 (by decide) (cx.1.2.2.2.2 _ mm_4_47) (fun _ h => h) rfl (by decide +kernel) rfl rfl (Nat.le_of_ble_eq_true rfl) hdg (fun H1 locs1 hP hD hS => kk H1 locs1 ⟨hP, hD, hS⟩)
theorem gf_X8_73 (cx : Cx p s m args c cc RX8 nL D cI cZ) (hw : Wd D a cI cZ s f u H locs) (hdg : decode cc pc = .ok (.getfield 73, 3)) (kk : W p l e R s m args below meth c H locs cells slots Q (F0 m (pc + 3) ls (.ref (a 54) :: rest))) : W p l e R s m args below meth c H locs cells slots Q (F0 m pc ls (.ref (a 36) :: rest)) := va_get (D := D) (ci := 8) (v := .ref (a 54)) (C := RX8) (T := TX8) (N := 39) cx.1.1 cx.1.2.1 cx.1.2.2.2.2 uin_X8 cx.1.2.2.2.1 cx.2 hw.1 36 rfl rfl 25 (by decide) (cx.1.2.2.2.2 _ mm_4_48) (fun _ h => h) rfl hdg kk
theorem gf_X8_76 (cx : Cx p s m args c cc RX8 nL D cI cZ) (hw : Wd D a cI cZ s f u H locs) (hdg : decode cc pc = .ok (.getfield 76, 3)) (kk : W p l e R s m args below meth c H locs cells slots Q (F0 m (pc + 3) ls (.ref (a 55) :: rest))) : W p l e R s m args below meth c H locs cells slots Q (F0 m pc ls (.ref (a 36) :: rest)) := va_get (D := D) (ci := 8) (v := .ref (a 55)) (C := RX8) (T := TX8) (N := 39) cx.1.1 cx.1.2.1 cx.1.2.2.2.2 uin_X8 cx.1.2.2.2.1 cx.2 hw.1 36 rfl rfl 26 (by decide) (cx.1.2.2.2.2 _ mm_4_49) (fun _ h => h) rfl hdg kk
theorem gf_X8_79 (cx : Cx p s m args c cc RX8 nL D cI cZ) (hw : Wd D a cI cZ s f u H locs) (hdg : decode cc pc = .ok (.getfield 79, 3)) (kk : W p l e R s m args below meth c H locs cells slots Q (F0 m (pc + 3) ls (.ref (a 56) :: rest))) : W p l e R s m args below meth c H locs cells slots Q (F0 m pc ls (.ref (a 36) :: rest)) := va_get (D := D) (ci := 8) (v := .ref (a 56)) (C := RX8) (T := TX8) (N := 39) cx.1.1 cx.1.2.1 cx.1.2.2.2.2 uin_X8 cx.1.2.2.2.1 cx.2 hw.1 36 rfl rfl 27 (by decide) (cx.1.2.2.2.2 _ mm_4_50) (fun _ h => h) rfl hdg kk
theorem gf_X8_82 (cx : Cx p s m args c cc RX8 nL D cI cZ) (hw : Wd D a cI cZ s f u H locs) (hdg : decode cc pc = .ok (.getfield 82, 3)) (kk : W p l e R s m args below meth c H locs cells slots Q (F0 m (pc + 3) ls (.ref (a 57) :: rest))) : W p l e R s m args below meth c H locs cells slots Q (F0 m pc ls (.ref (a 36) :: rest)) := va_get (D := D) (ci := 8) (v := .ref (a 57)) (C := RX8) (T := TX8) (N := 39) cx.1.1 cx.1.2.1 cx.1.2.2.2.2 uin_X8 cx.1.2.2.2.1 cx.2 hw.1 36 rfl rfl 28 (by decide) (cx.1.2.2.2.2 _ mm_4_51) (fun _ h => h) rfl hdg kk
theorem gf_X8_188 (cx : Cx p s m args c cc RX8 nL D cI cZ) (hw : Wd D a cI cZ s f u H locs) (hdg : decode cc pc = .ok (.getfield 188, 3)) (kk : W p l e R s m args below meth c H locs cells slots Q (F0 m (pc + 3) ls (.long (u 36 29) :: rest))) : W p l e R s m args below meth c H locs cells slots Q (F0 m pc ls (.ref (a 36) :: rest)) := va_get (D := D) (ci := 8) (v := .long (u 36 29)) (C := RX8) (T := TX8) (N := 39) cx.1.1 cx.1.2.1 cx.1.2.2.2.2 uin_X8 cx.1.2.2.2.1 cx.2 hw.1 36 rfl rfl 29 (by decide) (cx.1.2.2.2.2 _ mm_4_52) (fun _ h => h) rfl hdg kk
theorem pf_X8_188 {x : Int64} (cx : Cx p s m args c cc RX8 nL D cI cZ) (hw : Wd D a cI cZ s f u H locs) (hdg : decode cc pc = .ok (.putfield 188, 3)) (kk : ∀ (H : Heap) (locs : List Loc), Wd D a cI cZ s f (upL u 36 29 x) H locs → W p l e R s m args below meth c H locs cells slots Q (F0 m (pc + 3) ls rest)) : W p l e R s m args below meth c H locs cells slots Q (F0 m pc ls (.long x :: .ref (a 36) :: rest)) := va_put (D := D) (ci := 8) (v := .long x) (ty := .long) (C := RX8) (T := TX8) (N := 39) cx.1.1 cx.1.2.1 cx.1.2.2.2.2 uin_X8 tyX8 tyX8_ok nmX8 cx.1.2.2.2.1 cx.2 hw.1 hw.2.1 hw.2.2 36 rfl rfl 29 (by decide) (cx.1.2.2.2.2 _ mm_4_52) (fun _ h => h) rfl (by decide +kernel) rfl rfl (Nat.le_of_ble_eq_true rfl) hdg (fun H1 locs1 hP hD hS => kk H1 locs1 ⟨hP, hD, hS⟩)
theorem gf_X8_185 (cx : Cx p s m args c cc RX8 nL D cI cZ) (hw : Wd D a cI cZ s f u H locs) (hdg : decode cc pc = .ok (.getfield 185, 3)) (kk : W p l e R s m args below meth c H locs cells slots Q (F0 m (pc + 3) ls (.int (f 36 30) :: rest))) : W p l e R s m args below meth c H locs cells slots Q (F0 m pc ls (.ref (a 36) :: rest)) := va_get (D := D) (ci := 8) (v := .int (f 36 30)) (C := RX8) (T := TX8) (N := 39) cx.1.1 cx.1.2.1 cx.1.2.2.2.2 uin_X8 cx.1.2.2.2.1 cx.2 hw.1 36 rfl rfl 30 (by decide) (cx.1.2.2.2.2 _ mm_4_53) (fun _ h => h) rfl hdg kk
theorem pf_X8_185 {x : Int32} (cx : Cx p s m args c cc RX8 nL D cI cZ) (hw : Wd D a cI cZ s f u H locs) (hdg : decode cc pc = .ok (.putfield 185, 3)) (kk : ∀ (H : Heap) (locs : List Loc), Wd D a cI cZ s (up f 36 (upd (f 36) 30 x)) u H locs → W p l e R s m args below meth c H locs cells slots Q (F0 m (pc + 3) ls rest)) : W p l e R s m args below meth c H locs cells slots Q (F0 m pc ls (.int x :: .ref (a 36) :: rest)) := va_put (D := D) (ci := 8) (v := .int x) (ty := .int) (C := RX8) (T := TX8) (N := 39) cx.1.1 cx.1.2.1 cx.1.2.2.2.2 uin_X8 tyX8 tyX8_ok nmX8 cx.1.2.2.2.1 cx.2 hw.1 hw.2.1 hw.2.2 36 rfl rfl 30 (by decide) (cx.1.2.2.2.2 _ mm_4_53) (fun _ h => h) rfl (by decide +kernel) rfl rfl (Nat.le_of_ble_eq_true rfl) hdg (fun H1 locs1 hP hD hS => kk H1 locs1 ⟨hP, hD, hS⟩)
theorem gf_X8_85 (cx : Cx p s m args c cc RX8 nL D cI cZ) (hw : Wd D a cI cZ s f u H locs) (hdg : decode cc pc = .ok (.getfield 85, 3)) (kk : W p l e R s m args below meth c H locs cells slots Q (F0 m (pc + 3) ls (.ref (a 58) :: rest))) : W p l e R s m args below meth c H locs cells slots Q (F0 m pc ls (.ref (a 36) :: rest)) := va_get (D := D) (ci := 8) (v := .ref (a 58)) (C := RX8) (T := TX8) (N := 39) cx.1.1 cx.1.2.1 cx.1.2.2.2.2 uin_X8 cx.1.2.2.2.1 cx.2 hw.1 36 rfl rfl 31 (by decide) (cx.1.2.2.2.2 _ mm_4_54) (fun _ h => h) rfl hdg kk
theorem gf_X8_199 (cx : Cx p s m args c cc RX8 nL D cI cZ) (hw : Wd D a cI cZ s f u H locs) (hdg : decode cc pc = .ok (.getfield 199, 3)) (kk : W p l e R s m args below meth c H locs cells slots Q (F0 m (pc + 3) ls (.long (u 36 32) :: rest))) : W p l e R s m args below meth c H locs cells slots Q (F0 m pc ls (.ref (a 36) :: rest)) := va_get (D := D) (ci := 8) (v := .long (u 36 32)) (C := RX8) (T := TX8) (N := 39) cx.1.1 cx.1.2.1 cx.1.2.2.2.2 uin_X8 cx.1.2.2.2.1 cx.2 hw.1 36 rfl rfl 32 (by decide) (cx.1.2.2.2.2 _ mm_4_55) (fun _ h => h) rfl hdg kk
theorem pf_X8_199 {x : Int64} (cx : Cx p s m args c cc RX8 nL D cI cZ) (hw : Wd D a cI cZ s f u H locs) (hdg : decode cc pc = .ok (.putfield 199, 3)) (kk : ∀ (H : Heap) (locs : List Loc), Wd D a cI cZ s f (upL u 36 32 x) H locs → W p l e R s m args below meth c H locs cells slots Q (F0 m (pc + 3) ls rest)) : W p l e R s m args below meth c H locs cells slots Q (F0 m pc ls (.long x :: .ref (a 36) :: rest)) := va_put (D := D) (ci := 8) (v := .long x) (ty := .long) (C := RX8) (T := TX8) (N := 39) cx.1.1 cx.1.2.1 cx.1.2.2.2.2 uin_X8 tyX8 tyX8_ok nmX8 cx.1.2.2.2.1 cx.2 hw.1 hw.2.1 hw.2.2 36 rfl rfl 32 (by decide) (cx.1.2.2.2.2 _ mm_4_55) (fun _ h => h) rfl (by decide +kernel) rfl rfl (Nat.le_of_ble_eq_true rfl) hdg (fun H1 locs1 hP hD hS => kk H1 locs1 ⟨hP, hD, hS⟩)
theorem gf_X8_202 (cx : Cx p s m args c cc RX8 nL D cI cZ) (hw : Wd D a cI cZ s f u H locs) (hdg : decode cc pc = .ok (.getfield 202, 3)) (kk : W p l e R s m args below meth c H locs cells slots Q (F0 m (pc + 3) ls (.int (f 36 33) :: rest))) : W p l e R s m args below meth c H locs cells slots Q (F0 m pc ls (.ref (a 36) :: rest)) := va_get (D := D) (ci := 8) (v := .int (f 36 33)) (C := RX8) (T := TX8) (N := 39) cx.1.1 cx.1.2.1 cx.1.2.2.2.2 uin_X8 cx.1.2.2.2.1 cx.2 hw.1 36 rfl rfl 33 (by decide) (cx.1.2.2.2.2 _ mm_4_56) (fun _ h => h) rfl hdg kk
theorem pf_X8_202 {x : Int32} (cx : Cx p s m args c cc RX8 nL D cI cZ) (hw : Wd D a cI cZ s f u H locs) (hdg : decode cc pc = .ok (.putfield 202, 3)) (kk : ∀ (H : Heap) (locs : List Loc), Wd D a cI cZ s (up f 36 (upd (f 36) 33 x)) u H locs → W p l e R s m args below meth c H locs cells slots Q (F0 m (pc + 3) ls rest)) : W p l e R s m args below meth c H locs cells slots Q (F0 m pc ls (.int x :: .ref (a 36) :: rest)) := va_put (D := D) (ci := 8) (v := .int x) (ty := .int) (C := RX8) (T := TX8) (N := 39) cx.1.1 cx.1.2.1 cx.1.2.2.2.2 uin_X8 tyX8 tyX8_ok nmX8 cx.1.2.2.2.1 cx.2 hw.1 hw.2.1 hw.2.2 36 rfl rfl 33 (by decide) (cx.1.2.2.2.2 _ mm_4_56) (fun _ h => h) rfl (by decide +kernel) rfl rfl (Nat.le_of_ble_eq_true rfl) hdg (fun H1 locs1 hP hD hS => kk H1 locs1 ⟨hP, hD, hS⟩)
theorem gf_X8_89 (cx : Cx p s m args c cc RX8 nL D cI cZ) (hw : Wd D a cI cZ s f u H locs) (hdg : decode cc pc = .ok (.getfield 89, 3)) (kk : W p l e R s m args below meth c H locs cells slots Q (F0 m (pc + 3) ls (.ref (a 59) :: rest))) : W p l e R s m args below meth c H locs cells slots Q (F0 m pc ls (.ref (a 36) :: rest)) := va_get (D := D) (ci := 8) (v := .ref (a 59)) (C := RX8) (T := TX8) (N := 39) cx.1.1 cx.1.2.1 cx.1.2.2.2.2 uin_X8 cx.1.2.2.2.1 cx.2 hw.1 36 rfl rfl 34 (by decide) (cx.1.2.2.2.2 _ mm_4_57) (fun _ h => h) rfl hdg kk
theorem gf_X8_221 (cx : Cx p s m args c cc RX8 nL D cI cZ) (hw : Wd D a cI cZ s f u H locs) (hdg : decode cc pc = .ok (.getfield 221, 3)) (kk : W p l e R s m args below meth c H locs cells slots Q (F0 m (pc + 3) ls (.int (f 36 35) :: rest))) : W p l e R s m args below meth c H locs cells slots Q (F0 m pc ls (.ref (a 36) :: rest)) := va_get (D := D) (ci := 8) (v := .int (f 36 35)) (C := RX8) (T := TX8) (N := 39) cx.1.1 cx.1.2.1 cx.1.2.2.2.2 uin_X8 cx.1.2.2.2.1 cx.2 hw.1 36 rfl rfl 35 (by decide) (cx.1.2.2.2.2 _ mm_4_58) (fun _ h => h) rfl hdg kk
theorem pf_X8_221 {x : Int32} (cx : Cx p s m args c cc RX8 nL D cI cZ) (hw : Wd D a cI cZ s f u H locs) (hdg : decode cc pc = .ok (.putfield 221, 3)) (kk : ∀ (H : Heap) (locs : List Loc), Wd D a cI cZ s (up f 36 (upd (f 36) 35 x)) u H locs → W p l e R s m args below meth c H locs cells slots Q (F0 m (pc + 3) ls rest)) : W p l e R s m args below meth c H locs cells slots Q (F0 m pc ls (.int x :: .ref (a 36) :: rest)) := va_put (D := D) (ci := 8) (v := .int x) (ty := .int) (C := RX8) (T := TX8) (N := 39) cx.1.1 cx.1.2.1 cx.1.2.2.2.2 uin_X8 tyX8 tyX8_ok nmX8 cx.1.2.2.2.1 cx.2 hw.1 hw.2.1 hw.2.2 36 rfl rfl 35 (by decide) (cx.1.2.2.2.2 _ mm_4_58) (fun _ h => h) rfl (by decide +kernel) rfl rfl (Nat.le_of_ble_eq_true rfl) hdg (fun H1 locs1 hP hD hS => kk H1 locs1 ⟨hP, hD, hS⟩)
theorem gf_X8_92 (cx : Cx p s m args c cc RX8 nL D cI cZ) (hw : Wd D a cI cZ s f u H locs) (hdg : decode cc pc = .ok (.getfield 92, 3)) (kk : W p l e R s m args below meth c H locs cells slots Q (F0 m (pc + 3) ls (.ref (a 60) :: rest))) : W p l e R s m args below meth c H locs cells slots Q (F0 m pc ls (.ref (a 36) :: rest)) := va_get (D := D) (ci := 8) (v := .ref (a 60)) (C := RX8) (T := TX8) (N := 39) cx.1.1 cx.1.2.1 cx.1.2.2.2.2 uin_X8 cx.1.2.2.2.1 cx.2 hw.1 36 rfl rfl 36 (by decide) (cx.1.2.2.2.2 _ mm_4_59) (fun _ h => h) rfl hdg kk
theorem gf_X8_224 (cx : Cx p s m args c cc RX8 nL D cI cZ) (hw : Wd D a cI cZ s f u H locs) (hdg : decode cc pc = .ok (.getfield 224, 3)) (kk : W p l e R s m args below meth c H locs cells slots Q (F0 m (pc + 3) ls (.int (f 36 37) :: rest))) : W p l e R s m args below meth c H locs cells slots Q (F0 m pc ls (.ref (a 36) :: rest)) := va_get (D := D) (ci := 8) (v := .int (f 36 37)) (C := RX8) (T := TX8) (N := 39) cx.1.1 cx.1.2.1 cx.1.2.2.2.2 uin_X8 cx.1.2.2.2.1 cx.2 hw.1 36 rfl rfl 37 (by decide) (cx.1.2.2.2.2 _ mm_4_60) (fun _ h => h) rfl hdg kk
theorem pf_X8_224 {x : Int32} (cx : Cx p s m args c cc RX8 nL D cI cZ) (hw : Wd D a cI cZ s f u H locs) (hdg : decode cc pc = .ok (.putfield 224, 3)) (kk : ∀ (H : Heap) (locs : List Loc), Wd D a cI cZ s (up f 36 (upd (f 36) 37 x)) u H locs → W p l e R s m args below meth c H locs cells slots Q (F0 m (pc + 3) ls rest)) : W p l e R s m args below meth c H locs cells slots Q (F0 m pc ls (.int x :: .ref (a 36) :: rest)) := va_put (D := D) (ci := 8) (v := .int x) (ty := .int) (C := RX8) (T := TX8) (N := 39) cx.1.1 cx.1.2.1 cx.1.2.2.2.2 uin_X8 tyX8 tyX8_ok nmX8 cx.1.2.2.2.1 cx.2 hw.1 hw.2.1 hw.2.2 36 rfl rfl 37 (by decide) (cx.1.2.2.2.2 _ mm_4_60) (fun _ h => h) rfl (by decide +kernel) rfl rfl (Nat.le_of_ble_eq_true rfl) hdg (fun H1 locs1 hP hD hS => kk H1 locs1 ⟨hP, hD, hS⟩)
theorem gf_X8_227 (cx : Cx p s m args c cc RX8 nL D cI cZ) (hw : Wd D a cI cZ s f u H locs) (hdg : decode cc pc = .ok (.getfield 227, 3)) (kk : W p l e R s m args below meth c H locs cells slots Q (F0 m (pc + 3) ls (.long (u 36 38) :: rest))) : W p l e R s m args below meth c H locs cells slots Q (F0 m pc ls (.ref (a 36) :: rest)) := va_get (D := D) (ci := 8) (v := .long (u 36 38)) (C := RX8) (T := TX8) (N := 39) cx.1.1 cx.1.2.1 cx.1.2.2.2.2 uin_X8 cx.1.2.2.2.1 cx.2 hw.1 36 rfl rfl 38 (by decide) (cx.1.2.2.2.2 _ mm_4_61) (fun _ h => h) rfl hdg kk
theorem pf_X8_227 {x : Int64} (cx : Cx p s m args c cc RX8 nL D cI cZ) (hw : Wd D a cI cZ s f u H locs) (hdg : decode cc pc = .ok (.putfield 227, 3)) (kk : ∀ (H : Heap) (locs : List Loc), Wd D a cI cZ s f (upL u 36 38 x) H locs → W p l e R s m args below meth c H locs cells slots Q (F0 m (pc + 3) ls rest)) : W p l e R s m args below meth c H locs cells slots Q (F0 m pc ls (.long x :: .ref (a 36) :: rest)) := va_put (D := D) (ci := 8) (v := .long x) (ty := .long) (C := RX8) (T := TX8) (N := 39) cx.1.1 cx.1.2.1 cx.1.2.2.2.2 uin_X8 tyX8 tyX8_ok nmX8 cx.1.2.2.2.1 cx.2 hw.1 hw.2.1 hw.2.2 36 rfl rfl 38 (by decide) (cx.1.2.2.2.2 _ mm_4_61) (fun _ h => h) rfl (by decide +kernel) rfl rfl (Nat.le_of_ble_eq_true rfl) hdg (fun H1 locs1 hP hD hS => kk H1 locs1 ⟨hP, hD, hS⟩)
end ROWS
theorem lk_X1_55 : LkS RX1 55 yJ7_fill_53178 cJ7_fill_53178 4 none 2 := ⟨mm_1_27, mm_1_28, mm_1_3, mm_1_29, by decide +kernel, by decide +kernel, by decide +kernel⟩
theorem lk_L_13 : LkV RL 13 RX7 yX7_empty cX7_empty 3 (some .int) 2 := ⟨mm_2_17, mm_2_18, mm_2_19, mm_1_1, mm_2_20, rfl, by decide +kernel, by decide +kernel, by decide +kernel⟩
theorem lk_X7_75 : LkS RX7 75 yX7_isFromTo cX7_isFromTo 3 (some .boolean) 3 := ⟨mm_2_22, mm_2_23, mm_1_1, mm_2_24, by decide +kernel, by decide +kernel, by decide +kernel⟩
theorem lk_X7_79 : LkS RX7 79 yX7_isArm cX7_isArm 1 (some .boolean) 1 := ⟨mm_2_25, mm_2_26, mm_1_1, mm_2_27, by decide +kernel, by decide +kernel, by decide +kernel⟩
theorem lk_L_18 : LkV RL 18 RX7 yX7_hold cX7_hold 3 (some .int) 2 := ⟨mm_2_28, mm_2_29, mm_2_30, mm_1_1, mm_2_31, rfl, by decide +kernel, by decide +kernel, by decide +kernel⟩
theorem lk_X7_83 : LkS RX7 83 yX7_isBorne cX7_isBorne 1 (some .boolean) 1 := ⟨mm_2_32, mm_2_33, mm_1_1, mm_2_34, by decide +kernel, by decide +kernel, by decide +kernel⟩
theorem lk_X7_86 : LkV RX7 86 RX1 yX1_addHold cX1_addHold 3 (some .int) 2 := ⟨mm_2_35, mm_2_36, mm_2_37, mm_1_2, mm_2_38, rfl, by decide +kernel, by decide +kernel, by decide +kernel⟩
theorem lk_L_22 : LkV RL 22 RX7 yX7_slot cX7_slot 4 (some .int) 3 := ⟨mm_2_39, mm_2_40, mm_2_41, mm_1_1, mm_2_42, rfl, by decide +kernel, by decide +kernel, by decide +kernel⟩
theorem lk_X7_90 : LkV RX7 90 RX1 yX1_hasHold cX1_hasHold 2 (some .boolean) 1 := ⟨mm_2_43, mm_2_44, mm_2_45, mm_1_2, mm_2_46, rfl, by decide +kernel, by decide +kernel, by decide +kernel⟩
theorem lk_X7_93 : LkV RX7 93 RX1 yX1_lastArm cX1_lastArm 3 (some .int) 1 := ⟨mm_2_47, mm_2_48, mm_2_49, mm_1_2, mm_2_50, rfl, by decide +kernel, by decide +kernel, by decide +kernel⟩
theorem lk_X1_65 : LkS RX1 65 yX1_placeOf cX1_placeOf 2 (some .int) 2 := ⟨mm_2_51, mm_2_52, mm_1_2, mm_2_53, by decide +kernel, by decide +kernel, by decide +kernel⟩
theorem lk_X7_97 : LkV RX7 97 RX1 yX1_addSlot cX1_addSlot 5 (some .int) 3 := ⟨mm_2_54, mm_2_55, mm_2_56, mm_1_2, mm_2_57, rfl, by decide +kernel, by decide +kernel, by decide +kernel⟩
theorem lk_L_27 : LkV RL 27 RX7 yX7_apart cX7_apart 4 (some .int) 3 := ⟨mm_2_58, mm_2_59, mm_2_60, mm_1_1, mm_2_61, rfl, by decide +kernel, by decide +kernel, by decide +kernel⟩
theorem lk_X7_101 : LkS RX7 101 yX7_isKind cX7_isKind 1 (some .boolean) 1 := ⟨mm_2_62, mm_2_63, mm_1_1, mm_2_64, by decide +kernel, by decide +kernel, by decide +kernel⟩
theorem lk_X7_104 : LkV RX7 104 RX1 yX1_setDistance cX1_setDistance 5 (some .int) 3 := ⟨mm_2_65, mm_2_66, mm_2_67, mm_1_2, mm_2_68, rfl, by decide +kernel, by decide +kernel, by decide +kernel⟩
theorem lk_L_31 : LkV RL 31 RX7 yX7_item cX7_item 4 (some .int) 3 := ⟨mm_2_69, mm_2_70, mm_2_71, mm_1_1, mm_2_72, rfl, by decide +kernel, by decide +kernel, by decide +kernel⟩
theorem lk_X7_107 : LkS RX7 107 yX7_isStop cX7_isStop 1 (some .boolean) 1 := ⟨mm_2_73, mm_2_74, mm_1_1, mm_2_75, by decide +kernel, by decide +kernel, by decide +kernel⟩
theorem lk_X7_110 : LkV RX7 110 RX1 yX1_addItem cX1_addItem 4 (some .int) 3 := ⟨mm_2_76, mm_2_77, mm_2_78, mm_1_2, mm_2_79, rfl, by decide +kernel, by decide +kernel, by decide +kernel⟩
theorem lk_X1_69 : LkV RX1 69 RX1 yX1_rankByWeight cX1_rankByWeight 4 none 2 := ⟨mm_2_80, mm_2_82, ms_0, mm_1_2, mm_2_83, rfl, by decide +kernel, by decide +kernel, by decide +kernel⟩
theorem lk_L_35 : LkV RL 35 RX7 yX7_row cX7_row 3 (some .int) 2 := ⟨mm_2_84, mm_2_85, mm_2_86, mm_1_1, mm_2_87, rfl, by decide +kernel, by decide +kernel, by decide +kernel⟩
theorem lk_X7_113 : LkV RX7 113 RX0 yX0_addRow cX0_addRow 3 (some .int) 2 := ⟨mm_2_88, mm_2_89, mm_2_90, mm_1_4, mm_2_91, rfl, by decide +kernel, by decide +kernel, by decide +kernel⟩
theorem lk_L_39 : LkV RL 39 RX7 yX7_tank cX7_tank 3 (some .int) 2 := ⟨mm_2_92, mm_2_93, mm_2_94, mm_1_1, mm_2_95, rfl, by decide +kernel, by decide +kernel, by decide +kernel⟩
theorem lk_X7_116 : LkV RX7 116 RX6 yX6_addTank cX6_addTank 3 (some .int) 2 := ⟨mm_2_96, mm_2_97, mm_2_98, mm_1_5, mm_2_99, rfl, by decide +kernel, by decide +kernel, by decide +kernel⟩
theorem lk_L_43 : LkV RL 43 RX7 yX7_person cX7_person 3 (some .int) 1 := ⟨mm_2_100, mm_2_101, mm_2_102, mm_1_1, mm_2_103, rfl, by decide +kernel, by decide +kernel, by decide +kernel⟩
theorem lk_L_48 : LkV RL 48 RX7 yX7_seat cX7_seat 4 (some .int) 2 := ⟨mm_2_104, mm_2_105, mm_2_106, mm_1_1, mm_2_107, rfl, by decide +kernel, by decide +kernel, by decide +kernel⟩
theorem lk_L_52 : LkV RL 52 RX7 yX7_fuel cX7_fuel 4 (some .int) 2 := ⟨mm_2_108, mm_2_109, mm_2_110, mm_1_1, mm_2_111, rfl, by decide +kernel, by decide +kernel, by decide +kernel⟩
theorem lk_L_56 : LkV RL 56 RX7 yX7_point cX7_point 6 (some .int) 4 := ⟨mm_2_112, mm_2_113, mm_2_114, mm_1_1, mm_2_115, rfl, by decide +kernel, by decide +kernel, by decide +kernel⟩
theorem lk_X7_141 : LkS RX7 141 yX7_isPhase cX7_isPhase 1 (some .boolean) 1 := ⟨mm_2_116, mm_2_117, mm_1_1, mm_2_118, by decide +kernel, by decide +kernel, by decide +kernel⟩
theorem lk_X7_144 : LkV RX7 144 RX7 yX7_limitsOf cX7_limitsOf 2 (some (.object "TrimSheet$Limits")) 1 := ⟨mm_2_119, mm_2_121, ms_1, mm_1_1, mm_2_122, rfl, by decide +kernel, by decide +kernel, by decide +kernel⟩
theorem lk_X7_148 : LkV RX7 148 RX3 yX3_lastWeight cX3_lastWeight 1 (some .int) 0 := ⟨mm_2_123, mm_2_124, mm_2_125, mm_1_6, mm_2_126, rfl, by decide +kernel, by decide +kernel, by decide +kernel⟩
theorem lk_X7_153 : LkV RX7 153 RX3 yX3_addPoint cX3_addPoint 4 (some .int) 3 := ⟨mm_2_128, mm_2_129, mm_2_130, mm_1_6, mm_2_131, rfl, by decide +kernel, by decide +kernel, by decide +kernel⟩
theorem lk_L_61 : LkV RL 61 RX7 yX7_wipe cX7_wipe 4 (some .int) 1 := ⟨mm_2_132, mm_2_133, mm_2_134, mm_1_1, mm_2_135, rfl, by decide +kernel, by decide +kernel, by decide +kernel⟩
theorem lk_L_65 : LkV RL 65 RX7 yX7_fits cX7_fits 4 (some .int) 3 := ⟨mm_2_136, mm_2_137, mm_2_138, mm_1_1, mm_2_139, rfl, by decide +kernel, by decide +kernel, by decide +kernel⟩
theorem lk_X7_159 : LkV RX7 159 RX1 yX1_hasItem cX1_hasItem 2 (some .boolean) 1 := ⟨mm_2_140, mm_2_141, mm_2_142, mm_1_2, mm_2_143, rfl, by decide +kernel, by decide +kernel, by decide +kernel⟩
theorem lk_X7_162 : LkV RX7 162 RX1 yX1_hasSlot cX1_hasSlot 3 (some .boolean) 2 := ⟨mm_2_144, mm_2_145, mm_2_146, mm_1_2, mm_2_147, rfl, by decide +kernel, by decide +kernel, by decide +kernel⟩
theorem lk_X1_61 : LkV RX1 61 RX1 yX1_hasHold cX1_hasHold 2 (some .boolean) 1 := ⟨mm_2_148, mm_2_44, mm_2_45, mm_1_2, mm_2_46, rfl, by decide +kernel, by decide +kernel, by decide +kernel⟩
theorem lk_X7_166 : LkV RX7 166 RX1 yX1_isLoaded cX1_isLoaded 2 (some .boolean) 1 := ⟨mm_2_149, mm_2_150, mm_2_151, mm_1_2, mm_2_152, rfl, by decide +kernel, by decide +kernel, by decide +kernel⟩
theorem lk_X7_169 : LkS RX7 169 yX1_placeOf cX1_placeOf 2 (some .int) 2 := ⟨mm_2_153, mm_2_52, mm_1_2, mm_2_53, by decide +kernel, by decide +kernel, by decide +kernel⟩
theorem lk_X7_172 : LkV RX7 172 RX1 yX1_hindrance cX1_hindrance 5 (some .int) 2 := ⟨mm_2_154, mm_2_155, mm_2_156, mm_1_2, mm_2_157, rfl, by decide +kernel, by decide +kernel, by decide +kernel⟩
theorem lk_X1_80 : LkV RX1 80 RX1 yX1_weightInHold cX1_weightInHold 4 (some .int) 1 := ⟨mm_2_158, mm_2_159, mm_2_160, mm_1_2, mm_2_161, rfl, by decide +kernel, by decide +kernel, by decide +kernel⟩
theorem lk_X1_91 : LkV RX1 91 RX1 yX1_weightAt cX1_weightAt 3 (some .int) 1 := ⟨mm_2_162, mm_2_163, mm_2_164, mm_1_2, mm_2_165, rfl, by decide +kernel, by decide +kernel, by decide +kernel⟩
theorem lk_X1_84 : LkV RX1 84 RX1 yX1_isTooMuchForFloor cX1_isTooMuchForFloor 8 (some .boolean) 2 := ⟨mm_2_166, mm_2_168, ms_2, mm_1_2, mm_2_169, rfl, by decide +kernel, by decide +kernel, by decide +kernel⟩
theorem lk_X1_88 : LkV RX1 88 RX1 yX1_isTooNear cX1_isTooNear 8 (some .boolean) 2 := ⟨mm_2_170, mm_2_172, ms_3, mm_1_2, mm_2_173, rfl, by decide +kernel, by decide +kernel, by decide +kernel⟩
theorem lk_X1_94 : LkS RX1 94 yJ9_abs_0f7a4 cJ9_abs_0f7a4 1 (some .int) 1 := ⟨mm_2_174, mm_2_175, mm_1_11, mm_2_176, by decide +kernel, by decide +kernel, by decide +kernel⟩
theorem lk_L_69 : LkV RL 69 RX7 yX7_load cX7_load 5 (some .int) 3 := ⟨mm_2_177, mm_2_178, mm_2_179, mm_1_1, mm_2_180, rfl, by decide +kernel, by decide +kernel, by decide +kernel⟩
theorem lk_X7_175 : LkV RX7 175 RX7 yX7_fits cX7_fits 4 (some .int) 3 := ⟨mm_2_181, mm_2_137, mm_2_138, mm_1_1, mm_2_139, rfl, by decide +kernel, by decide +kernel, by decide +kernel⟩
theorem lk_X7_178 : LkV RX7 178 RX1 yX1_putIn cX1_putIn 3 none 2 := ⟨mm_2_182, mm_2_183, mm_2_184, mm_1_2, mm_2_185, rfl, by decide +kernel, by decide +kernel, by decide +kernel⟩
theorem lk_L_73 : LkV RL 73 RX7 yX7_unload cX7_unload 2 (some .int) 1 := ⟨mm_2_186, mm_2_187, mm_2_188, mm_1_1, mm_2_189, rfl, by decide +kernel, by decide +kernel, by decide +kernel⟩
theorem lk_X7_182 : LkV RX7 182 RX1 yX1_takeOut cX1_takeOut 3 none 1 := ⟨mm_2_190, mm_2_191, mm_2_192, mm_1_2, mm_2_193, rfl, by decide +kernel, by decide +kernel, by decide +kernel⟩
theorem lk_L_77 : LkV RL 77 RX7 yX7_where cX7_where 2 (some .int) 1 := ⟨mm_2_194, mm_2_195, mm_2_196, mm_1_1, mm_2_197, rfl, by decide +kernel, by decide +kernel, by decide +kernel⟩
theorem lk_L_81 : LkV RL 81 RX7 yX7_in cX7_in 3 (some .int) 2 := ⟨mm_2_198, mm_2_199, mm_2_200, mm_1_1, mm_2_201, rfl, by decide +kernel, by decide +kernel, by decide +kernel⟩
theorem lk_L_85 : LkV RL 85 RX7 yX7_about cX7_about 3 (some .int) 2 := ⟨mm_2_202, mm_2_203, mm_2_204, mm_1_1, mm_2_205, rfl, by decide +kernel, by decide +kernel, by decide +kernel⟩
theorem lk_X7_192 : LkV RX7 192 RX1 yX1_weightInHold cX1_weightInHold 4 (some .int) 1 := ⟨mm_2_206, mm_2_159, mm_2_160, mm_1_2, mm_2_161, rfl, by decide +kernel, by decide +kernel, by decide +kernel⟩
theorem lk_X7_195 : LkV RX7 195 RX1 yX1_itemsInHold cX1_itemsInHold 4 (some .int) 1 := ⟨mm_2_207, mm_2_208, mm_2_209, mm_1_2, mm_2_210, rfl, by decide +kernel, by decide +kernel, by decide +kernel⟩
theorem lk_X7_198 : LkV RX7 198 RX1 yX1_heaviestPair cX1_heaviestPair 5 (some .int) 1 := ⟨mm_2_211, mm_2_212, mm_2_213, mm_1_2, mm_2_214, rfl, by decide +kernel, by decide +kernel, by decide +kernel⟩
theorem lk_X1_99 : LkS RX1 99 yJ9_max_7cf53 cJ9_max_7cf53 2 (some .int) 2 := ⟨mm_2_215, mm_2_216, mm_1_11, mm_2_217, by decide +kernel, by decide +kernel, by decide +kernel⟩
theorem lk_L_89 : LkV RL 89 RX7 yX7_weight cX7_weight 2 (some .int) 1 := ⟨mm_2_218, mm_2_219, mm_2_220, mm_1_1, mm_2_221, rfl, by decide +kernel, by decide +kernel, by decide +kernel⟩
theorem lk_X7_201 : LkV RX7 201 RX7 yX7_dryWeight cX7_dryWeight 1 (some .int) 0 := ⟨mm_2_222, mm_2_224, ms_4, mm_1_1, mm_2_225, rfl, by decide +kernel, by decide +kernel, by decide +kernel⟩
theorem lk_X7_277 : LkV RX7 277 RX1 yX1_loadedWeight cX1_loadedWeight 3 (some .int) 0 := ⟨mm_2_226, mm_2_227, mm_2_228, mm_1_2, mm_2_229, rfl, by decide +kernel, by decide +kernel, by decide +kernel⟩
theorem lk_X1_73 : LkV RX1 73 RX1 yX1_isLoaded cX1_isLoaded 2 (some .boolean) 1 := ⟨mm_2_230, mm_2_150, mm_2_151, mm_1_2, mm_2_152, rfl, by decide +kernel, by decide +kernel, by decide +kernel⟩
theorem lk_X7_280 : LkV RX7 280 RX0 yX0_takenWeight cX0_takenWeight 1 (some .int) 0 := ⟨mm_2_231, mm_2_232, mm_2_233, mm_1_4, mm_2_234, rfl, by decide +kernel, by decide +kernel, by decide +kernel⟩
theorem lk_X0_28 : LkV RX0 28 RX0 yX0_passengers cX0_passengers 3 (some .int) 0 := ⟨mm_2_235, mm_2_236, mm_2_237, mm_1_4, mm_2_238, rfl, by decide +kernel, by decide +kernel, by decide +kernel⟩
theorem lk_X7_204 : LkV RX7 204 RX6 yX6_totalAmount cX6_totalAmount 3 (some .int) 0 := ⟨mm_2_239, mm_3_0, mm_3_1, mm_1_5, mm_3_2, rfl, by decide +kernel, by decide +kernel, by decide +kernel⟩
theorem lk_L_93 : LkV RL 93 RX7 yX7_moment cX7_moment 2 (some .long) 1 := ⟨mm_3_3, mm_3_4, mm_3_5, mm_1_1, mm_3_6, rfl, by decide +kernel, by decide +kernel, by decide +kernel⟩
theorem lk_X7_207 : LkV RX7 207 RX7 yX7_dryMoment cX7_dryMoment 1 (some .long) 0 := ⟨mm_3_7, mm_3_9, ms_5, mm_1_1, mm_3_10, rfl, by decide +kernel, by decide +kernel, by decide +kernel⟩
theorem lk_X7_283 : LkV RX7 283 RX1 yX1_loadedMoment cX1_loadedMoment 4 (some .long) 0 := ⟨mm_3_11, mm_3_12, mm_3_13, mm_1_2, mm_3_14, rfl, by decide +kernel, by decide +kernel, by decide +kernel⟩
theorem lk_X1_102 : LkV RX1 102 RX1 yX1_leanAt cX1_leanAt 4 (some .long) 3 := ⟨mm_3_15, mm_3_16, mm_3_17, mm_1_2, mm_3_18, rfl, by decide +kernel, by decide +kernel, by decide +kernel⟩
theorem lk_X7_286 : LkV RX7 286 RX0 yX0_takenMoment cX0_takenMoment 4 (some .long) 0 := ⟨mm_3_19, mm_3_20, mm_3_21, mm_1_4, mm_3_22, rfl, by decide +kernel, by decide +kernel, by decide +kernel⟩
theorem lk_X0_32 : LkV RX0 32 RX0 yX0_leanIn cX0_leanIn 3 (some .long) 2 := ⟨mm_3_23, mm_3_25, ms_6, mm_1_4, mm_3_26, rfl, by decide +kernel, by decide +kernel, by decide +kernel⟩
theorem lk_X7_211 : LkV RX7 211 RX6 yX6_momentLeft cX6_momentLeft 7 (some .long) 1 := ⟨mm_3_27, mm_3_28, mm_3_29, mm_1_5, mm_3_30, rfl, by decide +kernel, by decide +kernel, by decide +kernel⟩
theorem lk_X6_25 : LkS RX6 25 yJ9_min_7cf53 cJ9_min_7cf53 2 (some .int) 2 := ⟨mm_3_31, mm_3_32, mm_1_11, mm_3_33, by decide +kernel, by decide +kernel, by decide +kernel⟩
theorem lk_L_98 : LkV RL 98 RX7 yX7_burnt cX7_burnt 3 (some .long) 2 := ⟨mm_3_35, mm_3_36, mm_3_37, mm_1_1, mm_3_38, rfl, by decide +kernel, by decide +kernel, by decide +kernel⟩
theorem lk_L_103 : LkV RL 103 RX7 yX7_within cX7_within 3 (some .int) 1 := ⟨mm_3_39, mm_3_40, mm_3_41, mm_1_1, mm_3_42, rfl, by decide +kernel, by decide +kernel, by decide +kernel⟩
theorem lk_X7_217 : LkV RX7 217 RX7 yX7_weight cX7_weight 2 (some .int) 1 := ⟨mm_3_43, mm_2_219, mm_2_220, mm_1_1, mm_2_221, rfl, by decide +kernel, by decide +kernel, by decide +kernel⟩
theorem lk_X7_220 : LkV RX7 220 RX7 yX7_moment cX7_moment 2 (some .long) 1 := ⟨mm_3_44, mm_3_4, mm_3_5, mm_1_1, mm_3_6, rfl, by decide +kernel, by decide +kernel, by decide +kernel⟩
theorem lk_X7_223 : LkV RX7 223 RX3 yX3_judge cX3_judge 5 (some .int) 2 := ⟨mm_3_45, mm_3_46, mm_3_47, mm_1_6, mm_3_48, rfl, by decide +kernel, by decide +kernel, by decide +kernel⟩
theorem lk_X3_25 : LkV RX3 25 RX3 yX3_lastWeight cX3_lastWeight 1 (some .int) 0 := ⟨mm_3_49, mm_2_124, mm_2_125, mm_1_6, mm_2_126, rfl, by decide +kernel, by decide +kernel, by decide +kernel⟩
theorem lk_X3_29 : LkV RX3 29 RX3 yX3_lineAt cX3_lineAt 3 (some .int) 1 := ⟨mm_3_50, mm_3_51, mm_3_52, mm_1_6, mm_3_53, rfl, by decide +kernel, by decide +kernel, by decide +kernel⟩
theorem lk_X3_33 : LkV RX3 33 RX3 yX3_excess cX3_excess 12 (some .long) 4 := ⟨mm_3_54, mm_3_55, mm_3_56, mm_1_6, mm_3_57, rfl, by decide +kernel, by decide +kernel, by decide +kernel⟩
theorem lk_X3_37 : LkV RX3 37 RX3 yX3_rise cX3_rise 3 (some .long) 2 := ⟨mm_3_58, mm_3_59, mm_3_60, mm_1_6, mm_3_61, rfl, by decide +kernel, by decide +kernel, by decide +kernel⟩
theorem lk_L_107 : LkV RL 107 RX7 yX7_safe cX7_safe 2 (some .int) 1 := ⟨mm_3_62, mm_3_63, mm_3_64, mm_1_1, mm_3_65, rfl, by decide +kernel, by decide +kernel, by decide +kernel⟩
theorem lk_X7_227 : LkV RX7 227 RX2 yX2_firstWrong cX2_firstWrong 14 (some .int) 3 := ⟨mm_3_66, mm_3_67, mm_3_68, mm_1_7, mm_3_69, rfl, by decide +kernel, by decide +kernel, by decide +kernel⟩
theorem lk_X2_27 : LkV RX2 27 RX6 yX6_totalAmount cX6_totalAmount 3 (some .int) 0 := ⟨mm_3_70, mm_3_0, mm_3_1, mm_1_5, mm_3_2, rfl, by decide +kernel, by decide +kernel, by decide +kernel⟩
theorem lk_X2_33 : LkS RX2 33 yJ9_min_7cf53 cJ9_min_7cf53 2 (some .int) 2 := ⟨mm_3_71, mm_3_32, mm_1_11, mm_3_33, by decide +kernel, by decide +kernel, by decide +kernel⟩
theorem lk_X2_39 : LkV RX2 39 RX3 yX3_spans cX3_spans 2 (some .boolean) 1 := ⟨mm_3_72, mm_3_73, mm_3_74, mm_1_6, mm_3_75, rfl, by decide +kernel, by decide +kernel, by decide +kernel⟩
theorem lk_X2_45 : LkV RX2 45 RX3 yX3_lineAt cX3_lineAt 3 (some .int) 1 := ⟨mm_3_76, mm_3_51, mm_3_52, mm_1_6, mm_3_53, rfl, by decide +kernel, by decide +kernel, by decide +kernel⟩
theorem lk_X2_53 : LkV RX2 53 RX6 yX6_nextDryMoment cX6_nextDryMoment 4 (some .int) 1 := ⟨mm_3_77, mm_3_78, mm_3_79, mm_1_5, mm_3_80, rfl, by decide +kernel, by decide +kernel, by decide +kernel⟩
theorem lk_X2_56 : LkV RX2 56 RX2 yX2_firstOutside cX2_firstOutside 6 (some .int) 3 := ⟨mm_3_81, mm_3_83, ms_7, mm_1_7, mm_3_84, rfl, by decide +kernel, by decide +kernel, by decide +kernel⟩
theorem lk_X2_60 : LkV RX2 60 RX2 yX2_firstWithoutRoom cX2_firstWithoutRoom 10 (some .int) 4 := ⟨mm_3_85, mm_3_87, ms_8, mm_1_7, mm_3_88, rfl, by decide +kernel, by decide +kernel, by decide +kernel⟩
theorem lk_X2_64 : LkV RX2 64 RX2 yX2_room cX2_room 7 (some .long) 3 := ⟨mm_3_89, mm_3_91, ms_9, mm_1_7, mm_3_92, rfl, by decide +kernel, by decide +kernel, by decide +kernel⟩
theorem lk_X2_75 : LkV RX2 75 RX6 yX6_momentLeft cX6_momentLeft 7 (some .long) 1 := ⟨mm_3_93, mm_3_28, mm_3_29, mm_1_5, mm_3_30, rfl, by decide +kernel, by decide +kernel, by decide +kernel⟩
theorem lk_X2_82 : LkV RX2 82 RX3 yX3_excess cX3_excess 12 (some .long) 4 := ⟨mm_3_94, mm_3_55, mm_3_56, mm_1_6, mm_3_57, rfl, by decide +kernel, by decide +kernel, by decide +kernel⟩
theorem lk_X2_68 : LkV RX2 68 RX2 yX2_isHollow cX2_isHollow 3 (some .boolean) 2 := ⟨mm_3_95, mm_3_97, ms_10, mm_1_7, mm_3_98, rfl, by decide +kernel, by decide +kernel, by decide +kernel⟩
theorem lk_X2_89 : LkV RX2 89 RX3 yX3_rise cX3_rise 3 (some .long) 2 := ⟨mm_3_99, mm_3_59, mm_3_60, mm_1_6, mm_3_61, rfl, by decide +kernel, by decide +kernel, by decide +kernel⟩
theorem lk_X2_72 : LkV RX2 72 RX2 yX2_bottom cX2_bottom 9 (some .int) 4 := ⟨mm_3_100, mm_3_102, ms_11, mm_1_7, mm_3_103, rfl, by decide +kernel, by decide +kernel, by decide +kernel⟩
theorem lk_L_111 : LkV RL 111 RX7 yX7_wrong cX7_wrong 2 (some .int) 1 := ⟨mm_3_104, mm_3_105, mm_3_106, mm_1_1, mm_3_107, rfl, by decide +kernel, by decide +kernel, by decide +kernel⟩
theorem lk_L_115 : LkV RL 115 RX7 yX7_pushed cX7_pushed 2 (some .int) 1 := ⟨mm_3_108, mm_3_109, mm_3_110, mm_1_1, mm_3_111, rfl, by decide +kernel, by decide +kernel, by decide +kernel⟩
theorem lk_X7_231 : LkV RX7 231 RX1 yX1_pushedInAll cX1_pushedInAll 4 (some .int) 1 := ⟨mm_3_112, mm_3_113, mm_3_114, mm_1_2, mm_3_115, rfl, by decide +kernel, by decide +kernel, by decide +kernel⟩
theorem lk_X1_106 : LkV RX1 106 RX1 yX1_pushedInHold cX1_pushedInHold 8 (some .int) 2 := ⟨mm_3_116, mm_3_117, mm_3_118, mm_1_2, mm_3_119, rfl, by decide +kernel, by decide +kernel, by decide +kernel⟩
theorem lk_X1_109 : LkS RX1 109 yJ6_bitCount_0f7a4 cJ6_bitCount_0f7a4 1 (some .int) 1 := ⟨mm_3_120, mm_3_121, mm_1_12, mm_3_122, by decide +kernel, by decide +kernel, by decide +kernel⟩
theorem lk_L_119 : LkV RL 119 RX7 yX7_arrive cX7_arrive 2 (some .int) 1 := ⟨mm_3_126, mm_3_127, mm_3_128, mm_1_1, mm_3_129, rfl, by decide +kernel, by decide +kernel, by decide +kernel⟩
theorem lk_X7_234 : LkV RX7 234 RX1 yX1_takeOutAllOf cX1_takeOutAllOf 4 (some .int) 1 := ⟨mm_3_130, mm_3_131, mm_3_132, mm_1_2, mm_3_133, rfl, by decide +kernel, by decide +kernel, by decide +kernel⟩
theorem lk_X1_76 : LkV RX1 76 RX1 yX1_takeOut cX1_takeOut 3 none 1 := ⟨mm_3_134, mm_2_191, mm_2_192, mm_1_2, mm_2_193, rfl, by decide +kernel, by decide +kernel, by decide +kernel⟩
theorem lk_L_123 : LkV RL 123 RX7 yX7_loadAll cX7_loadAll 2 (some .int) 1 := ⟨mm_3_135, mm_3_136, mm_3_137, mm_1_1, mm_3_138, rfl, by decide +kernel, by decide +kernel, by decide +kernel⟩
theorem lk_X7_237 : LkV RX7 237 RX7 yX7_lean cX7_lean 2 (some .long) 1 := ⟨mm_3_139, mm_3_141, ms_12, mm_1_1, mm_3_142, rfl, by decide +kernel, by decide +kernel, by decide +kernel⟩
theorem lk_X7_240 : LkV RX7 240 RX1 yX1_loadHeaviestFirst cX1_loadHeaviestFirst 10 (some .int) 2 := ⟨mm_3_143, mm_3_144, mm_3_145, mm_1_2, mm_3_146, rfl, by decide +kernel, by decide +kernel, by decide +kernel⟩
theorem lk_X1_114 : LkV RX1 114 RX1 yX1_nearestPlace cX1_nearestPlace 14 (some .int) 3 := ⟨mm_3_147, mm_3_149, ms_13, mm_1_2, mm_3_150, rfl, by decide +kernel, by decide +kernel, by decide +kernel⟩
theorem lk_X1_121 : LkS RX1 121 yJ9_abs_067f4 cJ9_abs_067f4 2 (some .long) 1 := ⟨mm_3_151, mm_3_152, mm_1_11, mm_3_153, by decide +kernel, by decide +kernel, by decide +kernel⟩
theorem lk_X1_124 : LkV RX1 124 RX1 yX1_hindrance cX1_hindrance 5 (some .int) 2 := ⟨mm_3_154, mm_2_155, mm_2_156, mm_1_2, mm_2_157, rfl, by decide +kernel, by decide +kernel, by decide +kernel⟩
theorem lk_X1_118 : LkV RX1 118 RX1 yX1_putIn cX1_putIn 3 none 2 := ⟨mm_3_155, mm_2_183, mm_2_184, mm_1_2, mm_2_185, rfl, by decide +kernel, by decide +kernel, by decide +kernel⟩
theorem lk_L_127 : LkV RL 127 RX7 yX7_better cX7_better 5 (some .int) 1 := ⟨mm_3_156, mm_3_157, mm_3_158, mm_1_1, mm_3_159, rfl, by decide +kernel, by decide +kernel, by decide +kernel⟩
theorem lk_X7_243 : LkV RX7 243 RX5 yX5_doFirstGoodSwap cX5_doFirstGoodSwap 4 (some .boolean) 1 := ⟨mm_3_160, mm_3_161, mm_3_162, mm_1_8, mm_3_163, rfl, by decide +kernel, by decide +kernel, by decide +kernel⟩
theorem lk_X5_21 : LkV RX5 21 RX1 yX1_isLoaded cX1_isLoaded 2 (some .boolean) 1 := ⟨mm_3_164, mm_2_150, mm_2_151, mm_1_2, mm_2_152, rfl, by decide +kernel, by decide +kernel, by decide +kernel⟩
theorem lk_X5_25 : LkV RX5 25 RX5 yX5_doFirstGoodSwapOf cX5_doFirstGoodSwapOf 5 (some .boolean) 2 := ⟨mm_3_165, mm_3_167, ms_14, mm_1_8, mm_3_168, rfl, by decide +kernel, by decide +kernel, by decide +kernel⟩
theorem lk_X5_29 : LkV RX5 29 RX5 yX5_isNearerSwapped cX5_isNearerSwapped 11 (some .boolean) 3 := ⟨mm_3_169, mm_3_171, ms_15, mm_1_8, mm_3_172, rfl, by decide +kernel, by decide +kernel, by decide +kernel⟩
theorem lk_X5_47 : LkS RX5 47 yJ9_abs_067f4 cJ9_abs_067f4 2 (some .long) 1 := ⟨mm_3_173, mm_3_152, mm_1_11, mm_3_153, by decide +kernel, by decide +kernel, by decide +kernel⟩
theorem lk_X5_33 : LkV RX5 33 RX5 yX5_swapIfBothFit cX5_swapIfBothFit 6 (some .boolean) 2 := ⟨mm_3_174, mm_3_176, ms_16, mm_1_8, mm_3_177, rfl, by decide +kernel, by decide +kernel, by decide +kernel⟩
theorem lk_X5_53 : LkV RX5 53 RX1 yX1_takeOut cX1_takeOut 3 none 1 := ⟨mm_3_178, mm_2_191, mm_2_192, mm_1_2, mm_2_193, rfl, by decide +kernel, by decide +kernel, by decide +kernel⟩
theorem lk_X5_57 : LkV RX5 57 RX1 yX1_hindrance cX1_hindrance 5 (some .int) 2 := ⟨mm_3_179, mm_2_155, mm_2_156, mm_1_2, mm_2_157, rfl, by decide +kernel, by decide +kernel, by decide +kernel⟩
theorem lk_X5_61 : LkV RX5 61 RX1 yX1_putIn cX1_putIn 3 none 2 := ⟨mm_3_180, mm_2_183, mm_2_184, mm_1_2, mm_2_185, rfl, by decide +kernel, by decide +kernel, by decide +kernel⟩
theorem lk_X7_247 : LkV RX7 247 RX5 yX5_doFirstGoodMove cX5_doFirstGoodMove 5 (some .boolean) 2 := ⟨mm_3_181, mm_3_182, mm_3_183, mm_1_8, mm_3_184, rfl, by decide +kernel, by decide +kernel, by decide +kernel⟩
theorem lk_X5_65 : LkV RX5 65 RX5 yX5_moveIfGood cX5_moveIfGood 7 (some .boolean) 3 := ⟨mm_3_185, mm_3_187, ms_17, mm_1_8, mm_3_188, rfl, by decide +kernel, by decide +kernel, by decide +kernel⟩
theorem lk_X5_68 : LkV RX5 68 RX1 yX1_leanAt cX1_leanAt 4 (some .long) 3 := ⟨mm_3_189, mm_3_16, mm_3_17, mm_1_2, mm_3_18, rfl, by decide +kernel, by decide +kernel, by decide +kernel⟩
theorem lk_X5_72 : LkV RX5 72 RX5 yX5_firstGoodPlace cX5_firstGoodPlace 12 (some .int) 4 := ⟨mm_3_190, mm_3_192, ms_18, mm_1_8, mm_3_193, rfl, by decide +kernel, by decide +kernel, by decide +kernel⟩
theorem lk_X5_82 : LkS RX5 82 yX1_placeOf cX1_placeOf 2 (some .int) 2 := ⟨mm_3_194, mm_2_52, mm_1_2, mm_2_53, by decide +kernel, by decide +kernel, by decide +kernel⟩
theorem lk_L_131 : LkV RL 131 RX7 yX7_best cX7_best 2 (some .int) 1 := ⟨mm_3_195, mm_3_196, mm_3_197, mm_1_1, mm_3_198, rfl, by decide +kernel, by decide +kernel, by decide +kernel⟩
theorem lk_X7_251 : LkV RX7 251 RX4 yX4_gather cX4_gather 1 (some .boolean) 0 := ⟨mm_3_199, mm_3_200, mm_3_201, mm_1_9, mm_3_202, rfl, by decide +kernel, by decide +kernel, by decide +kernel⟩
theorem lk_X4_46 : LkV RX4 46 RX4 yX4_gatherWaiting cX4_gatherWaiting 2 (some .boolean) 0 := ⟨mm_3_203, mm_3_205, ms_19, mm_1_9, mm_3_206, rfl, by decide +kernel, by decide +kernel, by decide +kernel⟩
theorem lk_X4_58 : LkV RX4 58 RX1 yX1_isLoaded cX1_isLoaded 2 (some .boolean) 1 := ⟨mm_3_207, mm_2_150, mm_2_151, mm_1_2, mm_2_152, rfl, by decide +kernel, by decide +kernel, by decide +kernel⟩
theorem lk_X4_50 : LkV RX4 50 RX4 yX4_gatherFree cX4_gatherFree 4 (some .boolean) 0 := ⟨mm_3_208, mm_3_210, ms_20, mm_1_9, mm_3_211, rfl, by decide +kernel, by decide +kernel, by decide +kernel⟩
theorem lk_X4_68 : LkS RX4 68 yX1_placeOf cX1_placeOf 2 (some .int) 2 := ⟨mm_3_212, mm_2_52, mm_1_2, mm_2_53, by decide +kernel, by decide +kernel, by decide +kernel⟩
theorem lk_X7_255 : LkV RX7 255 RX4 yX4_loadBest cX4_loadBest 5 (some .int) 2 := ⟨mm_3_213, mm_3_214, mm_3_215, mm_1_9, mm_3_216, rfl, by decide +kernel, by decide +kernel, by decide +kernel⟩
theorem lk_X4_75 : LkV RX4 75 RX1 yX1_pushedInAll cX1_pushedInAll 4 (some .int) 1 := ⟨mm_3_217, mm_3_113, mm_3_114, mm_1_2, mm_3_115, rfl, by decide +kernel, by decide +kernel, by decide +kernel⟩
theorem lk_X4_79 : LkV RX4 79 RX4 yX4_tryAllFrom cX4_tryAllFrom 11 none 3 := ⟨mm_3_218, mm_3_220, ms_21, mm_1_9, mm_3_221, rfl, by decide +kernel, by decide +kernel, by decide +kernel⟩
theorem lk_X4_87 : LkS RX4 87 yJ9_abs_067f4 cJ9_abs_067f4 2 (some .long) 1 := ⟨mm_3_222, mm_3_152, mm_1_11, mm_3_153, by decide +kernel, by decide +kernel, by decide +kernel⟩
theorem lk_X4_93 : LkV RX4 93 RX4 yX4_keepIfBetter cX4_keepIfBetter 6 none 2 := ⟨mm_3_223, mm_3_225, ms_22, mm_1_9, mm_3_226, rfl, by decide +kernel, by decide +kernel, by decide +kernel⟩
theorem lk_X4_97 : LkV RX4 97 RX1 yX1_hindrance cX1_hindrance 5 (some .int) 2 := ⟨mm_3_227, mm_2_155, mm_2_156, mm_1_2, mm_2_157, rfl, by decide +kernel, by decide +kernel, by decide +kernel⟩
theorem lk_X4_100 : LkV RX4 100 RX1 yX1_pushedInHold cX1_pushedInHold 8 (some .int) 2 := ⟨mm_3_228, mm_3_117, mm_3_118, mm_1_2, mm_3_119, rfl, by decide +kernel, by decide +kernel, by decide +kernel⟩
theorem lk_X4_83 : LkV RX4 83 RX1 yX1_putIn cX1_putIn 3 none 2 := ⟨mm_3_229, mm_2_183, mm_2_184, mm_1_2, mm_2_185, rfl, by decide +kernel, by decide +kernel, by decide +kernel⟩
theorem lk_X4_103 : LkV RX4 103 RX1 yX1_leanAt cX1_leanAt 4 (some .long) 3 := ⟨mm_3_230, mm_3_16, mm_3_17, mm_1_2, mm_3_18, rfl, by decide +kernel, by decide +kernel, by decide +kernel⟩
theorem lk_X4_107 : LkV RX4 107 RX1 yX1_takeOut cX1_takeOut 3 none 1 := ⟨mm_3_231, mm_2_191, mm_2_192, mm_1_2, mm_2_193, rfl, by decide +kernel, by decide +kernel, by decide +kernel⟩
theorem lk_L_135 : LkV RL 135 RX7 yX7_late cX7_late 3 (some .int) 2 := ⟨mm_3_232, mm_3_233, mm_3_234, mm_1_1, mm_3_235, rfl, by decide +kernel, by decide +kernel, by decide +kernel⟩
theorem lk_X7_258 : LkV RX7 258 RX0 yX0_seatLate cX0_seatLate 9 (some .int) 3 := ⟨mm_3_236, mm_3_237, mm_3_238, mm_1_4, mm_3_239, rfl, by decide +kernel, by decide +kernel, by decide +kernel⟩
theorem lk_X0_36 : LkV RX0 36 RX0 yX0_nearestRow cX0_nearestRow 10 (some .int) 2 := ⟨mm_4_0, mm_4_2, ms_23, mm_1_4, mm_4_3, rfl, by decide +kernel, by decide +kernel, by decide +kernel⟩
theorem lk_X0_40 : LkS RX0 40 yJ9_abs_067f4 cJ9_abs_067f4 2 (some .long) 1 := ⟨mm_4_4, mm_3_152, mm_1_11, mm_3_153, by decide +kernel, by decide +kernel, by decide +kernel⟩
theorem lk_L_139 : LkV RL 139 RX7 yX7_count cX7_count 2 (some .int) 1 := ⟨mm_4_5, mm_4_6, mm_4_7, mm_1_1, mm_4_8, rfl, by decide +kernel, by decide +kernel, by decide +kernel⟩
theorem lk_X7_265 : LkV RX7 265 RX1 yX1_slotsInAll cX1_slotsInAll 3 (some .int) 0 := ⟨mm_4_9, mm_4_10, mm_4_11, mm_1_2, mm_4_12, rfl, by decide +kernel, by decide +kernel, by decide +kernel⟩
theorem lk_X7_271 : LkV RX7 271 RX1 yX1_loadedInAll cX1_loadedInAll 3 (some .int) 0 := ⟨mm_4_13, mm_4_14, mm_4_15, mm_1_2, mm_4_16, rfl, by decide +kernel, by decide +kernel, by decide +kernel⟩
theorem lk_X7_274 : LkV RX7 274 RX0 yX0_passengers cX0_passengers 3 (some .int) 0 := ⟨mm_4_17, mm_2_236, mm_2_237, mm_1_4, mm_2_238, rfl, by decide +kernel, by decide +kernel, by decide +kernel⟩
theorem lk_L_17 : LkV RL 17 RX8 yX8_empty cX8_empty 3 (some .int) 2 := ⟨mm_4_142, mm_4_143, mm_4_144, mm_1_10, mm_4_145, rfl, by decide +kernel, by decide +kernel, by decide +kernel⟩
theorem lk_X8_95 : LkS RX8 95 yX8_isIn cX8_isIn 3 (some .boolean) 3 := ⟨mm_4_147, mm_4_148, mm_1_10, mm_4_149, by decide +kernel, by decide +kernel, by decide +kernel⟩
theorem lk_X8_110 : LkS RX8 110 yX8_isArm cX8_isArm 1 (some .boolean) 1 := ⟨mm_4_150, mm_4_151, mm_1_10, mm_4_152, by decide +kernel, by decide +kernel, by decide +kernel⟩
theorem lk_L_21 : LkV RL 21 RX8 yX8_hold cX8_hold 3 (some .int) 2 := ⟨mm_4_153, mm_4_154, mm_4_155, mm_1_10, mm_4_156, rfl, by decide +kernel, by decide +kernel, by decide +kernel⟩
theorem lk_L_26 : LkV RL 26 RX8 yX8_slot cX8_slot 5 (some .int) 3 := ⟨mm_4_157, mm_4_158, mm_4_159, mm_1_10, mm_4_160, rfl, by decide +kernel, by decide +kernel, by decide +kernel⟩
theorem lk_X8_102 : LkV RX8 102 RX8 yX8_isHold cX8_isHold 2 (some .boolean) 1 := ⟨mm_4_161, mm_4_163, ms_24, mm_1_10, mm_4_164, rfl, by decide +kernel, by decide +kernel, by decide +kernel⟩
theorem lk_L_30 : LkV RL 30 RX8 yX8_apart cX8_apart 5 (some .int) 3 := ⟨mm_4_165, mm_4_166, mm_4_167, mm_1_10, mm_4_168, rfl, by decide +kernel, by decide +kernel, by decide +kernel⟩
theorem lk_L_34 : LkV RL 34 RX8 yX8_item cX8_item 4 (some .int) 3 := ⟨mm_4_169, mm_4_170, mm_4_171, mm_1_10, mm_4_172, rfl, by decide +kernel, by decide +kernel, by decide +kernel⟩
theorem lk_L_38 : LkV RL 38 RX8 yX8_row cX8_row 3 (some .int) 2 := ⟨mm_4_173, mm_4_174, mm_4_175, mm_1_10, mm_4_176, rfl, by decide +kernel, by decide +kernel, by decide +kernel⟩
theorem lk_L_42 : LkV RL 42 RX8 yX8_tank cX8_tank 3 (some .int) 2 := ⟨mm_4_177, mm_4_178, mm_4_179, mm_1_10, mm_4_180, rfl, by decide +kernel, by decide +kernel, by decide +kernel⟩
theorem lk_L_47 : LkV RL 47 RX8 yX8_person cX8_person 3 (some .int) 1 := ⟨mm_4_181, mm_4_182, mm_4_183, mm_1_10, mm_4_184, rfl, by decide +kernel, by decide +kernel, by decide +kernel⟩
theorem lk_L_51 : LkV RL 51 RX8 yX8_seat cX8_seat 4 (some .int) 2 := ⟨mm_4_185, mm_4_186, mm_4_187, mm_1_10, mm_4_188, rfl, by decide +kernel, by decide +kernel, by decide +kernel⟩
theorem lk_L_55 : LkV RL 55 RX8 yX8_fuel cX8_fuel 4 (some .int) 2 := ⟨mm_4_189, mm_4_190, mm_4_191, mm_1_10, mm_4_192, rfl, by decide +kernel, by decide +kernel, by decide +kernel⟩
theorem lk_L_60 : LkV RL 60 RX8 yX8_point cX8_point 6 (some .int) 4 := ⟨mm_4_193, mm_4_194, mm_4_195, mm_1_10, mm_4_196, rfl, by decide +kernel, by decide +kernel, by decide +kernel⟩
theorem lk_L_64 : LkV RL 64 RX8 yX8_wipe cX8_wipe 3 (some .int) 1 := ⟨mm_4_198, mm_4_199, mm_4_200, mm_1_10, mm_4_201, rfl, by decide +kernel, by decide +kernel, by decide +kernel⟩
theorem lk_L_68 : LkV RL 68 RX8 yX8_fits cX8_fits 4 (some .int) 3 := ⟨mm_4_202, mm_4_203, mm_4_204, mm_1_10, mm_4_205, rfl, by decide +kernel, by decide +kernel, by decide +kernel⟩
theorem lk_X8_130 : LkV RX8 130 RX8 yX8_isItem cX8_isItem 2 (some .boolean) 1 := ⟨mm_4_206, mm_4_208, ms_25, mm_1_10, mm_4_209, rfl, by decide +kernel, by decide +kernel, by decide +kernel⟩
theorem lk_X8_133 : LkV RX8 133 RX8 yX8_isSlot cX8_isSlot 3 (some .boolean) 2 := ⟨mm_4_210, mm_4_212, ms_26, mm_1_10, mm_4_213, rfl, by decide +kernel, by decide +kernel, by decide +kernel⟩
theorem lk_X8_137 : LkV RX8 137 RX8 yX8_fitsAt cX8_fitsAt 7 (some .int) 2 := ⟨mm_4_214, mm_4_216, ms_27, mm_1_10, mm_4_217, rfl, by decide +kernel, by decide +kernel, by decide +kernel⟩
theorem lk_X8_127 : LkV RX8 127 RX8 yX8_weightOf cX8_weightOf 4 (some .int) 1 := ⟨mm_4_218, mm_4_220, ms_28, mm_1_10, mm_4_221, rfl, by decide +kernel, by decide +kernel, by decide +kernel⟩
theorem lk_X8_123 : LkV RX8 123 RX8 yX8_weightAt cX8_weightAt 2 (some .int) 1 := ⟨mm_4_222, mm_4_224, ms_29, mm_1_10, mm_4_225, rfl, by decide +kernel, by decide +kernel, by decide +kernel⟩
theorem lk_L_72 : LkV RL 72 RX8 yX8_load cX8_load 5 (some .int) 3 := ⟨mm_4_226, mm_4_227, mm_4_228, mm_1_10, mm_4_229, rfl, by decide +kernel, by decide +kernel, by decide +kernel⟩
theorem lk_X8_141 : LkV RX8 141 RX8 yX8_fits cX8_fits 4 (some .int) 3 := ⟨mm_4_230, mm_4_203, mm_4_204, mm_1_10, mm_4_205, rfl, by decide +kernel, by decide +kernel, by decide +kernel⟩
theorem lk_X8_145 : LkV RX8 145 RX8 yX8_put cX8_put 3 none 2 := ⟨mm_4_231, mm_4_233, ms_30, mm_1_10, mm_4_234, rfl, by decide +kernel, by decide +kernel, by decide +kernel⟩
theorem lk_L_76 : LkV RL 76 RX8 yX8_unload cX8_unload 2 (some .int) 1 := ⟨mm_4_235, mm_4_236, mm_4_237, mm_1_10, mm_4_238, rfl, by decide +kernel, by decide +kernel, by decide +kernel⟩
theorem lk_X8_149 : LkV RX8 149 RX8 yX8_take cX8_take 2 none 1 := ⟨mm_4_239, mm_5_1, ms_31, mm_1_10, mm_5_2, rfl, by decide +kernel, by decide +kernel, by decide +kernel⟩
theorem lk_L_80 : LkV RL 80 RX8 yX8_where cX8_where 2 (some .int) 1 := ⟨mm_5_3, mm_5_4, mm_5_5, mm_1_10, mm_5_6, rfl, by decide +kernel, by decide +kernel, by decide +kernel⟩
theorem lk_L_84 : LkV RL 84 RX8 yX8_in cX8_in 3 (some .int) 2 := ⟨mm_5_7, mm_5_8, mm_5_9, mm_1_10, mm_5_10, rfl, by decide +kernel, by decide +kernel, by decide +kernel⟩
theorem lk_L_88 : LkV RL 88 RX8 yX8_about cX8_about 6 (some .int) 2 := ⟨mm_5_11, mm_5_12, mm_5_13, mm_1_10, mm_5_14, rfl, by decide +kernel, by decide +kernel, by decide +kernel⟩
theorem lk_L_92 : LkV RL 92 RX8 yX8_weight cX8_weight 2 (some .int) 1 := ⟨mm_5_15, mm_5_16, mm_5_17, mm_1_10, mm_5_18, rfl, by decide +kernel, by decide +kernel, by decide +kernel⟩
theorem lk_X8_153 : LkV RX8 153 RX8 yX8_dryWeight cX8_dryWeight 3 (some .int) 0 := ⟨mm_5_19, mm_5_21, ms_32, mm_1_10, mm_5_22, rfl, by decide +kernel, by decide +kernel, by decide +kernel⟩
theorem lk_X8_157 : LkV RX8 157 RX8 yX8_allFuel cX8_allFuel 3 (some .int) 0 := ⟨mm_5_23, mm_5_25, ms_33, mm_1_10, mm_5_26, rfl, by decide +kernel, by decide +kernel, by decide +kernel⟩
theorem lk_L_97 : LkV RL 97 RX8 yX8_moment cX8_moment 2 (some .long) 1 := ⟨mm_5_27, mm_5_28, mm_5_29, mm_1_10, mm_5_30, rfl, by decide +kernel, by decide +kernel, by decide +kernel⟩
theorem lk_X8_160 : LkV RX8 160 RX8 yX8_dryMoment cX8_dryMoment 5 (some .long) 0 := ⟨mm_5_31, mm_5_33, ms_34, mm_1_10, mm_5_34, rfl, by decide +kernel, by decide +kernel, by decide +kernel⟩
theorem lk_X8_164 : LkV RX8 164 RX8 yX8_fuelMoment cX8_fuelMoment 7 (some .long) 1 := ⟨mm_5_35, mm_5_37, ms_35, mm_1_10, mm_5_38, rfl, by decide +kernel, by decide +kernel, by decide +kernel⟩
theorem lk_L_102 : LkV RL 102 RX8 yX8_burnt cX8_burnt 3 (some .long) 2 := ⟨mm_5_40, mm_5_41, mm_5_42, mm_1_10, mm_5_43, rfl, by decide +kernel, by decide +kernel, by decide +kernel⟩
theorem lk_L_106 : LkV RL 106 RX8 yX8_within cX8_within 2 (some .int) 1 := ⟨mm_5_44, mm_5_45, mm_5_46, mm_1_10, mm_5_47, rfl, by decide +kernel, by decide +kernel, by decide +kernel⟩
theorem lk_X8_170 : LkV RX8 170 RX8 yX8_lies cX8_lies 17 (some .int) 3 := ⟨mm_5_48, mm_5_50, ms_36, mm_1_10, mm_5_51, rfl, by decide +kernel, by decide +kernel, by decide +kernel⟩
theorem lk_L_110 : LkV RL 110 RX8 yX8_safe cX8_safe 2 (some .int) 1 := ⟨mm_5_52, mm_5_53, mm_5_54, mm_1_10, mm_5_55, rfl, by decide +kernel, by decide +kernel, by decide +kernel⟩
theorem lk_X8_173 : LkV RX8 173 RX8 yX8_within cX8_within 2 (some .int) 1 := ⟨mm_5_56, mm_5_45, mm_5_46, mm_1_10, mm_5_47, rfl, by decide +kernel, by decide +kernel, by decide +kernel⟩
theorem lk_X8_176 : LkV RX8 176 RX8 yX8_firstWrong cX8_firstWrong 8 (some .int) 1 := ⟨mm_5_57, mm_5_59, ms_37, mm_1_10, mm_5_60, rfl, by decide +kernel, by decide +kernel, by decide +kernel⟩
theorem lk_L_114 : LkV RL 114 RX8 yX8_wrong cX8_wrong 2 (some .int) 1 := ⟨mm_5_61, mm_5_62, mm_5_63, mm_1_10, mm_5_64, rfl, by decide +kernel, by decide +kernel, by decide +kernel⟩
theorem lk_L_118 : LkV RL 118 RX8 yX8_pushed cX8_pushed 2 (some .int) 1 := ⟨mm_5_65, mm_5_66, mm_5_67, mm_1_10, mm_5_68, rfl, by decide +kernel, by decide +kernel, by decide +kernel⟩
theorem lk_X8_182 : LkV RX8 182 RX8 yX8_pushedAll cX8_pushedAll 3 (some .int) 0 := ⟨mm_5_69, mm_5_71, ms_38, mm_1_10, mm_5_72, rfl, by decide +kernel, by decide +kernel, by decide +kernel⟩
theorem lk_X8_179 : LkV RX8 179 RX8 yX8_pushedAt cX8_pushedAt 7 (some .int) 1 := ⟨mm_5_73, mm_5_75, ms_39, mm_1_10, mm_5_76, rfl, by decide +kernel, by decide +kernel, by decide +kernel⟩
theorem lk_L_122 : LkV RL 122 RX8 yX8_arrive cX8_arrive 4 (some .int) 1 := ⟨mm_5_77, mm_5_78, mm_5_79, mm_1_10, mm_5_80, rfl, by decide +kernel, by decide +kernel, by decide +kernel⟩
theorem lk_L_126 : LkV RL 126 RX8 yX8_loadAll cX8_loadAll 6 (some .int) 1 := ⟨mm_5_81, mm_5_82, mm_5_83, mm_1_10, mm_5_84, rfl, by decide +kernel, by decide +kernel, by decide +kernel⟩
theorem lk_X8_196 : LkV RX8 196 RX8 yX8_placeFor cX8_placeFor 10 (some .int) 2 := ⟨mm_5_85, mm_5_87, ms_40, mm_1_10, mm_5_88, rfl, by decide +kernel, by decide +kernel, by decide +kernel⟩
theorem lk_X8_192 : LkV RX8 192 RX8 yX8_far cX8_far 5 none 3 := ⟨mm_5_89, mm_5_91, ms_41, mm_1_10, mm_5_92, rfl, by decide +kernel, by decide +kernel, by decide +kernel⟩
theorem lk_L_130 : LkV RL 130 RX8 yX8_better cX8_better 3 (some .int) 1 := ⟨mm_5_93, mm_5_94, mm_5_95, mm_1_10, mm_5_96, rfl, by decide +kernel, by decide +kernel, by decide +kernel⟩
theorem lk_X8_218 : LkV RX8 218 RX8 yX8_betters cX8_betters 4 (some .boolean) 1 := ⟨mm_5_97, mm_5_99, ms_42, mm_1_10, mm_5_100, rfl, by decide +kernel, by decide +kernel, by decide +kernel⟩
theorem lk_X8_212 : LkV RX8 212 RX8 yX8_swaps cX8_swaps 6 (some .boolean) 3 := ⟨mm_5_101, mm_5_103, ms_43, mm_1_10, mm_5_104, rfl, by decide +kernel, by decide +kernel, by decide +kernel⟩
theorem lk_X8_209 : LkV RX8 209 RX8 yX8_isBetter cX8_isBetter 2 (some .boolean) 1 := ⟨mm_5_105, mm_5_107, ms_44, mm_1_10, mm_5_108, rfl, by decide +kernel, by decide +kernel, by decide +kernel⟩
theorem lk_X8_205 : LkV RX8 205 RX8 yX8_isNearer cX8_isNearer 7 (some .boolean) 4 := ⟨mm_5_109, mm_5_111, ms_45, mm_1_10, mm_5_112, rfl, by decide +kernel, by decide +kernel, by decide +kernel⟩
theorem lk_X8_215 : LkV RX8 215 RX8 yX8_moves cX8_moves 5 (some .boolean) 3 := ⟨mm_5_113, mm_5_115, ms_46, mm_1_10, mm_5_116, rfl, by decide +kernel, by decide +kernel, by decide +kernel⟩
theorem lk_L_134 : LkV RL 134 RX8 yX8_best cX8_best 4 (some .int) 1 := ⟨mm_5_117, mm_5_118, mm_5_119, mm_1_10, mm_5_120, rfl, by decide +kernel, by decide +kernel, by decide +kernel⟩
theorem lk_X8_230 : LkV RX8 230 RX8 yX8_tries cX8_tries 5 none 2 := ⟨mm_5_121, mm_5_123, ms_47, mm_1_10, mm_5_124, rfl, by decide +kernel, by decide +kernel, by decide +kernel⟩
theorem lk_L_138 : LkV RL 138 RX8 yX8_late cX8_late 9 (some .int) 2 := ⟨mm_5_125, mm_5_126, mm_5_127, mm_1_10, mm_5_128, rfl, by decide +kernel, by decide +kernel, by decide +kernel⟩
theorem lk_L_142 : LkV RL 142 RX8 yX8_count cX8_count 4 (some .int) 1 := ⟨mm_5_129, mm_5_130, mm_5_131, mm_1_10, mm_5_132, rfl, by decide +kernel, by decide +kernel, by decide +kernel⟩
end
