set_option maxHeartbeats 4000000 in
set_option maxRecDepth 100000 in
theorem k_X5_isNearerSwapped (l : Launch) (D : va_G) (a : Nat → Nat) (cI cZ : ClassId) (f : FF) (u : UU) (a1 : Nat) (a2 : Nat) (le : Int64) (p1 : Nat) (p2 : Nat) (hi : IV f) (h_1 : a1 < 40) (h_2 : a2 < 40) (g_1 : p1 < 32) (g_2 : p2 < 32) (e_1 : f 18 a1 = nI p1) (e_2 : f 18 a2 = nI p2) : KI l yX5_isNearerSwapped cX5_isNearerSwapped 11 (some .boolean) ({ frames := 1, cells := 0, slots := 0, locals := 25 } : Room) D a cI cZ [.ref (a 7), .int (nI a1), .int (nI a2), .long le] f u (fun r f2 u2 => f = f2 ∧ u = u2) := by
  refine KX.of (by decide) (Nat.le_of_ble_eq_true rfl) ?_
  intro p e s m below meth c cx hw hr hk ls hl
  have cx : Cx p s m _ c cX5_isNearerSwapped RX5 11 D cI cZ := cx
  have hl : lv_has ls 11 [(0, .ref (a 7)), (1, .int (nI a1)), (2, .int (nI a2)), (3, .long le)] := hl
  have hx := cx.1.1
  have hb := cx.1.2.1
  refine lv_aload_n hx hb dX5_isNearerSwapped_0 rfl (lv_at hl 0 rfl) ?_
  refine gf_X5_9 cx hw dX5_isNearerSwapped_1 ?_
  refine gf_X5_37 cx hw dX5_isNearerSwapped_4 ?_
  refine lv_aload_n hx hb dX5_isNearerSwapped_7 rfl (lv_at hl 0 rfl) ?_
  refine gf_X5_9 cx hw dX5_isNearerSwapped_8 ?_
  refine gf_X5_41 cx hw dX5_isNearerSwapped_11 ?_
  refine lv_iload_n hx hb dX5_isNearerSwapped_14 rfl (lv_at hl 1 rfl) ?_
  refine aldN 18 a1 cx hw rfl (by omega) (by decide) dX5_isNearerSwapped_15 ?_
  refine topc (y := (nI p1)) e_1 ?_
  refine aldN 12 p1 cx hw rfl (by omega) (by decide) dX5_isNearerSwapped_16 ?_
  refine lv_topi (fun x_1 _ => ?_)
  refine lv_i2l hx hb dX5_isNearerSwapped_17 rfl ?_
  refine lv_topl (fun y_2 _ => ?_)
  refine lv_lstore (lv' := [(5, .long y_2), (0, .ref (a 7)), (1, .int (nI a1)), (2, .int (nI a2)), (3, .long le)]) hx hb dX5_isNearerSwapped_18 hl (by decide) rfl (fun ls hl => ?_)
  refine lv_aload_n hx hb dX5_isNearerSwapped_20 rfl (lv_at hl 1 rfl) ?_
  refine gf_X5_9 cx hw dX5_isNearerSwapped_21 ?_
  refine gf_X5_37 cx hw dX5_isNearerSwapped_24 ?_
  refine lv_aload_n hx hb dX5_isNearerSwapped_27 rfl (lv_at hl 1 rfl) ?_
  refine gf_X5_9 cx hw dX5_isNearerSwapped_28 ?_
  refine gf_X5_41 cx hw dX5_isNearerSwapped_31 ?_
  refine lv_iload_n hx hb dX5_isNearerSwapped_34 rfl (lv_at hl 3 rfl) ?_
  refine aldN 18 a2 cx hw rfl (by omega) (by decide) dX5_isNearerSwapped_35 ?_
  refine topc (y := (nI p2)) e_2 ?_
  refine aldN 12 p2 cx hw rfl (by omega) (by decide) dX5_isNearerSwapped_36 ?_
  refine lv_topi (fun x_3 _ => ?_)
  refine lv_i2l hx hb dX5_isNearerSwapped_37 rfl ?_
  refine lv_topl (fun y_4 _ => ?_)
  refine lv_lstore (lv' := [(7, .long y_4), (5, .long y_2), (0, .ref (a 7)), (1, .int (nI a1)), (2, .int (nI a2)), (3, .long le)]) hx hb dX5_isNearerSwapped_38 hl (by decide) rfl (fun ls hl => ?_)
  refine lv_aload_n hx hb dX5_isNearerSwapped_40 rfl (lv_at hl 2 rfl) ?_
  refine gf_X5_9 cx hw dX5_isNearerSwapped_41 ?_
  refine gf_X5_44 cx hw dX5_isNearerSwapped_44 ?_
  refine lv_iload_n hx hb dX5_isNearerSwapped_47 rfl (lv_at hl 3 rfl) ?_
  refine aldN 15 a1 cx hw rfl (by omega) (by decide) dX5_isNearerSwapped_48 ?_
  refine lv_topi (fun x_5 _ => ?_)
  refine lv_aload_n hx hb dX5_isNearerSwapped_49 rfl (lv_at hl 2 rfl) ?_
  refine gf_X5_9 cx hw dX5_isNearerSwapped_50 ?_
  refine gf_X5_44 cx hw dX5_isNearerSwapped_53 ?_
  refine lv_iload_n hx hb dX5_isNearerSwapped_56 rfl (lv_at hl 4 rfl) ?_
  refine aldN 15 a2 cx hw rfl (by omega) (by decide) dX5_isNearerSwapped_57 ?_
  refine lv_topi (fun x_6 _ => ?_)
  refine lv_isub hx hb dX5_isNearerSwapped_58 ?_
  refine lv_topi (fun x_7 _ => ?_)
  refine lv_i2l hx hb dX5_isNearerSwapped_59 rfl ?_
  refine lv_topl (fun y_8 _ => ?_)
  refine lv_lload hx hb dX5_isNearerSwapped_60 (lv_at hl 0 rfl) ?_
  refine lv_lload hx hb dX5_isNearerSwapped_62 (lv_at hl 1 rfl) ?_
  refine lv_lsub hx hb dX5_isNearerSwapped_64 ?_
  refine lv_topl (fun y_9 _ => ?_)
  refine lv_lmul hx hb dX5_isNearerSwapped_65 ?_
  refine lv_topl (fun y_10 _ => ?_)
  refine lv_lstore (lv' := [(9, .long y_10), (7, .long y_4), (5, .long y_2), (0, .ref (a 7)), (1, .int (nI a1)), (2, .int (nI a2)), (3, .long le)]) hx hb dX5_isNearerSwapped_66 hl (by decide) rfl (fun ls hl => ?_)
  refine lv_lload_n hx hb dX5_isNearerSwapped_68 rfl (lv_at hl 6 rfl) ?_
  refine lv_lload hx hb dX5_isNearerSwapped_69 (lv_at hl 0 rfl) ?_
  refine lv_ladd hx hb dX5_isNearerSwapped_71 ?_
  refine lv_topl (fun y_11 _ => ?_)
  refine jAbsL (rest := []) cx hl.1 mm_3_173 (Nat.le_of_ble_eq_true rfl) (Nat.le_of_ble_eq_true rfl) ⟨Nat.zero_le _, Nat.zero_le _⟩ dX5_isNearerSwapped_72 (fun y_12 => ?_)
  refine lv_lload_n hx hb dX5_isNearerSwapped_75 rfl (lv_at hl 6 rfl) ?_
  refine jAbsL (rest := [.long y_12]) cx hl.1 mm_3_173 (Nat.le_of_ble_eq_true rfl) (Nat.le_of_ble_eq_true rfl) ⟨Nat.zero_le _, Nat.zero_le _⟩ dX5_isNearerSwapped_76 (fun y_13 => ?_)
  refine W.lcmp hx hb dX5_isNearerSwapped_79 ?_
  refine lv_topi (fun x_14 _ => ?_)
  refine lv_if_ge (tgt := 87) hx hb dX5_isNearerSwapped_80 (by decide) (fun c_15 => ?_) (fun c_15 => ?_)
  · refine lv_iconst (v := 0) hx hb dX5_isNearerSwapped_87 (by decide) ?_
    exact retZ cx hw hr hk rfl dX5_isNearerSwapped_88 ⟨rfl, rfl⟩
  · refine lv_iconst (v := 1) hx hb dX5_isNearerSwapped_83 (by decide) ?_
    refine lv_goto (tgt := 88) hx hb dX5_isNearerSwapped_84 (by decide) ?_
    exact retZ cx hw hr hk rfl dX5_isNearerSwapped_88 ⟨rfl, rfl⟩

set_option maxHeartbeats 4000000 in
set_option maxRecDepth 100000 in
theorem k_X5_swapIfBothFit (l : Launch) (D : va_G) (a : Nat → Nat) (cI cZ : ClassId) (f : FF) (u : UU) (a1 : Nat) (a2 : Nat) (p1 : Nat) (p2 : Nat) (hi : IV f) (h_1 : a1 < 40) (h_2 : a2 < 40) (h_12 : a1 < a2) (g_1 : p1 < 32) (g_2 : p2 < 32) (e_1 : f 18 a1 = nI p1) (e_2 : f 18 a2 = nI p2) : KI l yX5_swapIfBothFit cX5_swapIfBothFit 6 (some .boolean) ({ frames := 4, cells := 0, slots := 0, locals := 85 } : Room) D a cI cZ [.ref (a 7), .int (nI a1), .int (nI a2)] f u (fun r f2 u2 => IV f2 ∧ KK [14, 18] f f2 ∧ (∃ q, q < 32 ∧ f2 18 a1 = nI q)) := by
  refine KX.of (by decide) (Nat.le_of_ble_eq_true rfl) ?_
  intro p e s m below meth c cx hw hr hk ls hl
  have cx : Cx p s m _ c cX5_swapIfBothFit RX5 6 D cI cZ := cx
  have hl : lv_has ls 6 [(0, .ref (a 7)), (1, .int (nI a1)), (2, .int (nI a2))] := hl
  have hx := cx.1.1
  have hb := cx.1.2.1
  refine lv_aload_n hx hb dX5_swapIfBothFit_0 rfl (lv_at hl 0 rfl) ?_
  refine gf_X5_9 cx hw dX5_swapIfBothFit_1 ?_
  refine gf_X5_41 cx hw dX5_swapIfBothFit_4 ?_
  refine lv_iload_n hx hb dX5_swapIfBothFit_7 rfl (lv_at hl 1 rfl) ?_
  refine aldN 18 a1 cx hw rfl (by omega) (by decide) dX5_swapIfBothFit_8 ?_
  refine topc (y := (nI p1)) e_1 ?_
  refine lv_istore_n (lv' := [(3, .int (nI p1)), (0, .ref (a 7)), (1, .int (nI a1)), (2, .int (nI a2))]) hx hb dX5_swapIfBothFit_9 rfl hl (by decide) rfl (fun ls hl => ?_)
  refine lv_aload_n hx hb dX5_swapIfBothFit_10 rfl (lv_at hl 1 rfl) ?_
  refine gf_X5_9 cx hw dX5_swapIfBothFit_11 ?_
  refine gf_X5_41 cx hw dX5_swapIfBothFit_14 ?_
  refine lv_iload_n hx hb dX5_swapIfBothFit_17 rfl (lv_at hl 3 rfl) ?_
  refine aldN 18 a2 cx hw rfl (by omega) (by decide) dX5_swapIfBothFit_18 ?_
  refine topc (y := (nI p2)) e_2 ?_
  refine lv_istore (lv' := [(4, .int (nI p2)), (3, .int (nI p1)), (0, .ref (a 7)), (1, .int (nI a1)), (2, .int (nI a2))]) hx hb dX5_swapIfBothFit_19 hl (by decide) rfl (fun ls hl => ?_)
  refine lv_aload_n hx hb dX5_swapIfBothFit_21 rfl (lv_at hl 2 rfl) ?_
  refine gf_X5_9 cx hw dX5_swapIfBothFit_22 ?_
  refine lv_iload_n hx hb dX5_swapIfBothFit_25 rfl (lv_at hl 3 rfl) ?_
  refine goV hw (runVW (k := 1) (As := [.int (nI a1)]) (rest := []) cx hw (k_X1_takeOut l D a cI cZ f u a1 p1 hi (by omega) (by omega) e_1) lk_X5_53 rfl rfl ⟨Nat.le_of_ble_eq_true rfl, Nat.le_of_ble_eq_true rfl⟩ ⟨rfl, rfl⟩ ⟨Nat.zero_le _, Nat.zero_le _⟩ rfl rfl hl.1 (Nat.le_of_ble_eq_true rfl) dX5_swapIfBothFit_26) (fun f_1 u_1 H locs hp_1 hw => ?_)
  have hi_2 : IV (takeC f a1 p1) := IV.wtakeC hi
  obtain ⟨rfl, rfl⟩ := hp_1
  refine lv_aload_n hx hb dX5_swapIfBothFit_29 rfl (lv_at hl 2 rfl) ?_
  refine gf_X5_9 cx hw dX5_swapIfBothFit_30 ?_
  refine lv_iload_n hx hb dX5_swapIfBothFit_33 rfl (lv_at hl 4 rfl) ?_
  refine goV hw (runVW (k := 1) (As := [.int (nI a2)]) (rest := []) cx hw (k_X1_takeOut l D a cI cZ (takeC f a1 p1) u a2 p2 hi_2 (by omega) (by omega) ((takeC_ne (by omega)).trans e_2)) lk_X5_53 rfl rfl ⟨Nat.le_of_ble_eq_true rfl, Nat.le_of_ble_eq_true rfl⟩ ⟨rfl, rfl⟩ ⟨Nat.zero_le _, Nat.zero_le _⟩ rfl rfl hl.1 (Nat.le_of_ble_eq_true rfl) dX5_swapIfBothFit_34) (fun f_3 u_3 H locs hp_3 hw => ?_)
  have hi_4 : IV (takeC (takeC f a1 p1) a2 p2) := IV.wtakeC hi_2
  obtain ⟨rfl, rfl⟩ := hp_3
  refine lv_aload_n hx hb dX5_swapIfBothFit_37 rfl (lv_at hl 2 rfl) ?_
  refine gf_X5_9 cx hw dX5_swapIfBothFit_38 ?_
  refine lv_iload_n hx hb dX5_swapIfBothFit_41 rfl (lv_at hl 3 rfl) ?_
  refine lv_iload hx hb dX5_swapIfBothFit_42 (lv_at hl 0 rfl) ?_
  refine goI hw (runVW (k := 1) (As := [.int (nI a1), .int (nI p2)]) (rest := []) cx hw (k_X1_hindrance l D a cI cZ (takeC (takeC f a1 p1) a2 p2) u a1 p2  hi_4 (by omega) (by omega)) lk_X5_57 rfl rfl ⟨Nat.le_of_ble_eq_true rfl, Nat.le_of_ble_eq_true rfl⟩ ⟨rfl, rfl⟩ ⟨Nat.zero_le _, Nat.zero_le _⟩ rfl rfl hl.1 (Nat.le_of_ble_eq_true rfl) dX5_swapIfBothFit_44) (fun r_5 f_5 u_5 H locs hp_5 hw => ?_)
  obtain ⟨rfl, rfl⟩ := hp_5
  refine lv_if_ne (tgt := 66) hx hb dX5_swapIfBothFit_47 (by decide) (fun _ => ?_) (fun _ => ?_)
  · refine lv_iconst (v := 0) hx hb dX5_swapIfBothFit_66 (by decide) ?_
    refine lv_istore (lv' := [(5, .int 0), (4, .int (nI p2)), (3, .int (nI p1)), (0, .ref (a 7)), (1, .int (nI a1)), (2, .int (nI a2))]) hx hb dX5_swapIfBothFit_67 hl (by decide) rfl (fun ls hl => ?_)
    refine lv_aload_n hx hb dX5_swapIfBothFit_69 rfl (lv_at hl 3 rfl) ?_
    refine gf_X5_9 cx hw dX5_swapIfBothFit_70 ?_
    refine lv_iload_n hx hb dX5_swapIfBothFit_73 rfl (lv_at hl 4 rfl) ?_
    refine lv_iload hx hb dX5_swapIfBothFit_74 (lv_at hl 0 rfl) ?_
    refine lv_if_eq (tgt := 84) hx hb dX5_swapIfBothFit_76 (by decide) (fun _ => ?_) (fun q => absurd (by decide) q)
    refine lv_iload_n hx hb dX5_swapIfBothFit_84 rfl (lv_at hl 2 rfl) ?_
    refine goV hw (runVW (k := 1) (As := [.int (nI a1), .int (nI p1)]) (rest := []) cx hw (k_X1_putIn l D a cI cZ (takeC (takeC f a1 p1) a2 p2) u a1 p1  hi_4 (by omega) (by omega)) lk_X5_61 rfl rfl ⟨Nat.le_of_ble_eq_true rfl, Nat.le_of_ble_eq_true rfl⟩ ⟨rfl, rfl⟩ ⟨Nat.zero_le _, Nat.zero_le _⟩ rfl rfl hl.1 (Nat.le_of_ble_eq_true rfl) dX5_swapIfBothFit_85) (fun f_8 u_8 H locs hp_8 hw => ?_)
    have hi_9 : IV (putC (takeC (takeC f a1 p1) a2 p2) a1 p1) := IV.wputC hi_4 (by omega) (by omega)
    obtain ⟨rfl, rfl⟩ := hp_8
    refine lv_aload_n hx hb dX5_swapIfBothFit_88 rfl (lv_at hl 3 rfl) ?_
    refine gf_X5_9 cx hw dX5_swapIfBothFit_89 ?_
    refine lv_iload_n hx hb dX5_swapIfBothFit_92 rfl (lv_at hl 5 rfl) ?_
    refine lv_iload hx hb dX5_swapIfBothFit_93 (lv_at hl 0 rfl) ?_
    refine lv_if_eq (tgt := 102) hx hb dX5_swapIfBothFit_95 (by decide) (fun _ => ?_) (fun q => absurd (by decide) q)
    refine lv_iload hx hb dX5_swapIfBothFit_102 (lv_at hl 1 rfl) ?_
    refine goV hw (runVW (k := 1) (As := [.int (nI a2), .int (nI p2)]) (rest := []) cx hw (k_X1_putIn l D a cI cZ (putC (takeC (takeC f a1 p1) a2 p2) a1 p1) u a2 p2  hi_9 (by omega) (by omega)) lk_X5_61 rfl rfl ⟨Nat.le_of_ble_eq_true rfl, Nat.le_of_ble_eq_true rfl⟩ ⟨rfl, rfl⟩ ⟨Nat.zero_le _, Nat.zero_le _⟩ rfl rfl hl.1 (Nat.le_of_ble_eq_true rfl) dX5_swapIfBothFit_104) (fun f_11 u_11 H locs hp_11 hw => ?_)
    have hi_12 : IV (putC (putC (takeC (takeC f a1 p1) a2 p2) a1 p1) a2 p2) := IV.wputC hi_9 (by omega) (by omega)
    obtain ⟨rfl, rfl⟩ := hp_11
    refine lv_iload hx hb dX5_swapIfBothFit_107 (lv_at hl 0 rfl) ?_
    exact retZ cx hw hr hk rfl dX5_swapIfBothFit_109 ⟨hi_12, (KK.wputC (by decide) (KK.wputC (by decide) (KK.wtakeC (by decide) (KK.wtakeC (by decide) KK.rf)))), p1, by omega, ((putC_ne (by omega)).trans putC_same)⟩
  · refine lv_aload_n hx hb dX5_swapIfBothFit_50 rfl (lv_at hl 2 rfl) ?_
    refine gf_X5_9 cx hw dX5_swapIfBothFit_51 ?_
    refine lv_iload_n hx hb dX5_swapIfBothFit_54 rfl (lv_at hl 4 rfl) ?_
    refine lv_iload_n hx hb dX5_swapIfBothFit_55 rfl (lv_at hl 1 rfl) ?_
    refine goI hw (runVW (k := 1) (As := [.int (nI a2), .int (nI p1)]) (rest := []) cx hw (k_X1_hindrance l D a cI cZ (takeC (takeC f a1 p1) a2 p2) u a2 p1  hi_4 (by omega) (by omega)) lk_X5_57 rfl rfl ⟨Nat.le_of_ble_eq_true rfl, Nat.le_of_ble_eq_true rfl⟩ ⟨rfl, rfl⟩ ⟨Nat.zero_le _, Nat.zero_le _⟩ rfl rfl hl.1 (Nat.le_of_ble_eq_true rfl) dX5_swapIfBothFit_56) (fun r_13 f_13 u_13 H locs hp_13 hw => ?_)
    obtain ⟨rfl, rfl⟩ := hp_13
    refine lv_if_ne (tgt := 66) hx hb dX5_swapIfBothFit_59 (by decide) (fun _ => ?_) (fun _ => ?_)
    · refine lv_iconst (v := 0) hx hb dX5_swapIfBothFit_66 (by decide) ?_
      refine lv_istore (lv' := [(5, .int 0), (4, .int (nI p2)), (3, .int (nI p1)), (0, .ref (a 7)), (1, .int (nI a1)), (2, .int (nI a2))]) hx hb dX5_swapIfBothFit_67 hl (by decide) rfl (fun ls hl => ?_)
      refine lv_aload_n hx hb dX5_swapIfBothFit_69 rfl (lv_at hl 3 rfl) ?_
      refine gf_X5_9 cx hw dX5_swapIfBothFit_70 ?_
      refine lv_iload_n hx hb dX5_swapIfBothFit_73 rfl (lv_at hl 4 rfl) ?_
      refine lv_iload hx hb dX5_swapIfBothFit_74 (lv_at hl 0 rfl) ?_
      refine lv_if_eq (tgt := 84) hx hb dX5_swapIfBothFit_76 (by decide) (fun _ => ?_) (fun q => absurd (by decide) q)
      refine lv_iload_n hx hb dX5_swapIfBothFit_84 rfl (lv_at hl 2 rfl) ?_
      refine goV hw (runVW (k := 1) (As := [.int (nI a1), .int (nI p1)]) (rest := []) cx hw (k_X1_putIn l D a cI cZ (takeC (takeC f a1 p1) a2 p2) u a1 p1  hi_4 (by omega) (by omega)) lk_X5_61 rfl rfl ⟨Nat.le_of_ble_eq_true rfl, Nat.le_of_ble_eq_true rfl⟩ ⟨rfl, rfl⟩ ⟨Nat.zero_le _, Nat.zero_le _⟩ rfl rfl hl.1 (Nat.le_of_ble_eq_true rfl) dX5_swapIfBothFit_85) (fun f_16 u_16 H locs hp_16 hw => ?_)
      have hi_17 : IV (putC (takeC (takeC f a1 p1) a2 p2) a1 p1) := IV.wputC hi_4 (by omega) (by omega)
      obtain ⟨rfl, rfl⟩ := hp_16
      refine lv_aload_n hx hb dX5_swapIfBothFit_88 rfl (lv_at hl 3 rfl) ?_
      refine gf_X5_9 cx hw dX5_swapIfBothFit_89 ?_
      refine lv_iload_n hx hb dX5_swapIfBothFit_92 rfl (lv_at hl 5 rfl) ?_
      refine lv_iload hx hb dX5_swapIfBothFit_93 (lv_at hl 0 rfl) ?_
      refine lv_if_eq (tgt := 102) hx hb dX5_swapIfBothFit_95 (by decide) (fun _ => ?_) (fun q => absurd (by decide) q)
      refine lv_iload hx hb dX5_swapIfBothFit_102 (lv_at hl 1 rfl) ?_
      refine goV hw (runVW (k := 1) (As := [.int (nI a2), .int (nI p2)]) (rest := []) cx hw (k_X1_putIn l D a cI cZ (putC (takeC (takeC f a1 p1) a2 p2) a1 p1) u a2 p2  hi_17 (by omega) (by omega)) lk_X5_61 rfl rfl ⟨Nat.le_of_ble_eq_true rfl, Nat.le_of_ble_eq_true rfl⟩ ⟨rfl, rfl⟩ ⟨Nat.zero_le _, Nat.zero_le _⟩ rfl rfl hl.1 (Nat.le_of_ble_eq_true rfl) dX5_swapIfBothFit_104) (fun f_19 u_19 H locs hp_19 hw => ?_)
      have hi_20 : IV (putC (putC (takeC (takeC f a1 p1) a2 p2) a1 p1) a2 p2) := IV.wputC hi_17 (by omega) (by omega)
      obtain ⟨rfl, rfl⟩ := hp_19
      refine lv_iload hx hb dX5_swapIfBothFit_107 (lv_at hl 0 rfl) ?_
      exact retZ cx hw hr hk rfl dX5_swapIfBothFit_109 ⟨hi_20, (KK.wputC (by decide) (KK.wputC (by decide) (KK.wtakeC (by decide) (KK.wtakeC (by decide) KK.rf)))), p1, by omega, ((putC_ne (by omega)).trans putC_same)⟩
    · refine lv_iconst (v := 1) hx hb dX5_swapIfBothFit_62 (by decide) ?_
      refine lv_goto (tgt := 67) hx hb dX5_swapIfBothFit_63 (by decide) ?_
      refine lv_istore (lv' := [(5, .int 1), (4, .int (nI p2)), (3, .int (nI p1)), (0, .ref (a 7)), (1, .int (nI a1)), (2, .int (nI a2))]) hx hb dX5_swapIfBothFit_67 hl (by decide) rfl (fun ls hl => ?_)
      refine lv_aload_n hx hb dX5_swapIfBothFit_69 rfl (lv_at hl 3 rfl) ?_
      refine gf_X5_9 cx hw dX5_swapIfBothFit_70 ?_
      refine lv_iload_n hx hb dX5_swapIfBothFit_73 rfl (lv_at hl 4 rfl) ?_
      refine lv_iload hx hb dX5_swapIfBothFit_74 (lv_at hl 0 rfl) ?_
      refine lv_if_eq (tgt := 84) hx hb dX5_swapIfBothFit_76 (by decide) (fun q => absurd q (by decide)) (fun _ => ?_)
      refine lv_iload hx hb dX5_swapIfBothFit_79 (lv_at hl 1 rfl) ?_
      refine lv_goto (tgt := 85) hx hb dX5_swapIfBothFit_81 (by decide) ?_
      refine goV hw (runVW (k := 1) (As := [.int (nI a1), .int (nI p2)]) (rest := []) cx hw (k_X1_putIn l D a cI cZ (takeC (takeC f a1 p1) a2 p2) u a1 p2  hi_4 (by omega) (by omega)) lk_X5_61 rfl rfl ⟨Nat.le_of_ble_eq_true rfl, Nat.le_of_ble_eq_true rfl⟩ ⟨rfl, rfl⟩ ⟨Nat.zero_le _, Nat.zero_le _⟩ rfl rfl hl.1 (Nat.le_of_ble_eq_true rfl) dX5_swapIfBothFit_85) (fun f_22 u_22 H locs hp_22 hw => ?_)
      have hi_23 : IV (putC (takeC (takeC f a1 p1) a2 p2) a1 p2) := IV.wputC hi_4 (by omega) (by omega)
      obtain ⟨rfl, rfl⟩ := hp_22
      refine lv_aload_n hx hb dX5_swapIfBothFit_88 rfl (lv_at hl 3 rfl) ?_
      refine gf_X5_9 cx hw dX5_swapIfBothFit_89 ?_
      refine lv_iload_n hx hb dX5_swapIfBothFit_92 rfl (lv_at hl 5 rfl) ?_
      refine lv_iload hx hb dX5_swapIfBothFit_93 (lv_at hl 0 rfl) ?_
      refine lv_if_eq (tgt := 102) hx hb dX5_swapIfBothFit_95 (by decide) (fun q => absurd q (by decide)) (fun _ => ?_)
      refine lv_iload_n hx hb dX5_swapIfBothFit_98 rfl (lv_at hl 2 rfl) ?_
      refine lv_goto (tgt := 104) hx hb dX5_swapIfBothFit_99 (by decide) ?_
      refine goV hw (runVW (k := 1) (As := [.int (nI a2), .int (nI p1)]) (rest := []) cx hw (k_X1_putIn l D a cI cZ (putC (takeC (takeC f a1 p1) a2 p2) a1 p2) u a2 p1  hi_23 (by omega) (by omega)) lk_X5_61 rfl rfl ⟨Nat.le_of_ble_eq_true rfl, Nat.le_of_ble_eq_true rfl⟩ ⟨rfl, rfl⟩ ⟨Nat.zero_le _, Nat.zero_le _⟩ rfl rfl hl.1 (Nat.le_of_ble_eq_true rfl) dX5_swapIfBothFit_104) (fun f_25 u_25 H locs hp_25 hw => ?_)
      have hi_26 : IV (putC (putC (takeC (takeC f a1 p1) a2 p2) a1 p2) a2 p1) := IV.wputC hi_23 (by omega) (by omega)
      obtain ⟨rfl, rfl⟩ := hp_25
      refine lv_iload hx hb dX5_swapIfBothFit_107 (lv_at hl 0 rfl) ?_
      exact retZ cx hw hr hk rfl dX5_swapIfBothFit_109 ⟨hi_26, (KK.wputC (by decide) (KK.wputC (by decide) (KK.wtakeC (by decide) (KK.wtakeC (by decide) KK.rf)))), p2, by omega, ((putC_ne (by omega)).trans putC_same)⟩

set_option maxHeartbeats 4000000 in
set_option maxRecDepth 100000 in
theorem k_X5_doFirstGoodSwapOf (l : Launch) (D : va_G) (a : Nat → Nat) (cI cZ : ClassId) (f : FF) (u : UU) (a1 : Nat) (le : Int64) (p1 : Nat) (hi : IV f) (h_1 : a1 < 40) (g_1 : p1 < 32) (e_1 : f 18 a1 = nI p1) : KI l yX5_doFirstGoodSwapOf cX5_doFirstGoodSwapOf 5 (some .boolean) ({ frames := 5, cells := 0, slots := 0, locals := 110 } : Room) D a cI cZ [.ref (a 7), .int (nI a1), .long le] f u (fun r f2 u2 => IV f2 ∧ KK [14, 18] f f2 ∧ (∃ q, q < 32 ∧ f2 18 a1 = nI q)) := by
  refine KX.of (by decide) (Nat.le_of_ble_eq_true rfl) ?_
  intro p e s m below meth c cx hw hr hk ls hl
  have cx : Cx p s m _ c cX5_doFirstGoodSwapOf RX5 5 D cI cZ := cx
  have hl : lv_has ls 5 [(0, .ref (a 7)), (1, .int (nI a1)), (2, .long le)] := hl
  have hx := cx.1.1
  have hb := cx.1.2.1
  refine lv_iload_n hx hb dX5_doFirstGoodSwapOf_0 rfl (lv_at hl 1 rfl) ?_
  refine lv_iconst (v := 1) hx hb dX5_doFirstGoodSwapOf_1 (by decide) ?_
  refine lv_iadd hx hb dX5_doFirstGoodSwapOf_2 ?_
  refine topc (y := (nI (a1 + 1))) (nI_add a1 1) ?_
  refine lv_istore (lv' := [(4, .int (nI (a1 + 1))), (0, .ref (a 7)), (1, .int (nI a1)), (2, .long le)]) hx hb dX5_doFirstGoodSwapOf_3 hl (by decide) rfl (fun ls hl => ?_)
  have loop_1 : ∀ (k_1 : Nat) (v4_1 : Nat), v4_1 ≤ 41 → 41 + 1 - v4_1 < k_1 → ∀ (f_1 : FF) (u_1 : UU), IV f_1 → KK [14, 18] f f_1 → (∃ q, q < 32 ∧ f_1 18 a1 = nI q) → (a1 < v4_1) → ∀ (H : Heap) (locs : List Loc) (ls : Array Slot), Wd D a cI cZ s f_1 u_1 H locs → lv_has ls 5 [(4, .int (nI v4_1)), (0, .ref (a 7)), (1, .int (nI a1)), (2, .long le)] → W p l e ({ frames := 5, cells := 0, slots := 0, locals := 110 } : Room) s m ([.ref (a 7), .int (nI a1), .long le] : List Value).toArray below meth c H locs 0 0 (MQ below (QI D a cI cZ (fun r f2 u2 => IV f2 ∧ KK [14, 18] f f2 ∧ (∃ q, q < 32 ∧ f2 18 a1 = nI q))) ([.ref (a 7), .int (nI a1), .long le] : List Value).toArray s 0 0 (AA a)) (F0 m 5 ls []) := by
    intro k_1
    induction k_1 with
    | zero => intros; omega
    | succ k_1 ih_1 =>
      intro v4_1  hb0_1  hm_1 f_1 u_1 hi_1 kk_1 hq hgt H locs ls hw hl
      obtain ⟨qq_2, hqq_2, eq_2⟩ := hq
      refine lv_iload hx hb dX5_doFirstGoodSwapOf_5 (lv_at hl 0 rfl) ?_
      refine lv_aload_n hx hb dX5_doFirstGoodSwapOf_7 rfl (lv_at hl 1 rfl) ?_
      refine gf_X5_9 cx hw dX5_doFirstGoodSwapOf_8 ?_
      refine gf_X5_15 cx hw dX5_doFirstGoodSwapOf_11 ?_
      obtain ⟨n_3, hn_3, en_3⟩ := IV.s_1_12 hi_1
      refine topc (y := (nI n_3)) en_3 ?_
      refine lv_icmp_ge (tgt := 58) hx hb dX5_doFirstGoodSwapOf_14 (by decide) (fun c_4 => ?_) (fun c_4 => ?_)
      · have c_4 : n_3 ≤ v4_1 := (nI_leI (a := n_3) (b := v4_1) (by omega) (by omega)).mp c_4
        refine lv_iconst (v := 0) hx hb dX5_doFirstGoodSwapOf_58 (by decide) ?_
        exact retZ cx hw hr hk rfl dX5_doFirstGoodSwapOf_59 ⟨hi_1, kk_1, qq_2, by omega, eq_2⟩
      · have c_4 : ¬ n_3 ≤ v4_1 := fun z => c_4 ((nI_leI (a := n_3) (b := v4_1) (by omega) (by omega)).mpr z)
        refine lv_aload_n hx hb dX5_doFirstGoodSwapOf_17 rfl (lv_at hl 1 rfl) ?_
        refine gf_X5_9 cx hw dX5_doFirstGoodSwapOf_18 ?_
        refine lv_iload hx hb dX5_doFirstGoodSwapOf_21 (lv_at hl 0 rfl) ?_
        refine goI hw (runVW (k := 1) (As := [.int (nI v4_1)]) (rest := []) cx hw (k_X1_isLoaded l D a cI cZ f_1 u_1 v4_1  hi_1 (by omega)) lk_X5_21 rfl rfl ⟨Nat.le_of_ble_eq_true rfl, Nat.le_of_ble_eq_true rfl⟩ ⟨rfl, rfl⟩ ⟨Nat.zero_le _, Nat.zero_le _⟩ rfl rfl hl.1 (Nat.le_of_ble_eq_true rfl) dX5_doFirstGoodSwapOf_23) (fun r_5 f_5 u_5 H locs hp_5 hw => ?_)
        obtain ⟨rfl, rfl, ha_5⟩ := hp_5
        rcases ha_5 with ⟨er_5, q0_5_0⟩ | ⟨er_5, b1_5_j, q1_5_0, q1_5_1⟩
        · subst er_5
          refine lv_if_eq (tgt := 52) hx hb dX5_doFirstGoodSwapOf_26 (by decide) (fun _ => ?_) (fun q => absurd (by decide) q)
          refine lv_iinc (v := (nI (v4_1 + 1))) (lv' := [(4, .int (nI (v4_1 + 1))), (0, .ref (a 7)), (1, .int (nI a1)), (2, .long le)]) hx hb dX5_doFirstGoodSwapOf_52 hl (k := 0) rfl (nI_add v4_1 1) (by decide) rfl (fun ls hl => ?_)
          refine lv_goto (tgt := 5) hx hb dX5_doFirstGoodSwapOf_55 (by decide) ?_
          exact ih_1 (v4_1 + 1)  (by omega) (by omega) f_1 u_1 hi_1 kk_1 ⟨qq_2, by omega, eq_2⟩ (by omega) _ _ _ hw (lv_sub hl [0, 1, 2, 3] rfl)
        · subst er_5
          refine lv_if_eq (tgt := 52) hx hb dX5_doFirstGoodSwapOf_26 (by decide) (fun q => absurd q (by decide)) (fun _ => ?_)
          refine lv_aload_n hx hb dX5_doFirstGoodSwapOf_29 rfl (lv_at hl 1 rfl) ?_
          refine lv_iload_n hx hb dX5_doFirstGoodSwapOf_30 rfl (lv_at hl 2 rfl) ?_
          refine lv_iload hx hb dX5_doFirstGoodSwapOf_31 (lv_at hl 0 rfl) ?_
          refine lv_lload_n hx hb dX5_doFirstGoodSwapOf_33 rfl (lv_at hl 3 rfl) ?_
          refine goI hw (runVW (k := 7) (As := [.int (nI a1), .int (nI v4_1), .long le]) (rest := []) cx hw (k_X5_isNearerSwapped l D a cI cZ f_1 u_1 a1 v4_1 le qq_2 b1_5_j hi_1 (by omega) (by omega) (by omega) (by omega) eq_2 q1_5_1) lk_X5_29 rfl rfl ⟨Nat.le_of_ble_eq_true rfl, Nat.le_of_ble_eq_true rfl⟩ ⟨rfl, rfl⟩ ⟨Nat.zero_le _, Nat.zero_le _⟩ rfl rfl hl.1 (Nat.le_of_ble_eq_true rfl) dX5_doFirstGoodSwapOf_34) (fun r_8 f_8 u_8 H locs hp_8 hw => ?_)
          obtain ⟨rfl, rfl⟩ := hp_8
          refine lv_if_eq (tgt := 52) hx hb dX5_doFirstGoodSwapOf_37 (by decide) (fun _ => ?_) (fun _ => ?_)
          · refine lv_iinc (v := (nI (v4_1 + 1))) (lv' := [(4, .int (nI (v4_1 + 1))), (0, .ref (a 7)), (1, .int (nI a1)), (2, .long le)]) hx hb dX5_doFirstGoodSwapOf_52 hl (k := 0) rfl (nI_add v4_1 1) (by decide) rfl (fun ls hl => ?_)
            refine lv_goto (tgt := 5) hx hb dX5_doFirstGoodSwapOf_55 (by decide) ?_
            exact ih_1 (v4_1 + 1)  (by omega) (by omega) f_1 u_1 hi_1 kk_1 ⟨qq_2, by omega, eq_2⟩ (by omega) _ _ _ hw (lv_sub hl [0, 1, 2, 3] rfl)
          · refine lv_aload_n hx hb dX5_doFirstGoodSwapOf_40 rfl (lv_at hl 1 rfl) ?_
            refine lv_iload_n hx hb dX5_doFirstGoodSwapOf_41 rfl (lv_at hl 2 rfl) ?_
            refine lv_iload hx hb dX5_doFirstGoodSwapOf_42 (lv_at hl 0 rfl) ?_
            refine goI hw (runVW (k := 7) (As := [.int (nI a1), .int (nI v4_1)]) (rest := []) cx hw (k_X5_swapIfBothFit l D a cI cZ f_1 u_1 a1 v4_1 qq_2 b1_5_j hi_1 (by omega) (by omega) (by omega) (by omega) (by omega) eq_2 q1_5_1) lk_X5_33 rfl rfl ⟨Nat.le_of_ble_eq_true rfl, Nat.le_of_ble_eq_true rfl⟩ ⟨rfl, rfl⟩ ⟨Nat.zero_le _, Nat.zero_le _⟩ rfl rfl hl.1 (Nat.le_of_ble_eq_true rfl) dX5_doFirstGoodSwapOf_44) (fun r_10 f_10 u_10 H locs hp_10 hw => ?_)
            obtain ⟨hi_10, kk_10, ex0_10⟩ := hp_10
            obtain ⟨qq_ex0_10, hqq_ex0_10, eq_ex0_10⟩ := ex0_10
            refine lv_if_eq (tgt := 52) hx hb dX5_doFirstGoodSwapOf_47 (by decide) (fun _ => ?_) (fun _ => ?_)
            · refine lv_iinc (v := (nI (v4_1 + 1))) (lv' := [(4, .int (nI (v4_1 + 1))), (0, .ref (a 7)), (1, .int (nI a1)), (2, .long le)]) hx hb dX5_doFirstGoodSwapOf_52 hl (k := 0) rfl (nI_add v4_1 1) (by decide) rfl (fun ls hl => ?_)
              refine lv_goto (tgt := 5) hx hb dX5_doFirstGoodSwapOf_55 (by decide) ?_
              exact ih_1 (v4_1 + 1)  (by omega) (by omega) f_10 u_10 hi_10 (KK.tr kk_1 (kk_10.mono (by decide))) ⟨qq_ex0_10, by omega, eq_ex0_10⟩ (by omega) _ _ _ hw (lv_sub hl [0, 1, 2, 3] rfl)
            · refine lv_iconst (v := 1) hx hb dX5_doFirstGoodSwapOf_50 (by decide) ?_
              exact retZ cx hw hr hk rfl dX5_doFirstGoodSwapOf_51 ⟨hi_10, (KK.tr kk_1 (kk_10.mono (by decide))), qq_ex0_10, by omega, eq_ex0_10⟩
  exact loop_1 _ (a1 + 1)  (by omega)  (Nat.lt_succ_self _) f u hi KK.rf ⟨p1, by omega, e_1⟩ (by omega) _ _ _ hw (lv_sub hl [0, 1, 2, 3] rfl)

set_option maxHeartbeats 4000000 in
set_option maxRecDepth 100000 in
theorem k_X5_doFirstGoodSwap (l : Launch) (D : va_G) (a : Nat → Nat) (cI cZ : ClassId) (f : FF) (u : UU) (le : Int64) (hi : IV f)  : KI l yX5_doFirstGoodSwap cX5_doFirstGoodSwap 4 (some .boolean) ({ frames := 6, cells := 0, slots := 0, locals := 134 } : Room) D a cI cZ [.ref (a 7), .long le] f u (fun r f2 u2 => IV f2 ∧ KK [14, 18] f f2) := by
  refine KX.of (by decide) (Nat.le_of_ble_eq_true rfl) ?_
  intro p e s m below meth c cx hw hr hk ls hl
  have cx : Cx p s m _ c cX5_doFirstGoodSwap RX5 4 D cI cZ := cx
  have hl : lv_has ls 4 [(0, .ref (a 7)), (1, .long le)] := hl
  have hx := cx.1.1
  have hb := cx.1.2.1
  refine lv_iconst (v := 0) hx hb dX5_doFirstGoodSwap_0 (by decide) ?_
  refine lv_istore_n (lv' := [(3, .int 0), (0, .ref (a 7)), (1, .long le)]) hx hb dX5_doFirstGoodSwap_1 rfl hl (by decide) rfl (fun ls hl => ?_)
  have loop_1 : ∀ (k_1 : Nat) (v3_1 : Nat), v3_1 ≤ 40 → 40 + 1 - v3_1 < k_1 → ∀ (f_1 : FF) (u_1 : UU), IV f_1 → KK [14, 18] f f_1 → ∀ (H : Heap) (locs : List Loc) (ls : Array Slot), Wd D a cI cZ s f_1 u_1 H locs → lv_has ls 4 [(3, .int (nI v3_1)), (0, .ref (a 7)), (1, .long le)] → W p l e ({ frames := 6, cells := 0, slots := 0, locals := 134 } : Room) s m ([.ref (a 7), .long le] : List Value).toArray below meth c H locs 0 0 (MQ below (QI D a cI cZ (fun r f2 u2 => IV f2 ∧ KK [14, 18] f f2)) ([.ref (a 7), .long le] : List Value).toArray s 0 0 (AA a)) (F0 m 2 ls []) := by
    intro k_1
    induction k_1 with
    | zero => intros; omega
    | succ k_1 ih_1 =>
      intro v3_1  hb0_1  hm_1 f_1 u_1 hi_1 kk_1  H locs ls hw hl
      refine lv_iload_n hx hb dX5_doFirstGoodSwap_2 rfl (lv_at hl 0 rfl) ?_
      refine lv_aload_n hx hb dX5_doFirstGoodSwap_3 rfl (lv_at hl 1 rfl) ?_
      refine gf_X5_9 cx hw dX5_doFirstGoodSwap_4 ?_
      refine gf_X5_15 cx hw dX5_doFirstGoodSwap_7 ?_
      obtain ⟨n_2, hn_2, en_2⟩ := IV.s_1_12 hi_1
      refine topc (y := (nI n_2)) en_2 ?_
      refine lv_icmp_ge (tgt := 41) hx hb dX5_doFirstGoodSwap_10 (by decide) (fun c_3 => ?_) (fun c_3 => ?_)
      · have c_3 : n_2 ≤ v3_1 := (nI_leI (a := n_2) (b := v3_1) (by omega) (by omega)).mp c_3
        refine lv_iconst (v := 0) hx hb dX5_doFirstGoodSwap_41 (by decide) ?_
        exact retZ cx hw hr hk rfl dX5_doFirstGoodSwap_42 ⟨hi_1, kk_1⟩
      · have c_3 : ¬ n_2 ≤ v3_1 := fun z => c_3 ((nI_leI (a := n_2) (b := v3_1) (by omega) (by omega)).mpr z)
        refine lv_aload_n hx hb dX5_doFirstGoodSwap_13 rfl (lv_at hl 1 rfl) ?_
        refine gf_X5_9 cx hw dX5_doFirstGoodSwap_14 ?_
        refine lv_iload_n hx hb dX5_doFirstGoodSwap_17 rfl (lv_at hl 0 rfl) ?_
        refine goI hw (runVW (k := 1) (As := [.int (nI v3_1)]) (rest := []) cx hw (k_X1_isLoaded l D a cI cZ f_1 u_1 v3_1  hi_1 (by omega)) lk_X5_21 rfl rfl ⟨Nat.le_of_ble_eq_true rfl, Nat.le_of_ble_eq_true rfl⟩ ⟨rfl, rfl⟩ ⟨Nat.zero_le _, Nat.zero_le _⟩ rfl rfl hl.1 (Nat.le_of_ble_eq_true rfl) dX5_doFirstGoodSwap_18) (fun r_4 f_4 u_4 H locs hp_4 hw => ?_)
        obtain ⟨rfl, rfl, ha_4⟩ := hp_4
        rcases ha_4 with ⟨er_4, q0_4_0⟩ | ⟨er_4, b1_4_j, q1_4_0, q1_4_1⟩
        · subst er_4
          refine lv_if_eq (tgt := 35) hx hb dX5_doFirstGoodSwap_21 (by decide) (fun _ => ?_) (fun q => absurd (by decide) q)
          refine lv_iinc (v := (nI (v3_1 + 1))) (lv' := [(3, .int (nI (v3_1 + 1))), (0, .ref (a 7)), (1, .long le)]) hx hb dX5_doFirstGoodSwap_35 hl (k := 0) rfl (nI_add v3_1 1) (by decide) rfl (fun ls hl => ?_)
          refine lv_goto (tgt := 2) hx hb dX5_doFirstGoodSwap_38 (by decide) ?_
          exact ih_1 (v3_1 + 1)  (by omega) (by omega) f_1 u_1 hi_1 kk_1  _ _ _ hw (lv_sub hl [0, 1, 2] rfl)
        · subst er_4
          refine lv_if_eq (tgt := 35) hx hb dX5_doFirstGoodSwap_21 (by decide) (fun q => absurd q (by decide)) (fun _ => ?_)
          refine lv_aload_n hx hb dX5_doFirstGoodSwap_24 rfl (lv_at hl 1 rfl) ?_
          refine lv_iload_n hx hb dX5_doFirstGoodSwap_25 rfl (lv_at hl 0 rfl) ?_
          refine lv_lload_n hx hb dX5_doFirstGoodSwap_26 rfl (lv_at hl 2 rfl) ?_
          refine goI hw (runVW (k := 7) (As := [.int (nI v3_1), .long le]) (rest := []) cx hw (k_X5_doFirstGoodSwapOf l D a cI cZ f_1 u_1 v3_1 le b1_4_j hi_1 (by omega) (by omega) q1_4_1) lk_X5_25 rfl rfl ⟨Nat.le_of_ble_eq_true rfl, Nat.le_of_ble_eq_true rfl⟩ ⟨rfl, rfl⟩ ⟨Nat.zero_le _, Nat.zero_le _⟩ rfl rfl hl.1 (Nat.le_of_ble_eq_true rfl) dX5_doFirstGoodSwap_27) (fun r_7 f_7 u_7 H locs hp_7 hw => ?_)
          obtain ⟨hi_7, kk_7, ex0_7⟩ := hp_7
          obtain ⟨qq_ex0_7, hqq_ex0_7, eq_ex0_7⟩ := ex0_7
          refine lv_if_eq (tgt := 35) hx hb dX5_doFirstGoodSwap_30 (by decide) (fun _ => ?_) (fun _ => ?_)
          · refine lv_iinc (v := (nI (v3_1 + 1))) (lv' := [(3, .int (nI (v3_1 + 1))), (0, .ref (a 7)), (1, .long le)]) hx hb dX5_doFirstGoodSwap_35 hl (k := 0) rfl (nI_add v3_1 1) (by decide) rfl (fun ls hl => ?_)
            refine lv_goto (tgt := 2) hx hb dX5_doFirstGoodSwap_38 (by decide) ?_
            exact ih_1 (v3_1 + 1)  (by omega) (by omega) f_7 u_7 hi_7 (KK.tr kk_1 (kk_7.mono (by decide)))  _ _ _ hw (lv_sub hl [0, 1, 2] rfl)
          · refine lv_iconst (v := 1) hx hb dX5_doFirstGoodSwap_33 (by decide) ?_
            exact retZ cx hw hr hk rfl dX5_doFirstGoodSwap_34 ⟨hi_7, (KK.tr kk_1 (kk_7.mono (by decide)))⟩
  exact loop_1 _ 0  (by omega)  (Nat.lt_succ_self _) f u hi KK.rf  _ _ _ hw (lv_sub hl [0, 1, 2] rfl)

set_option maxHeartbeats 4000000 in
set_option maxRecDepth 100000 in
theorem k_X5_firstGoodPlace (l : Launch) (D : va_G) (a : Nat → Nat) (cI cZ : ClassId) (f : FF) (u : UU) (i : Nat) (ar : Int32) (lb : Int64) (lw : Int64) (hi : IV f) (h_i : i < 40) : KI l yX5_firstGoodPlace cX5_firstGoodPlace 12 (some .int) ({ frames := 4, cells := 0, slots := 0, locals := 85 } : Room) D a cI cZ [.ref (a 7), .int (nI i), .int ar, .long lb, .long lw] f u (fun r f2 u2 => f = f2 ∧ u = u2 ∧ ((r = (-1)) ∨ (∃ j, j < 32 ∧ r = nI j))) := by
  refine KX.of (by decide) (Nat.le_of_ble_eq_true rfl) ?_
  intro p e s m below meth c cx hw hr hk ls hl
  have cx : Cx p s m _ c cX5_firstGoodPlace RX5 12 D cI cZ := cx
  have hl : lv_has ls 12 [(0, .ref (a 7)), (1, .int (nI i)), (2, .int ar), (3, .long lb), (5, .long lw)] := hl
  have hx := cx.1.1
  have hb := cx.1.2.1
  refine lv_iconst (v := 0) hx hb dX5_firstGoodPlace_0 (by decide) ?_
  refine lv_istore (lv' := [(7, .int 0), (0, .ref (a 7)), (1, .int (nI i)), (2, .int ar), (3, .long lb), (5, .long lw)]) hx hb dX5_firstGoodPlace_1 hl (by decide) rfl (fun ls hl => ?_)
  have loop_1 : ∀ (k_1 : Nat) (v7_1 : Nat), v7_1 ≤ 4 → 4 + 1 - v7_1 < k_1 → ∀ (H : Heap) (locs : List Loc) (ls : Array Slot), Wd D a cI cZ s f u H locs → lv_has ls 12 [(7, .int (nI v7_1)), (0, .ref (a 7)), (1, .int (nI i)), (2, .int ar), (3, .long lb), (5, .long lw)] → W p l e ({ frames := 4, cells := 0, slots := 0, locals := 85 } : Room) s m ([.ref (a 7), .int (nI i), .int ar, .long lb, .long lw] : List Value).toArray below meth c H locs 0 0 (MQ below (QI D a cI cZ (fun r f2 u2 => f = f2 ∧ u = u2 ∧ ((r = (-1)) ∨ (∃ j, j < 32 ∧ r = nI j)))) ([.ref (a 7), .int (nI i), .int ar, .long lb, .long lw] : List Value).toArray s 0 0 (AA a)) (F0 m 3 ls []) := by
    intro k_1
    induction k_1 with
    | zero => intros; omega
    | succ k_1 ih_1 =>
      intro v7_1  hb0_1  hm_1  H locs ls hw hl
      refine lv_iload hx hb dX5_firstGoodPlace_3 (lv_at hl 0 rfl) ?_
      refine lv_aload_n hx hb dX5_firstGoodPlace_5 rfl (lv_at hl 1 rfl) ?_
      refine gf_X5_9 cx hw dX5_firstGoodPlace_6 ?_
      refine gf_X5_76 cx hw dX5_firstGoodPlace_9 ?_
      obtain ⟨n_2, hn_2, en_2⟩ := IV.s_1_3 hi
      refine topc (y := (nI n_2)) en_2 ?_
      refine lv_icmp_ge (tgt := 99) hx hb dX5_firstGoodPlace_12 (by decide) (fun c_3 => ?_) (fun c_3 => ?_)
      · have c_3 : n_2 ≤ v7_1 := (nI_leI (a := n_2) (b := v7_1) (by omega) (by omega)).mp c_3
        refine lv_iconst (v := (-1)) hx hb dX5_firstGoodPlace_99 (by decide) ?_
        exact retI cx hw hr hk dX5_firstGoodPlace_100 ⟨rfl, rfl, Or.inl rfl⟩
      · have c_3 : ¬ n_2 ≤ v7_1 := fun z => c_3 ((nI_leI (a := n_2) (b := v7_1) (by omega) (by omega)).mpr z)
        refine lv_iconst (v := 0) hx hb dX5_firstGoodPlace_15 (by decide) ?_
        refine lv_istore (lv' := [(8, .int 0), (7, .int (nI v7_1)), (0, .ref (a 7)), (1, .int (nI i)), (2, .int ar), (3, .long lb), (5, .long lw)]) hx hb dX5_firstGoodPlace_16 hl (by decide) rfl (fun ls hl => ?_)
        have loop_4 : ∀ (k_4 : Nat) (v8_4 : Nat), v8_4 ≤ 8 → 8 + 1 - v8_4 < k_4 → ∀ (H : Heap) (locs : List Loc) (ls : Array Slot), Wd D a cI cZ s f u H locs → lv_has ls 12 [(8, .int (nI v8_4)), (7, .int (nI v7_1)), (0, .ref (a 7)), (1, .int (nI i)), (2, .int ar), (3, .long lb), (5, .long lw)] → W p l e ({ frames := 4, cells := 0, slots := 0, locals := 85 } : Room) s m ([.ref (a 7), .int (nI i), .int ar, .long lb, .long lw] : List Value).toArray below meth c H locs 0 0 (MQ below (QI D a cI cZ (fun r f2 u2 => f = f2 ∧ u = u2 ∧ ((r = (-1)) ∨ (∃ j, j < 32 ∧ r = nI j)))) ([.ref (a 7), .int (nI i), .int ar, .long lb, .long lw] : List Value).toArray s 0 0 (AA a)) (F0 m 18 ls []) := by
          intro k_4
          induction k_4 with
          | zero => intros; omega
          | succ k_4 ih_4 =>
            intro v8_4  hb0_4  hm_4  H locs ls hw hl
            refine lv_iload hx hb dX5_firstGoodPlace_18 (lv_at hl 0 rfl) ?_
            refine lv_aload_n hx hb dX5_firstGoodPlace_20 rfl (lv_at hl 2 rfl) ?_
            refine gf_X5_9 cx hw dX5_firstGoodPlace_21 ?_
            refine gf_X5_79 cx hw dX5_firstGoodPlace_24 ?_
            refine lv_iload hx hb dX5_firstGoodPlace_27 (lv_at hl 1 rfl) ?_
            refine aldN 11 v7_1 cx hw rfl (by omega) (by decide) dX5_firstGoodPlace_29 ?_
            obtain ⟨n_5, hn_5, en_5⟩ := IV.a_11 hi (i := v7_1) (by omega)
            refine topc (y := (nI n_5)) en_5 ?_
            refine lv_icmp_ge (tgt := 93) hx hb dX5_firstGoodPlace_30 (by decide) (fun c_6 => ?_) (fun c_6 => ?_)
            · have c_6 : n_5 ≤ v8_4 := (nI_leI (a := n_5) (b := v8_4) (by omega) (by omega)).mp c_6
              refine lv_iinc (v := (nI (v7_1 + 1))) (lv' := [(7, .int (nI (v7_1 + 1))), (8, .int (nI v8_4)), (0, .ref (a 7)), (1, .int (nI i)), (2, .int ar), (3, .long lb), (5, .long lw)]) hx hb dX5_firstGoodPlace_93 hl (k := 1) rfl (nI_add v7_1 1) (by decide) rfl (fun ls hl => ?_)
              refine lv_goto (tgt := 3) hx hb dX5_firstGoodPlace_96 (by decide) ?_
              exact ih_1 (v7_1 + 1)  (by omega) (by omega) _ _ _ hw (lv_sub hl [0, 2, 3, 4, 5, 6] rfl)
            · have c_6 : ¬ n_5 ≤ v8_4 := fun z => c_6 ((nI_leI (a := n_5) (b := v8_4) (by omega) (by omega)).mpr z)
              refine lv_iload hx hb dX5_firstGoodPlace_33 (lv_at hl 1 rfl) ?_
              refine lv_iload hx hb dX5_firstGoodPlace_35 (lv_at hl 0 rfl) ?_
              refine goI hw (runSW (As := [.int (nI v7_1), .int (nI v8_4)]) (rest := []) cx hw (k_X1_placeOf l D a cI cZ f u v7_1 v8_4  ) lk_X5_82 ⟨Nat.le_of_ble_eq_true rfl, Nat.le_of_ble_eq_true rfl⟩ ⟨rfl, rfl⟩ ⟨Nat.zero_le _, Nat.zero_le _⟩ rfl rfl hl.1 (Nat.le_of_ble_eq_true rfl) dX5_firstGoodPlace_37) (fun r_7 f_7 u_7 H locs hp_7 hw => ?_)
              obtain ⟨rfl, rfl, ha_7⟩ := hp_7
              have er_7 := ha_7
              · subst er_7
                refine lv_istore (lv' := [(9, .int (nI (v7_1 * 8 + v8_4))), (8, .int (nI v8_4)), (7, .int (nI v7_1)), (0, .ref (a 7)), (1, .int (nI i)), (2, .int ar), (3, .long lb), (5, .long lw)]) hx hb dX5_firstGoodPlace_40 hl (by decide) rfl (fun ls hl => ?_)
                refine lv_lload hx hb dX5_firstGoodPlace_42 (lv_at hl 7 rfl) ?_
                refine lv_aload_n hx hb dX5_firstGoodPlace_44 rfl (lv_at hl 3 rfl) ?_
                refine gf_X5_9 cx hw dX5_firstGoodPlace_45 ?_
                refine lv_iload_n hx hb dX5_firstGoodPlace_48 rfl (lv_at hl 4 rfl) ?_
                refine lv_iload hx hb dX5_firstGoodPlace_49 (lv_at hl 0 rfl) ?_
                refine lv_iload_n hx hb dX5_firstGoodPlace_51 rfl (lv_at hl 5 rfl) ?_
                refine goL hw (runVW (k := 1) (As := [.int (nI i), .int (nI (v7_1 * 8 + v8_4)), .int ar]) (rest := [.long lw]) cx hw (k_X1_leanAt l D a cI cZ f u i (v7_1 * 8 + v8_4) ar  hi (by omega) (by omega)) lk_X5_68 rfl rfl ⟨Nat.le_of_ble_eq_true rfl, Nat.le_of_ble_eq_true rfl⟩ ⟨rfl, rfl⟩ ⟨Nat.zero_le _, Nat.zero_le _⟩ rfl rfl hl.1 (Nat.le_of_ble_eq_true rfl) dX5_firstGoodPlace_52) (fun r_8 f_8 u_8 H locs hp_8 hw => ?_)
                obtain ⟨rfl, rfl⟩ := hp_8
                refine lv_ladd hx hb dX5_firstGoodPlace_55 ?_
                refine lv_topl (fun y_9 _ => ?_)
                refine lv_lstore (lv' := [(10, .long y_9), (9, .int (nI (v7_1 * 8 + v8_4))), (8, .int (nI v8_4)), (7, .int (nI v7_1)), (0, .ref (a 7)), (1, .int (nI i)), (2, .int ar), (3, .long lb), (5, .long lw)]) hx hb dX5_firstGoodPlace_56 hl (by decide) rfl (fun ls hl => ?_)
                refine lv_lload hx hb dX5_firstGoodPlace_58 (lv_at hl 0 rfl) ?_
                refine jAbsL (rest := []) cx hl.1 mm_3_173 (Nat.le_of_ble_eq_true rfl) (Nat.le_of_ble_eq_true rfl) ⟨Nat.zero_le _, Nat.zero_le _⟩ dX5_firstGoodPlace_60 (fun y_10 => ?_)
                refine lv_lload_n hx hb dX5_firstGoodPlace_63 rfl (lv_at hl 7 rfl) ?_
                refine jAbsL (rest := [.long y_10]) cx hl.1 mm_3_173 (Nat.le_of_ble_eq_true rfl) (Nat.le_of_ble_eq_true rfl) ⟨Nat.zero_le _, Nat.zero_le _⟩ dX5_firstGoodPlace_64 (fun y_11 => ?_)
                refine W.lcmp hx hb dX5_firstGoodPlace_67 ?_
                refine lv_topi (fun x_12 _ => ?_)
                refine lv_if_ge (tgt := 87) hx hb dX5_firstGoodPlace_68 (by decide) (fun c_13 => ?_) (fun c_13 => ?_)
                · refine lv_iinc (v := (nI (v8_4 + 1))) (lv' := [(8, .int (nI (v8_4 + 1))), (10, .long y_9), (9, .int (nI (v7_1 * 8 + v8_4))), (7, .int (nI v7_1)), (0, .ref (a 7)), (1, .int (nI i)), (2, .int ar), (3, .long lb), (5, .long lw)]) hx hb dX5_firstGoodPlace_87 hl (k := 2) rfl (nI_add v8_4 1) (by decide) rfl (fun ls hl => ?_)
                  refine lv_goto (tgt := 18) hx hb dX5_firstGoodPlace_90 (by decide) ?_
                  exact ih_4 (v8_4 + 1)  (by omega) (by omega) _ _ _ hw (lv_sub hl [0, 3, 4, 5, 6, 7, 8] rfl)
                · refine lv_aload_n hx hb dX5_firstGoodPlace_71 rfl (lv_at hl 4 rfl) ?_
                  refine gf_X5_9 cx hw dX5_firstGoodPlace_72 ?_
                  refine lv_iload_n hx hb dX5_firstGoodPlace_75 rfl (lv_at hl 5 rfl) ?_
                  refine lv_iload hx hb dX5_firstGoodPlace_76 (lv_at hl 1 rfl) ?_
                  refine goI hw (runVW (k := 1) (As := [.int (nI i), .int (nI (v7_1 * 8 + v8_4))]) (rest := []) cx hw (k_X1_hindrance l D a cI cZ f u i (v7_1 * 8 + v8_4)  hi (by omega) (by omega)) lk_X5_57 rfl rfl ⟨Nat.le_of_ble_eq_true rfl, Nat.le_of_ble_eq_true rfl⟩ ⟨rfl, rfl⟩ ⟨Nat.zero_le _, Nat.zero_le _⟩ rfl rfl hl.1 (Nat.le_of_ble_eq_true rfl) dX5_firstGoodPlace_78) (fun r_14 f_14 u_14 H locs hp_14 hw => ?_)
                  obtain ⟨rfl, rfl⟩ := hp_14
                  refine lv_if_ne (tgt := 87) hx hb dX5_firstGoodPlace_81 (by decide) (fun _ => ?_) (fun _ => ?_)
                  · refine lv_iinc (v := (nI (v8_4 + 1))) (lv' := [(8, .int (nI (v8_4 + 1))), (10, .long y_9), (9, .int (nI (v7_1 * 8 + v8_4))), (7, .int (nI v7_1)), (0, .ref (a 7)), (1, .int (nI i)), (2, .int ar), (3, .long lb), (5, .long lw)]) hx hb dX5_firstGoodPlace_87 hl (k := 2) rfl (nI_add v8_4 1) (by decide) rfl (fun ls hl => ?_)
                    refine lv_goto (tgt := 18) hx hb dX5_firstGoodPlace_90 (by decide) ?_
                    exact ih_4 (v8_4 + 1)  (by omega) (by omega) _ _ _ hw (lv_sub hl [0, 3, 4, 5, 6, 7, 8] rfl)
                  · refine lv_iload hx hb dX5_firstGoodPlace_84 (lv_at hl 1 rfl) ?_
                    exact retI cx hw hr hk dX5_firstGoodPlace_86 ⟨rfl, rfl, Or.inr ⟨v7_1 * 8 + v8_4, by omega, rfl⟩⟩
        exact loop_4 _ 0  (by omega)  (Nat.lt_succ_self _) _ _ _ hw (lv_sub hl [0, 1, 2, 3, 4, 5, 6] rfl)
  exact loop_1 _ 0  (by omega)  (Nat.lt_succ_self _) _ _ _ hw (lv_sub hl [0, 1, 2, 3, 4, 5] rfl)

set_option maxHeartbeats 4000000 in
set_option maxRecDepth 100000 in
theorem k_X5_moveIfGood (l : Launch) (D : va_G) (a : Nat → Nat) (cI cZ : ClassId) (f : FF) (u : UU) (i : Nat) (ar : Int32) (le : Int64) (p1 : Nat) (hi : IV f) (h_1 : i < 40) (g_1 : p1 < 32) (e_1 : f 18 i = nI p1) : KI l yX5_moveIfGood cX5_moveIfGood 7 (some .boolean) ({ frames := 5, cells := 0, slots := 0, locals := 116 } : Room) D a cI cZ [.ref (a 7), .int (nI i), .int ar, .long le] f u (fun r f2 u2 => IV f2 ∧ KK [14, 18] f f2) := by
  refine KX.of (by decide) (Nat.le_of_ble_eq_true rfl) ?_
  intro p e s m below meth c cx hw hr hk ls hl
  have cx : Cx p s m _ c cX5_moveIfGood RX5 7 D cI cZ := cx
  have hl : lv_has ls 7 [(0, .ref (a 7)), (1, .int (nI i)), (2, .int ar), (3, .long le)] := hl
  have hx := cx.1.1
  have hb := cx.1.2.1
  refine lv_aload_n hx hb dX5_moveIfGood_0 rfl (lv_at hl 0 rfl) ?_
  refine gf_X5_9 cx hw dX5_moveIfGood_1 ?_
  refine gf_X5_41 cx hw dX5_moveIfGood_4 ?_
  refine lv_iload_n hx hb dX5_moveIfGood_7 rfl (lv_at hl 1 rfl) ?_
  refine aldN 18 i cx hw rfl (by omega) (by decide) dX5_moveIfGood_8 ?_
  refine topc (y := (nI p1)) e_1 ?_
  refine lv_istore (lv' := [(5, .int (nI p1)), (0, .ref (a 7)), (1, .int (nI i)), (2, .int ar), (3, .long le)]) hx hb dX5_moveIfGood_9 hl (by decide) rfl (fun ls hl => ?_)
  refine lv_aload_n hx hb dX5_moveIfGood_11 rfl (lv_at hl 1 rfl) ?_
  refine gf_X5_9 cx hw dX5_moveIfGood_12 ?_
  refine lv_iload_n hx hb dX5_moveIfGood_15 rfl (lv_at hl 2 rfl) ?_
  refine goV hw (runVW (k := 1) (As := [.int (nI i)]) (rest := []) cx hw (k_X1_takeOut l D a cI cZ f u i p1 hi (by omega) (by omega) e_1) lk_X5_53 rfl rfl ⟨Nat.le_of_ble_eq_true rfl, Nat.le_of_ble_eq_true rfl⟩ ⟨rfl, rfl⟩ ⟨Nat.zero_le _, Nat.zero_le _⟩ rfl rfl hl.1 (Nat.le_of_ble_eq_true rfl) dX5_moveIfGood_16) (fun f_1 u_1 H locs hp_1 hw => ?_)
  have hi_2 : IV (takeC f i p1) := IV.wtakeC hi
  obtain ⟨rfl, rfl⟩ := hp_1
  refine lv_aload_n hx hb dX5_moveIfGood_19 rfl (lv_at hl 1 rfl) ?_
  refine lv_iload_n hx hb dX5_moveIfGood_20 rfl (lv_at hl 2 rfl) ?_
  refine lv_iload_n hx hb dX5_moveIfGood_21 rfl (lv_at hl 3 rfl) ?_
  refine lv_lload_n hx hb dX5_moveIfGood_22 rfl (lv_at hl 4 rfl) ?_
  refine lv_lload_n hx hb dX5_moveIfGood_23 rfl (lv_at hl 4 rfl) ?_
  refine lv_aload_n hx hb dX5_moveIfGood_24 rfl (lv_at hl 1 rfl) ?_
  refine gf_X5_9 cx hw dX5_moveIfGood_25 ?_
  refine lv_iload_n hx hb dX5_moveIfGood_28 rfl (lv_at hl 2 rfl) ?_
  refine lv_iload hx hb dX5_moveIfGood_29 (lv_at hl 0 rfl) ?_
  refine lv_iload_n hx hb dX5_moveIfGood_31 rfl (lv_at hl 3 rfl) ?_
  refine goL hw (runVW (k := 1) (As := [.int (nI i), .int (nI p1), .int ar]) (rest := [.long le, .long le, .int ar, .int (nI i), .ref (a 7)]) cx hw (k_X1_leanAt l D a cI cZ (takeC f i p1) u i p1 ar  hi_2 (by omega) (by omega)) lk_X5_68 rfl rfl ⟨Nat.le_of_ble_eq_true rfl, Nat.le_of_ble_eq_true rfl⟩ ⟨rfl, rfl⟩ ⟨Nat.zero_le _, Nat.zero_le _⟩ rfl rfl hl.1 (Nat.le_of_ble_eq_true rfl) dX5_moveIfGood_32) (fun r_3 f_3 u_3 H locs hp_3 hw => ?_)
  obtain ⟨rfl, rfl⟩ := hp_3
  refine lv_lsub hx hb dX5_moveIfGood_35 ?_
  refine lv_topl (fun y_4 _ => ?_)
  refine goI hw (runVW (k := 7) (As := [.int (nI i), .int ar, .long le, .long y_4]) (rest := []) cx hw (k_X5_firstGoodPlace l D a cI cZ (takeC f i p1) u i ar le y_4  hi_2 (by omega)) lk_X5_72 rfl rfl ⟨Nat.le_of_ble_eq_true rfl, Nat.le_of_ble_eq_true rfl⟩ ⟨rfl, rfl⟩ ⟨Nat.zero_le _, Nat.zero_le _⟩ rfl rfl hl.1 (Nat.le_of_ble_eq_true rfl) dX5_moveIfGood_36) (fun r_5 f_5 u_5 H locs hp_5 hw => ?_)
  obtain ⟨rfl, rfl, ha_5⟩ := hp_5
  rcases ha_5 with er_5 | ⟨b1_5_j, q1_5_0, q1_5_1⟩
  · subst er_5
    refine lv_istore (lv' := [(6, .int (-1)), (5, .int (nI p1)), (0, .ref (a 7)), (1, .int (nI i)), (2, .int ar), (3, .long le)]) hx hb dX5_moveIfGood_39 hl (by decide) rfl (fun ls hl => ?_)
    refine lv_aload_n hx hb dX5_moveIfGood_41 rfl (lv_at hl 2 rfl) ?_
    refine gf_X5_9 cx hw dX5_moveIfGood_42 ?_
    refine lv_iload_n hx hb dX5_moveIfGood_45 rfl (lv_at hl 3 rfl) ?_
    refine lv_iload hx hb dX5_moveIfGood_46 (lv_at hl 0 rfl) ?_
    refine lv_iconst (v := (-1)) hx hb dX5_moveIfGood_48 (by decide) ?_
    refine lv_icmp_ne (tgt := 57) hx hb dX5_moveIfGood_49 (by decide) (fun q => absurd (by decide) q) (fun _ => ?_)
    refine lv_iload hx hb dX5_moveIfGood_52 (lv_at hl 1 rfl) ?_
    refine lv_goto (tgt := 59) hx hb dX5_moveIfGood_54 (by decide) ?_
    refine goV hw (runVW (k := 1) (As := [.int (nI i), .int (nI p1)]) (rest := []) cx hw (k_X1_putIn l D a cI cZ (takeC f i p1) u i p1  hi_2 (by omega) (by omega)) lk_X5_61 rfl rfl ⟨Nat.le_of_ble_eq_true rfl, Nat.le_of_ble_eq_true rfl⟩ ⟨rfl, rfl⟩ ⟨Nat.zero_le _, Nat.zero_le _⟩ rfl rfl hl.1 (Nat.le_of_ble_eq_true rfl) dX5_moveIfGood_59) (fun f_7 u_7 H locs hp_7 hw => ?_)
    have hi_8 : IV (putC (takeC f i p1) i p1) := IV.wputC hi_2 (by omega) (by omega)
    obtain ⟨rfl, rfl⟩ := hp_7
    refine lv_iload hx hb dX5_moveIfGood_62 (lv_at hl 0 rfl) ?_
    refine lv_iconst (v := (-1)) hx hb dX5_moveIfGood_64 (by decide) ?_
    refine lv_icmp_eq (tgt := 72) hx hb dX5_moveIfGood_65 (by decide) (fun _ => ?_) (fun q => absurd (by decide) q)
    refine lv_iconst (v := 0) hx hb dX5_moveIfGood_72 (by decide) ?_
    exact retZ cx hw hr hk rfl dX5_moveIfGood_73 ⟨hi_8, (KK.wputC (by decide) (KK.wtakeC (by decide) KK.rf))⟩
  · subst q1_5_1
    refine lv_istore (lv' := [(6, .int (nI b1_5_j)), (5, .int (nI p1)), (0, .ref (a 7)), (1, .int (nI i)), (2, .int ar), (3, .long le)]) hx hb dX5_moveIfGood_39 hl (by decide) rfl (fun ls hl => ?_)
    refine lv_aload_n hx hb dX5_moveIfGood_41 rfl (lv_at hl 2 rfl) ?_
    refine gf_X5_9 cx hw dX5_moveIfGood_42 ?_
    refine lv_iload_n hx hb dX5_moveIfGood_45 rfl (lv_at hl 3 rfl) ?_
    refine lv_iload hx hb dX5_moveIfGood_46 (lv_at hl 0 rfl) ?_
    refine lv_iconst (v := (-1)) hx hb dX5_moveIfGood_48 (by decide) ?_
    refine lv_icmp_ne (tgt := 57) hx hb dX5_moveIfGood_49 (by decide) (fun _ => ?_) (fun q => absurd q (nI_m1 (by omega)))
    refine lv_iload hx hb dX5_moveIfGood_57 (lv_at hl 0 rfl) ?_
    refine goV hw (runVW (k := 1) (As := [.int (nI i), .int (nI b1_5_j)]) (rest := []) cx hw (k_X1_putIn l D a cI cZ (takeC f i p1) u i b1_5_j  hi_2 (by omega) (by omega)) lk_X5_61 rfl rfl ⟨Nat.le_of_ble_eq_true rfl, Nat.le_of_ble_eq_true rfl⟩ ⟨rfl, rfl⟩ ⟨Nat.zero_le _, Nat.zero_le _⟩ rfl rfl hl.1 (Nat.le_of_ble_eq_true rfl) dX5_moveIfGood_59) (fun f_11 u_11 H locs hp_11 hw => ?_)
    have hi_12 : IV (putC (takeC f i p1) i b1_5_j) := IV.wputC hi_2 (by omega) (by omega)
    obtain ⟨rfl, rfl⟩ := hp_11
    refine lv_iload hx hb dX5_moveIfGood_62 (lv_at hl 0 rfl) ?_
    refine lv_iconst (v := (-1)) hx hb dX5_moveIfGood_64 (by decide) ?_
    refine lv_icmp_eq (tgt := 72) hx hb dX5_moveIfGood_65 (by decide) (fun q => absurd q (nI_m1 (by omega))) (fun _ => ?_)
    refine lv_iconst (v := 1) hx hb dX5_moveIfGood_68 (by decide) ?_
    refine lv_goto (tgt := 73) hx hb dX5_moveIfGood_69 (by decide) ?_
    exact retZ cx hw hr hk rfl dX5_moveIfGood_73 ⟨hi_12, (KK.wputC (by decide) (KK.wtakeC (by decide) KK.rf))⟩

set_option maxHeartbeats 4000000 in
set_option maxRecDepth 100000 in
theorem k_X5_doFirstGoodMove (l : Launch) (D : va_G) (a : Nat → Nat) (cI cZ : ClassId) (f : FF) (u : UU) (ar : Int32) (le : Int64) (hi : IV f)  : KI l yX5_doFirstGoodMove cX5_doFirstGoodMove 5 (some .boolean) ({ frames := 6, cells := 0, slots := 0, locals := 142 } : Room) D a cI cZ [.ref (a 7), .int ar, .long le] f u (fun r f2 u2 => IV f2 ∧ KK [14, 18] f f2) := by
  refine KX.of (by decide) (Nat.le_of_ble_eq_true rfl) ?_
  intro p e s m below meth c cx hw hr hk ls hl
  have cx : Cx p s m _ c cX5_doFirstGoodMove RX5 5 D cI cZ := cx
  have hl : lv_has ls 5 [(0, .ref (a 7)), (1, .int ar), (2, .long le)] := hl
  have hx := cx.1.1
  have hb := cx.1.2.1
  refine lv_iconst (v := 0) hx hb dX5_doFirstGoodMove_0 (by decide) ?_
  refine lv_istore (lv' := [(4, .int 0), (0, .ref (a 7)), (1, .int ar), (2, .long le)]) hx hb dX5_doFirstGoodMove_1 hl (by decide) rfl (fun ls hl => ?_)
  have loop_1 : ∀ (k_1 : Nat) (v4_1 : Nat), v4_1 ≤ 40 → 40 + 1 - v4_1 < k_1 → ∀ (f_1 : FF) (u_1 : UU), IV f_1 → KK [14, 18] f f_1 → ∀ (H : Heap) (locs : List Loc) (ls : Array Slot), Wd D a cI cZ s f_1 u_1 H locs → lv_has ls 5 [(4, .int (nI v4_1)), (0, .ref (a 7)), (1, .int ar), (2, .long le)] → W p l e ({ frames := 6, cells := 0, slots := 0, locals := 142 } : Room) s m ([.ref (a 7), .int ar, .long le] : List Value).toArray below meth c H locs 0 0 (MQ below (QI D a cI cZ (fun r f2 u2 => IV f2 ∧ KK [14, 18] f f2)) ([.ref (a 7), .int ar, .long le] : List Value).toArray s 0 0 (AA a)) (F0 m 3 ls []) := by
    intro k_1
    induction k_1 with
    | zero => intros; omega
    | succ k_1 ih_1 =>
      intro v4_1  hb0_1  hm_1 f_1 u_1 hi_1 kk_1  H locs ls hw hl
      refine lv_iload hx hb dX5_doFirstGoodMove_3 (lv_at hl 0 rfl) ?_
      refine lv_aload_n hx hb dX5_doFirstGoodMove_5 rfl (lv_at hl 1 rfl) ?_
      refine gf_X5_9 cx hw dX5_doFirstGoodMove_6 ?_
      refine gf_X5_15 cx hw dX5_doFirstGoodMove_9 ?_
      obtain ⟨n_2, hn_2, en_2⟩ := IV.s_1_12 hi_1
      refine topc (y := (nI n_2)) en_2 ?_
      refine lv_icmp_ge (tgt := 46) hx hb dX5_doFirstGoodMove_12 (by decide) (fun c_3 => ?_) (fun c_3 => ?_)
      · have c_3 : n_2 ≤ v4_1 := (nI_leI (a := n_2) (b := v4_1) (by omega) (by omega)).mp c_3
        refine lv_iconst (v := 0) hx hb dX5_doFirstGoodMove_46 (by decide) ?_
        exact retZ cx hw hr hk rfl dX5_doFirstGoodMove_47 ⟨hi_1, kk_1⟩
      · have c_3 : ¬ n_2 ≤ v4_1 := fun z => c_3 ((nI_leI (a := n_2) (b := v4_1) (by omega) (by omega)).mpr z)
        refine lv_aload_n hx hb dX5_doFirstGoodMove_15 rfl (lv_at hl 1 rfl) ?_
        refine gf_X5_9 cx hw dX5_doFirstGoodMove_16 ?_
        refine lv_iload hx hb dX5_doFirstGoodMove_19 (lv_at hl 0 rfl) ?_
        refine goI hw (runVW (k := 1) (As := [.int (nI v4_1)]) (rest := []) cx hw (k_X1_isLoaded l D a cI cZ f_1 u_1 v4_1  hi_1 (by omega)) lk_X5_21 rfl rfl ⟨Nat.le_of_ble_eq_true rfl, Nat.le_of_ble_eq_true rfl⟩ ⟨rfl, rfl⟩ ⟨Nat.zero_le _, Nat.zero_le _⟩ rfl rfl hl.1 (Nat.le_of_ble_eq_true rfl) dX5_doFirstGoodMove_21) (fun r_4 f_4 u_4 H locs hp_4 hw => ?_)
        obtain ⟨rfl, rfl, ha_4⟩ := hp_4
        rcases ha_4 with ⟨er_4, q0_4_0⟩ | ⟨er_4, b1_4_j, q1_4_0, q1_4_1⟩
        · subst er_4
          refine lv_if_eq (tgt := 40) hx hb dX5_doFirstGoodMove_24 (by decide) (fun _ => ?_) (fun q => absurd (by decide) q)
          refine lv_iinc (v := (nI (v4_1 + 1))) (lv' := [(4, .int (nI (v4_1 + 1))), (0, .ref (a 7)), (1, .int ar), (2, .long le)]) hx hb dX5_doFirstGoodMove_40 hl (k := 0) rfl (nI_add v4_1 1) (by decide) rfl (fun ls hl => ?_)
          refine lv_goto (tgt := 3) hx hb dX5_doFirstGoodMove_43 (by decide) ?_
          exact ih_1 (v4_1 + 1)  (by omega) (by omega) f_1 u_1 hi_1 kk_1  _ _ _ hw (lv_sub hl [0, 1, 2, 3] rfl)
        · subst er_4
          refine lv_if_eq (tgt := 40) hx hb dX5_doFirstGoodMove_24 (by decide) (fun q => absurd q (by decide)) (fun _ => ?_)
          refine lv_aload_n hx hb dX5_doFirstGoodMove_27 rfl (lv_at hl 1 rfl) ?_
          refine lv_iload hx hb dX5_doFirstGoodMove_28 (lv_at hl 0 rfl) ?_
          refine lv_iload_n hx hb dX5_doFirstGoodMove_30 rfl (lv_at hl 2 rfl) ?_
          refine lv_lload_n hx hb dX5_doFirstGoodMove_31 rfl (lv_at hl 3 rfl) ?_
          refine goI hw (runVW (k := 7) (As := [.int (nI v4_1), .int ar, .long le]) (rest := []) cx hw (k_X5_moveIfGood l D a cI cZ f_1 u_1 v4_1 ar le b1_4_j hi_1 (by omega) (by omega) q1_4_1) lk_X5_65 rfl rfl ⟨Nat.le_of_ble_eq_true rfl, Nat.le_of_ble_eq_true rfl⟩ ⟨rfl, rfl⟩ ⟨Nat.zero_le _, Nat.zero_le _⟩ rfl rfl hl.1 (Nat.le_of_ble_eq_true rfl) dX5_doFirstGoodMove_32) (fun r_7 f_7 u_7 H locs hp_7 hw => ?_)
          obtain ⟨hi_7, kk_7⟩ := hp_7
          refine lv_if_eq (tgt := 40) hx hb dX5_doFirstGoodMove_35 (by decide) (fun _ => ?_) (fun _ => ?_)
          · refine lv_iinc (v := (nI (v4_1 + 1))) (lv' := [(4, .int (nI (v4_1 + 1))), (0, .ref (a 7)), (1, .int ar), (2, .long le)]) hx hb dX5_doFirstGoodMove_40 hl (k := 0) rfl (nI_add v4_1 1) (by decide) rfl (fun ls hl => ?_)
            refine lv_goto (tgt := 3) hx hb dX5_doFirstGoodMove_43 (by decide) ?_
            exact ih_1 (v4_1 + 1)  (by omega) (by omega) f_7 u_7 hi_7 (KK.tr kk_1 (kk_7.mono (by decide)))  _ _ _ hw (lv_sub hl [0, 1, 2, 3] rfl)
          · refine lv_iconst (v := 1) hx hb dX5_doFirstGoodMove_38 (by decide) ?_
            exact retZ cx hw hr hk rfl dX5_doFirstGoodMove_39 ⟨hi_7, (KK.tr kk_1 (kk_7.mono (by decide)))⟩
  exact loop_1 _ 0  (by omega)  (Nat.lt_succ_self _) f u hi KK.rf  _ _ _ hw (lv_sub hl [0, 1, 2, 3] rfl)
