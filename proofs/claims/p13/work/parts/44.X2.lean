set_option maxHeartbeats 4000000 in
set_option maxRecDepth 100000 in
theorem k_X2_room (l : Launch) (D : va_G) (a : Nat → Nat) (cI cZ : ClassId) (f : FF) (u : UU) (li : Nat) (tl : Int32) (bb : Int32) (hi : IV f) (h_li : li < 9) : KL l yX2_room cX2_room 7 (some .long) ({ frames := 3, cells := 0, slots := 0, locals := 65 } : Room) D a cI cZ [.ref (a 6), .int (nI li), .int tl, .int bb] f u (fun r f2 u2 => f = f2 ∧ u = u2) := by
  refine KX.of (by decide) (Nat.le_of_ble_eq_true rfl) ?_
  intro p e s m below meth c cx hw hr hk ls hl
  have cx : Cx p s m _ c cX2_room RX2 7 D cI cZ := cx
  have hl : lv_has ls 7 [(0, .ref (a 6)), (1, .int (nI li)), (2, .int tl), (3, .int bb)] := hl
  have hx := cx.1.1
  have hb := cx.1.2.1
  refine lv_aload_n hx hb dX2_room_0 rfl (lv_at hl 0 rfl) ?_
  refine gf_X2_9 cx hw dX2_room_1 ?_
  refine lv_topi (fun x_1 _ => ?_)
  refine lv_iload_n hx hb dX2_room_4 rfl (lv_at hl 3 rfl) ?_
  refine lv_isub hx hb dX2_room_5 ?_
  refine lv_topi (fun x_2 _ => ?_)
  refine lv_istore (lv' := [(4, .int x_2), (0, .ref (a 6)), (1, .int (nI li)), (2, .int tl), (3, .int bb)]) hx hb dX2_room_6 hl (by decide) rfl (fun ls hl => ?_)
  refine lv_aload_n hx hb dX2_room_8 rfl (lv_at hl 1 rfl) ?_
  refine gf_X2_15 cx hw dX2_room_9 ?_
  refine lv_topl (fun y_3 _ => ?_)
  refine lv_aload_n hx hb dX2_room_12 rfl (lv_at hl 1 rfl) ?_
  refine gf_X2_19 cx hw dX2_room_13 ?_
  refine lv_iload_n hx hb dX2_room_16 rfl (lv_at hl 4 rfl) ?_
  refine goL hw (runVW (k := 3) (As := [.int bb]) (rest := [.long y_3]) cx hw (k_X6_momentLeft l D a cI cZ f u bb  hi) lk_X2_75 rfl rfl ⟨Nat.le_of_ble_eq_true rfl, Nat.le_of_ble_eq_true rfl⟩ ⟨rfl, rfl⟩ ⟨Nat.zero_le _, Nat.zero_le _⟩ rfl rfl hl.1 (Nat.le_of_ble_eq_true rfl) dX2_room_17) (fun r_4 f_4 u_4 H locs hp_4 hw => ?_)
  obtain ⟨rfl, rfl⟩ := hp_4
  refine lv_ladd hx hb dX2_room_20 ?_
  refine lv_topl (fun y_5 _ => ?_)
  refine lv_lstore (lv' := [(5, .long y_5), (4, .int x_2), (0, .ref (a 6)), (1, .int (nI li)), (2, .int tl), (3, .int bb)]) hx hb dX2_room_21 hl (by decide) rfl (fun ls hl => ?_)
  refine lv_iload_n hx hb dX2_room_23 rfl (lv_at hl 4 rfl) ?_
  refine lv_if_eq (tgt := 49) hx hb dX2_room_24 (by decide) (fun _ => ?_) (fun _ => ?_)
  · refine lv_aload_n hx hb dX2_room_49 rfl (lv_at hl 2 rfl) ?_
    refine gf_X2_23 cx hw dX2_room_50 ?_
    refine lv_aload_n hx hb dX2_room_53 rfl (lv_at hl 2 rfl) ?_
    refine gf_X2_23 cx hw dX2_room_54 ?_
    refine gf_X2_86_5 cx hw dX2_room_57 ?_
    refine lv_iload_n hx hb dX2_room_60 rfl (lv_at hl 3 rfl) ?_
    refine lv_iload hx hb dX2_room_61 (lv_at hl 1 rfl) ?_
    refine lv_lload hx hb dX2_room_63 (lv_at hl 0 rfl) ?_
    refine goL hw (runVW (k := 5) (As := [.ref (a 32), .int (nI li), .int x_2, .long y_5]) (rest := []) cx hw (k_X3_excess_5_32 l D a cI cZ f u li x_2 y_5  hi (by omega)) lk_X2_82 rfl rfl ⟨Nat.le_of_ble_eq_true rfl, Nat.le_of_ble_eq_true rfl⟩ ⟨rfl, rfl⟩ ⟨Nat.zero_le _, Nat.zero_le _⟩ rfl rfl hl.1 (Nat.le_of_ble_eq_true rfl) dX2_room_65) (fun r_7 f_7 u_7 H locs hp_7 hw => ?_)
    obtain ⟨rfl, rfl⟩ := hp_7
    refine lv_lneg hx hb dX2_room_68 ?_
    refine lv_topl (fun y_8 _ => ?_)
    exact retL cx hw hr hk dX2_room_69 ⟨rfl, rfl⟩
  · refine lv_aload_n hx hb dX2_room_27 rfl (lv_at hl 2 rfl) ?_
    refine gf_X2_23 cx hw dX2_room_28 ?_
    refine lv_aload_n hx hb dX2_room_31 rfl (lv_at hl 2 rfl) ?_
    refine gf_X2_23 cx hw dX2_room_32 ?_
    refine gf_X2_79_5 cx hw dX2_room_35 ?_
    refine lv_iload_n hx hb dX2_room_38 rfl (lv_at hl 3 rfl) ?_
    refine lv_iload hx hb dX2_room_39 (lv_at hl 1 rfl) ?_
    refine lv_lload hx hb dX2_room_41 (lv_at hl 0 rfl) ?_
    refine goL hw (runVW (k := 5) (As := [.ref (a 31), .int (nI li), .int x_2, .long y_5]) (rest := []) cx hw (k_X3_excess_5_31 l D a cI cZ f u li x_2 y_5  hi (by omega)) lk_X2_82 rfl rfl ⟨Nat.le_of_ble_eq_true rfl, Nat.le_of_ble_eq_true rfl⟩ ⟨rfl, rfl⟩ ⟨Nat.zero_le _, Nat.zero_le _⟩ rfl rfl hl.1 (Nat.le_of_ble_eq_true rfl) dX2_room_43) (fun r_9 f_9 u_9 H locs hp_9 hw => ?_)
    obtain ⟨rfl, rfl⟩ := hp_9
    refine lv_goto (tgt := 69) hx hb dX2_room_46 (by decide) ?_
    exact retL cx hw hr hk dX2_room_69 ⟨rfl, rfl⟩

set_option maxHeartbeats 4000000 in
set_option maxRecDepth 100000 in
theorem k_X2_isHollow (l : Launch) (D : va_G) (a : Nat → Nat) (cI cZ : ClassId) (f : FF) (u : UU) (li : Nat) (tl : Int32) (hi : IV f) (h_li : li < 9) : KI l yX2_isHollow cX2_isHollow 3 (some .boolean) ({ frames := 2, cells := 0, slots := 0, locals := 34 } : Room) D a cI cZ [.ref (a 6), .int (nI li), .int tl] f u (fun r f2 u2 => f = f2 ∧ u = u2) := by
  refine KX.of (by decide) (Nat.le_of_ble_eq_true rfl) ?_
  intro p e s m below meth c cx hw hr hk ls hl
  have cx : Cx p s m _ c cX2_isHollow RX2 3 D cI cZ := cx
  have hl : lv_has ls 3 [(0, .ref (a 6)), (1, .int (nI li)), (2, .int tl)] := hl
  have hx := cx.1.1
  have hb := cx.1.2.1
  refine lv_iload_n hx hb dX2_isHollow_0 rfl (lv_at hl 2 rfl) ?_
  refine lv_if_eq (tgt := 32) hx hb dX2_isHollow_1 (by decide) (fun _ => ?_) (fun _ => ?_)
  · refine lv_aload_n hx hb dX2_isHollow_32 rfl (lv_at hl 0 rfl) ?_
    refine gf_X2_23 cx hw dX2_isHollow_33 ?_
    refine lv_aload_n hx hb dX2_isHollow_36 rfl (lv_at hl 0 rfl) ?_
    refine gf_X2_23 cx hw dX2_isHollow_37 ?_
    refine gf_X2_86_5 cx hw dX2_isHollow_40 ?_
    refine lv_iload_n hx hb dX2_isHollow_43 rfl (lv_at hl 1 rfl) ?_
    refine goL hw (runVW (k := 5) (As := [.ref (a 32), .int (nI li)]) (rest := []) cx hw (k_X3_rise_5_32 l D a cI cZ f u li  hi (by omega)) lk_X2_89 rfl rfl ⟨Nat.le_of_ble_eq_true rfl, Nat.le_of_ble_eq_true rfl⟩ ⟨rfl, rfl⟩ ⟨Nat.zero_le _, Nat.zero_le _⟩ rfl rfl hl.1 (Nat.le_of_ble_eq_true rfl) dX2_isHollow_44) (fun r_2 f_2 u_2 H locs hp_2 hw => ?_)
    obtain ⟨rfl, rfl⟩ := hp_2
    refine lv_lconst (v := 0) hx hb dX2_isHollow_47 (by decide) ?_
    refine W.lcmp hx hb dX2_isHollow_48 ?_
    refine lv_topi (fun x_3 _ => ?_)
    refine lv_if_le (tgt := 56) hx hb dX2_isHollow_49 (by decide) (fun _ => ?_) (fun _ => ?_)
    · refine lv_iconst (v := 0) hx hb dX2_isHollow_56 (by decide) ?_
      exact retZ cx hw hr hk rfl dX2_isHollow_57 ⟨rfl, rfl⟩
    · refine lv_iconst (v := 1) hx hb dX2_isHollow_52 (by decide) ?_
      refine lv_goto (tgt := 57) hx hb dX2_isHollow_53 (by decide) ?_
      exact retZ cx hw hr hk rfl dX2_isHollow_57 ⟨rfl, rfl⟩
  · refine lv_aload_n hx hb dX2_isHollow_4 rfl (lv_at hl 0 rfl) ?_
    refine gf_X2_23 cx hw dX2_isHollow_5 ?_
    refine lv_aload_n hx hb dX2_isHollow_8 rfl (lv_at hl 0 rfl) ?_
    refine gf_X2_23 cx hw dX2_isHollow_9 ?_
    refine gf_X2_79_5 cx hw dX2_isHollow_12 ?_
    refine lv_iload_n hx hb dX2_isHollow_15 rfl (lv_at hl 1 rfl) ?_
    refine goL hw (runVW (k := 5) (As := [.ref (a 31), .int (nI li)]) (rest := []) cx hw (k_X3_rise_5_31 l D a cI cZ f u li  hi (by omega)) lk_X2_89 rfl rfl ⟨Nat.le_of_ble_eq_true rfl, Nat.le_of_ble_eq_true rfl⟩ ⟨rfl, rfl⟩ ⟨Nat.zero_le _, Nat.zero_le _⟩ rfl rfl hl.1 (Nat.le_of_ble_eq_true rfl) dX2_isHollow_16) (fun r_5 f_5 u_5 H locs hp_5 hw => ?_)
    obtain ⟨rfl, rfl⟩ := hp_5
    refine lv_lconst (v := 0) hx hb dX2_isHollow_19 (by decide) ?_
    refine W.lcmp hx hb dX2_isHollow_20 ?_
    refine lv_topi (fun x_6 _ => ?_)
    refine lv_if_ge (tgt := 28) hx hb dX2_isHollow_21 (by decide) (fun c_7 => ?_) (fun c_7 => ?_)
    · refine lv_iconst (v := 0) hx hb dX2_isHollow_28 (by decide) ?_
      refine lv_goto (tgt := 57) hx hb dX2_isHollow_29 (by decide) ?_
      exact retZ cx hw hr hk rfl dX2_isHollow_57 ⟨rfl, rfl⟩
    · refine lv_iconst (v := 1) hx hb dX2_isHollow_24 (by decide) ?_
      refine lv_goto (tgt := 57) hx hb dX2_isHollow_25 (by decide) ?_
      exact retZ cx hw hr hk rfl dX2_isHollow_57 ⟨rfl, rfl⟩

set_option maxHeartbeats 4000000 in
set_option maxRecDepth 100000 in
theorem k_X2_bottom (l : Launch) (D : va_G) (a : Nat → Nat) (cI cZ : ClassId) (f : FF) (u : UU) (li : Nat) (tl : Int32) (fr : Int32) (to : Int32) (hi : IV f) (h_li : li < 9) : KI l yX2_bottom cX2_bottom 9 (some .int) ({ frames := 4, cells := 0, slots := 0, locals := 91 } : Room) D a cI cZ [.ref (a 6), .int (nI li), .int tl, .int fr, .int to] f u (fun r f2 u2 => f = f2 ∧ u = u2) := by
  refine KX.of (by decide) (Nat.le_of_ble_eq_true rfl) ?_
  intro p e s m below meth c cx hw hr hk ls hl
  have cx : Cx p s m _ c cX2_bottom RX2 9 D cI cZ := cx
  have hl : lv_has ls 9 [(0, .ref (a 6)), (1, .int (nI li)), (2, .int tl), (3, .int fr), (4, .int to)] := hl
  have hx := cx.1.1
  have hb := cx.1.2.1
  refine lv_iload_n hx hb dX2_bottom_0 rfl (lv_at hl 3 rfl) ?_
  refine lv_istore (lv' := [(5, .int fr), (0, .ref (a 6)), (1, .int (nI li)), (2, .int tl), (3, .int fr), (4, .int to)]) hx hb dX2_bottom_1 hl (by decide) rfl (fun ls hl => ?_)
  refine lv_iload hx hb dX2_bottom_3 (lv_at hl 5 rfl) ?_
  refine lv_istore (lv' := [(6, .int to), (5, .int fr), (0, .ref (a 6)), (1, .int (nI li)), (2, .int tl), (3, .int fr), (4, .int to)]) hx hb dX2_bottom_5 hl (by decide) rfl (fun ls hl => ?_)
  refine lv_iconst (v := 0) hx hb dX2_bottom_7 (by decide) ?_
  refine lv_istore (lv' := [(7, .int 0), (6, .int to), (5, .int fr), (0, .ref (a 6)), (1, .int (nI li)), (2, .int tl), (3, .int fr), (4, .int to)]) hx hb dX2_bottom_8 hl (by decide) rfl (fun ls hl => ?_)
  have loop_1 : ∀ (k_1 : Nat) (v7_1 : Nat) (v6_1 : Int32) (v5_1 : Int32), v7_1 ≤ 40 → 40 + 1 - v7_1 < k_1 → ∀ (H : Heap) (locs : List Loc) (ls : Array Slot), Wd D a cI cZ s f u H locs → lv_has ls 9 [(7, .int (nI v7_1)), (6, .int v6_1), (5, .int v5_1), (0, .ref (a 6)), (1, .int (nI li)), (2, .int tl), (3, .int fr), (4, .int to)] → W p l e ({ frames := 4, cells := 0, slots := 0, locals := 91 } : Room) s m ([.ref (a 6), .int (nI li), .int tl, .int fr, .int to] : List Value).toArray below meth c H locs 0 0 (MQ below (QI D a cI cZ (fun r f2 u2 => f = f2 ∧ u = u2)) ([.ref (a 6), .int (nI li), .int tl, .int fr, .int to] : List Value).toArray s 0 0 (AA a)) (F0 m 10 ls []) := by
    intro k_1
    induction k_1 with
    | zero => intros; omega
    | succ k_1 ih_1 =>
      intro v7_1 v6_1 v5_1  hb0_1  hm_1  H locs ls hw hl
      refine lv_iload hx hb dX2_bottom_10 (lv_at hl 0 rfl) ?_
      refine lv_bipush (v := 40) hx hb dX2_bottom_12 (by decide) ?_
      refine lv_icmp_ge (tgt := 74) hx hb dX2_bottom_14 (by decide) (fun c_2 => ?_) (fun c_2 => ?_)
      · have c_2 : 40 ≤ v7_1 := (nI_leI (a := 40) (b := v7_1) (by omega) (by omega)).mp c_2
        refine lv_iload hx hb dX2_bottom_74 (lv_at hl 2 rfl) ?_
        exact retI cx hw hr hk dX2_bottom_76 ⟨rfl, rfl⟩
      · have c_2 : ¬ 40 ≤ v7_1 := fun z => c_2 ((nI_leI (a := 40) (b := v7_1) (by omega) (by omega)).mpr z)
        refine lv_iload hx hb dX2_bottom_17 (lv_at hl 2 rfl) ?_
        refine lv_iload hx hb dX2_bottom_19 (lv_at hl 1 rfl) ?_
        refine lv_icmp_ge (tgt := 74) hx hb dX2_bottom_21 (by decide) (fun _ => ?_) (fun _ => ?_)
        · refine lv_iload hx hb dX2_bottom_74 (lv_at hl 2 rfl) ?_
          exact retI cx hw hr hk dX2_bottom_76 ⟨rfl, rfl⟩
        · refine lv_iload hx hb dX2_bottom_24 (lv_at hl 2 rfl) ?_
          refine lv_iload hx hb dX2_bottom_26 (lv_at hl 1 rfl) ?_
          refine lv_iadd hx hb dX2_bottom_28 ?_
          refine lv_topi (fun x_4 _ => ?_)
          refine lv_iconst (v := 2) hx hb dX2_bottom_29 (by decide) ?_
          refine lv_idiv hx hb dX2_bottom_30 (by decide) ?_
          refine lv_topi (fun x_5 _ => ?_)
          refine lv_istore (lv' := [(8, .int x_5), (7, .int (nI v7_1)), (6, .int v6_1), (5, .int v5_1), (0, .ref (a 6)), (1, .int (nI li)), (2, .int tl), (3, .int fr), (4, .int to)]) hx hb dX2_bottom_31 hl (by decide) rfl (fun ls hl => ?_)
          refine lv_aload_n hx hb dX2_bottom_33 rfl (lv_at hl 4 rfl) ?_
          refine lv_iload_n hx hb dX2_bottom_34 rfl (lv_at hl 5 rfl) ?_
          refine lv_iload_n hx hb dX2_bottom_35 rfl (lv_at hl 6 rfl) ?_
          refine lv_iload hx hb dX2_bottom_36 (lv_at hl 0 rfl) ?_
          refine lv_iconst (v := 1) hx hb dX2_bottom_38 (by decide) ?_
          refine lv_iadd hx hb dX2_bottom_39 ?_
          refine lv_topi (fun x_6 _ => ?_)
          refine goL hw (runVW (k := 6) (As := [.int (nI li), .int tl, .int x_6]) (rest := []) cx hw (k_X2_room l D a cI cZ f u li tl x_6  hi (by omega)) lk_X2_64 rfl rfl ⟨Nat.le_of_ble_eq_true rfl, Nat.le_of_ble_eq_true rfl⟩ ⟨rfl, rfl⟩ ⟨Nat.zero_le _, Nat.zero_le _⟩ rfl rfl hl.1 (Nat.le_of_ble_eq_true rfl) dX2_bottom_40) (fun r_7 f_7 u_7 H locs hp_7 hw => ?_)
          obtain ⟨rfl, rfl⟩ := hp_7
          refine lv_aload_n hx hb dX2_bottom_43 rfl (lv_at hl 4 rfl) ?_
          refine lv_iload_n hx hb dX2_bottom_44 rfl (lv_at hl 5 rfl) ?_
          refine lv_iload_n hx hb dX2_bottom_45 rfl (lv_at hl 6 rfl) ?_
          refine lv_iload hx hb dX2_bottom_46 (lv_at hl 0 rfl) ?_
          refine goL hw (runVW (k := 6) (As := [.int (nI li), .int tl, .int x_5]) (rest := [.long r_7]) cx hw (k_X2_room l D a cI cZ f u li tl x_5  hi (by omega)) lk_X2_64 rfl rfl ⟨Nat.le_of_ble_eq_true rfl, Nat.le_of_ble_eq_true rfl⟩ ⟨rfl, rfl⟩ ⟨Nat.zero_le _, Nat.zero_le _⟩ rfl rfl hl.1 (Nat.le_of_ble_eq_true rfl) dX2_bottom_48) (fun r_8 f_8 u_8 H locs hp_8 hw => ?_)
          obtain ⟨rfl, rfl⟩ := hp_8
          refine W.lcmp hx hb dX2_bottom_51 ?_
          refine lv_topi (fun x_9 _ => ?_)
          refine lv_if_ge (tgt := 64) hx hb dX2_bottom_52 (by decide) (fun c_10 => ?_) (fun c_10 => ?_)
          · refine lv_iload hx hb dX2_bottom_64 (lv_at hl 0 rfl) ?_
            refine lv_istore (lv' := [(6, .int x_5), (8, .int x_5), (7, .int (nI v7_1)), (5, .int v5_1), (0, .ref (a 6)), (1, .int (nI li)), (2, .int tl), (3, .int fr), (4, .int to)]) hx hb dX2_bottom_66 hl (by decide) rfl (fun ls hl => ?_)
            refine lv_iinc (v := (nI (v7_1 + 1))) (lv' := [(7, .int (nI (v7_1 + 1))), (6, .int x_5), (8, .int x_5), (5, .int v5_1), (0, .ref (a 6)), (1, .int (nI li)), (2, .int tl), (3, .int fr), (4, .int to)]) hx hb dX2_bottom_68 hl (k := 2) rfl (nI_add v7_1 1) (by decide) rfl (fun ls hl => ?_)
            refine lv_goto (tgt := 10) hx hb dX2_bottom_71 (by decide) ?_
            exact ih_1 (v7_1 + 1) x_5 v5_1  (by omega) (by omega) _ _ _ hw (lv_sub hl [0, 1, 3, 4, 5, 6, 7, 8] rfl)
          · refine lv_iload hx hb dX2_bottom_55 (lv_at hl 0 rfl) ?_
            refine lv_iconst (v := 1) hx hb dX2_bottom_57 (by decide) ?_
            refine lv_iadd hx hb dX2_bottom_58 ?_
            refine lv_topi (fun x_11 _ => ?_)
            refine lv_istore (lv' := [(5, .int x_11), (8, .int x_5), (7, .int (nI v7_1)), (6, .int v6_1), (0, .ref (a 6)), (1, .int (nI li)), (2, .int tl), (3, .int fr), (4, .int to)]) hx hb dX2_bottom_59 hl (by decide) rfl (fun ls hl => ?_)
            refine lv_goto (tgt := 68) hx hb dX2_bottom_61 (by decide) ?_
            refine lv_iinc (v := (nI (v7_1 + 1))) (lv' := [(7, .int (nI (v7_1 + 1))), (5, .int x_11), (8, .int x_5), (6, .int v6_1), (0, .ref (a 6)), (1, .int (nI li)), (2, .int tl), (3, .int fr), (4, .int to)]) hx hb dX2_bottom_68 hl (k := 2) rfl (nI_add v7_1 1) (by decide) rfl (fun ls hl => ?_)
            refine lv_goto (tgt := 10) hx hb dX2_bottom_71 (by decide) ?_
            exact ih_1 (v7_1 + 1) v6_1 x_11  (by omega) (by omega) _ _ _ hw (lv_sub hl [0, 3, 1, 4, 5, 6, 7, 8] rfl)
  exact loop_1 _ 0 to fr  (by omega)  (Nat.lt_succ_self _) _ _ _ hw (lv_sub hl [0, 1, 2, 3, 4, 5, 6, 7] rfl)

set_option maxHeartbeats 4000000 in
set_option maxRecDepth 100000 in
theorem k_X2_firstWithoutRoom (l : Launch) (D : va_G) (a : Nat → Nat) (cI cZ : ClassId) (f : FF) (u : UU) (li : Nat) (tl : Int32) (fr : Int32) (to : Int32) (hi : IV f) (h_li : li < 9) : KI l yX2_firstWithoutRoom cX2_firstWithoutRoom 10 (some .int) ({ frames := 5, cells := 0, slots := 0, locals := 119 } : Room) D a cI cZ [.ref (a 6), .int (nI li), .int tl, .int fr, .int to] f u (fun r f2 u2 => f = f2 ∧ u = u2) := by
  refine KX.of (by decide) (Nat.le_of_ble_eq_true rfl) ?_
  intro p e s m below meth c cx hw hr hk ls hl
  have cx : Cx p s m _ c cX2_firstWithoutRoom RX2 10 D cI cZ := cx
  have hl : lv_has ls 10 [(0, .ref (a 6)), (1, .int (nI li)), (2, .int tl), (3, .int fr), (4, .int to)] := hl
  have hx := cx.1.1
  have hb := cx.1.2.1
  refine lv_aload_n hx hb dX2_firstWithoutRoom_0 rfl (lv_at hl 0 rfl) ?_
  refine lv_iload_n hx hb dX2_firstWithoutRoom_1 rfl (lv_at hl 1 rfl) ?_
  refine lv_iload_n hx hb dX2_firstWithoutRoom_2 rfl (lv_at hl 2 rfl) ?_
  refine lv_iload_n hx hb dX2_firstWithoutRoom_3 rfl (lv_at hl 3 rfl) ?_
  refine goL hw (runVW (k := 6) (As := [.int (nI li), .int tl, .int fr]) (rest := []) cx hw (k_X2_room l D a cI cZ f u li tl fr  hi (by omega)) lk_X2_64 rfl rfl ⟨Nat.le_of_ble_eq_true rfl, Nat.le_of_ble_eq_true rfl⟩ ⟨rfl, rfl⟩ ⟨Nat.zero_le _, Nat.zero_le _⟩ rfl rfl hl.1 (Nat.le_of_ble_eq_true rfl) dX2_firstWithoutRoom_4) (fun r_1 f_1 u_1 H locs hp_1 hw => ?_)
  obtain ⟨rfl, rfl⟩ := hp_1
  refine lv_lconst (v := 0) hx hb dX2_firstWithoutRoom_7 (by decide) ?_
  refine W.lcmp hx hb dX2_firstWithoutRoom_8 ?_
  refine lv_topi (fun x_2 _ => ?_)
  refine lv_if_ge (tgt := 14) hx hb dX2_firstWithoutRoom_9 (by decide) (fun c_3 => ?_) (fun c_3 => ?_)
  · refine lv_aload_n hx hb dX2_firstWithoutRoom_14 rfl (lv_at hl 0 rfl) ?_
    refine lv_iload_n hx hb dX2_firstWithoutRoom_15 rfl (lv_at hl 1 rfl) ?_
    refine lv_iload_n hx hb dX2_firstWithoutRoom_16 rfl (lv_at hl 2 rfl) ?_
    refine goI hw (runVW (k := 6) (As := [.int (nI li), .int tl]) (rest := []) cx hw (k_X2_isHollow l D a cI cZ f u li tl  hi (by omega)) lk_X2_68 rfl rfl ⟨Nat.le_of_ble_eq_true rfl, Nat.le_of_ble_eq_true rfl⟩ ⟨rfl, rfl⟩ ⟨Nat.zero_le _, Nat.zero_le _⟩ rfl rfl hl.1 (Nat.le_of_ble_eq_true rfl) dX2_firstWithoutRoom_17) (fun r_4 f_4 u_4 H locs hp_4 hw => ?_)
    obtain ⟨rfl, rfl⟩ := hp_4
    refine lv_if_eq (tgt := 35) hx hb dX2_firstWithoutRoom_20 (by decide) (fun _ => ?_) (fun _ => ?_)
    · refine lv_iload hx hb dX2_firstWithoutRoom_35 (lv_at hl 4 rfl) ?_
      refine lv_istore (lv' := [(5, .int to), (0, .ref (a 6)), (1, .int (nI li)), (2, .int tl), (3, .int fr), (4, .int to)]) hx hb dX2_firstWithoutRoom_37 hl (by decide) rfl (fun ls hl => ?_)
      refine lv_aload_n hx hb dX2_firstWithoutRoom_39 rfl (lv_at hl 1 rfl) ?_
      refine lv_iload_n hx hb dX2_firstWithoutRoom_40 rfl (lv_at hl 2 rfl) ?_
      refine lv_iload_n hx hb dX2_firstWithoutRoom_41 rfl (lv_at hl 3 rfl) ?_
      refine lv_iload hx hb dX2_firstWithoutRoom_42 (lv_at hl 0 rfl) ?_
      refine goL hw (runVW (k := 6) (As := [.int (nI li), .int tl, .int to]) (rest := []) cx hw (k_X2_room l D a cI cZ f u li tl to  hi (by omega)) lk_X2_64 rfl rfl ⟨Nat.le_of_ble_eq_true rfl, Nat.le_of_ble_eq_true rfl⟩ ⟨rfl, rfl⟩ ⟨Nat.zero_le _, Nat.zero_le _⟩ rfl rfl hl.1 (Nat.le_of_ble_eq_true rfl) dX2_firstWithoutRoom_44) (fun r_6 f_6 u_6 H locs hp_6 hw => ?_)
      obtain ⟨rfl, rfl⟩ := hp_6
      refine lv_lconst (v := 0) hx hb dX2_firstWithoutRoom_47 (by decide) ?_
      refine W.lcmp hx hb dX2_firstWithoutRoom_48 ?_
      refine lv_topi (fun x_7 _ => ?_)
      refine lv_if_lt (tgt := 54) hx hb dX2_firstWithoutRoom_49 (by decide) (fun c_8 => ?_) (fun c_8 => ?_)
      · refine lv_iload_n hx hb dX2_firstWithoutRoom_54 rfl (lv_at hl 4 rfl) ?_
        refine lv_istore (lv' := [(6, .int fr), (5, .int to), (0, .ref (a 6)), (1, .int (nI li)), (2, .int tl), (3, .int fr), (4, .int to)]) hx hb dX2_firstWithoutRoom_55 hl (by decide) rfl (fun ls hl => ?_)
        refine lv_iload hx hb dX2_firstWithoutRoom_57 (lv_at hl 1 rfl) ?_
        refine lv_istore (lv' := [(7, .int to), (6, .int fr), (5, .int to), (0, .ref (a 6)), (1, .int (nI li)), (2, .int tl), (3, .int fr), (4, .int to)]) hx hb dX2_firstWithoutRoom_59 hl (by decide) rfl (fun ls hl => ?_)
        refine lv_iconst (v := 0) hx hb dX2_firstWithoutRoom_61 (by decide) ?_
        refine lv_istore (lv' := [(8, .int 0), (7, .int to), (6, .int fr), (5, .int to), (0, .ref (a 6)), (1, .int (nI li)), (2, .int tl), (3, .int fr), (4, .int to)]) hx hb dX2_firstWithoutRoom_62 hl (by decide) rfl (fun ls hl => ?_)
        have loop_9 : ∀ (k_9 : Nat) (v8_9 : Nat) (v7_9 : Int32) (v6_9 : Int32), v8_9 ≤ 40 → 40 + 1 - v8_9 < k_9 → ∀ (H : Heap) (locs : List Loc) (ls : Array Slot), Wd D a cI cZ s f u H locs → lv_has ls 10 [(8, .int (nI v8_9)), (7, .int v7_9), (6, .int v6_9), (5, .int to), (0, .ref (a 6)), (1, .int (nI li)), (2, .int tl), (3, .int fr), (4, .int to)] → W p l e ({ frames := 5, cells := 0, slots := 0, locals := 119 } : Room) s m ([.ref (a 6), .int (nI li), .int tl, .int fr, .int to] : List Value).toArray below meth c H locs 0 0 (MQ below (QI D a cI cZ (fun r f2 u2 => f = f2 ∧ u = u2)) ([.ref (a 6), .int (nI li), .int tl, .int fr, .int to] : List Value).toArray s 0 0 (AA a)) (F0 m 64 ls []) := by
          intro k_9
          induction k_9 with
          | zero => intros; omega
          | succ k_9 ih_9 =>
            intro v8_9 v7_9 v6_9  hb0_9  hm_9  H locs ls hw hl
            refine lv_iload hx hb dX2_firstWithoutRoom_64 (lv_at hl 0 rfl) ?_
            refine lv_bipush (v := 40) hx hb dX2_firstWithoutRoom_66 (by decide) ?_
            refine lv_icmp_ge (tgt := 119) hx hb dX2_firstWithoutRoom_68 (by decide) (fun c_10 => ?_) (fun c_10 => ?_)
            · have c_10 : 40 ≤ v8_9 := (nI_leI (a := 40) (b := v8_9) (by omega) (by omega)).mp c_10
              refine lv_iload hx hb dX2_firstWithoutRoom_119 (lv_at hl 1 rfl) ?_
              exact retI cx hw hr hk dX2_firstWithoutRoom_121 ⟨rfl, rfl⟩
            · have c_10 : ¬ 40 ≤ v8_9 := fun z => c_10 ((nI_leI (a := 40) (b := v8_9) (by omega) (by omega)).mpr z)
              refine lv_iload hx hb dX2_firstWithoutRoom_71 (lv_at hl 1 rfl) ?_
              refine lv_iload hx hb dX2_firstWithoutRoom_73 (lv_at hl 2 rfl) ?_
              refine lv_isub hx hb dX2_firstWithoutRoom_75 ?_
              refine lv_topi (fun x_11 _ => ?_)
              refine lv_iconst (v := 1) hx hb dX2_firstWithoutRoom_76 (by decide) ?_
              refine lv_icmp_le (tgt := 119) hx hb dX2_firstWithoutRoom_77 (by decide) (fun _ => ?_) (fun _ => ?_)
              · refine lv_iload hx hb dX2_firstWithoutRoom_119 (lv_at hl 1 rfl) ?_
                exact retI cx hw hr hk dX2_firstWithoutRoom_121 ⟨rfl, rfl⟩
              · refine lv_iload hx hb dX2_firstWithoutRoom_80 (lv_at hl 2 rfl) ?_
                refine lv_iload hx hb dX2_firstWithoutRoom_82 (lv_at hl 1 rfl) ?_
                refine lv_iadd hx hb dX2_firstWithoutRoom_84 ?_
                refine lv_topi (fun x_13 _ => ?_)
                refine lv_iconst (v := 2) hx hb dX2_firstWithoutRoom_85 (by decide) ?_
                refine lv_idiv hx hb dX2_firstWithoutRoom_86 (by decide) ?_
                refine lv_topi (fun x_14 _ => ?_)
                refine lv_istore (lv' := [(9, .int x_14), (8, .int (nI v8_9)), (7, .int v7_9), (6, .int v6_9), (5, .int to), (0, .ref (a 6)), (1, .int (nI li)), (2, .int tl), (3, .int fr), (4, .int to)]) hx hb dX2_firstWithoutRoom_87 hl (by decide) rfl (fun ls hl => ?_)
                refine lv_aload_n hx hb dX2_firstWithoutRoom_89 rfl (lv_at hl 5 rfl) ?_
                refine lv_iload_n hx hb dX2_firstWithoutRoom_90 rfl (lv_at hl 6 rfl) ?_
                refine lv_iload_n hx hb dX2_firstWithoutRoom_91 rfl (lv_at hl 7 rfl) ?_
                refine lv_iload hx hb dX2_firstWithoutRoom_92 (lv_at hl 0 rfl) ?_
                refine goL hw (runVW (k := 6) (As := [.int (nI li), .int tl, .int x_14]) (rest := []) cx hw (k_X2_room l D a cI cZ f u li tl x_14  hi (by omega)) lk_X2_64 rfl rfl ⟨Nat.le_of_ble_eq_true rfl, Nat.le_of_ble_eq_true rfl⟩ ⟨rfl, rfl⟩ ⟨Nat.zero_le _, Nat.zero_le _⟩ rfl rfl hl.1 (Nat.le_of_ble_eq_true rfl) dX2_firstWithoutRoom_94) (fun r_15 f_15 u_15 H locs hp_15 hw => ?_)
                obtain ⟨rfl, rfl⟩ := hp_15
                refine lv_lconst (v := 0) hx hb dX2_firstWithoutRoom_97 (by decide) ?_
                refine W.lcmp hx hb dX2_firstWithoutRoom_98 ?_
                refine lv_topi (fun x_16 _ => ?_)
                refine lv_if_ge (tgt := 109) hx hb dX2_firstWithoutRoom_99 (by decide) (fun c_17 => ?_) (fun c_17 => ?_)
                · refine lv_iload hx hb dX2_firstWithoutRoom_109 (lv_at hl 0 rfl) ?_
                  refine lv_istore (lv' := [(6, .int x_14), (9, .int x_14), (8, .int (nI v8_9)), (7, .int v7_9), (5, .int to), (0, .ref (a 6)), (1, .int (nI li)), (2, .int tl), (3, .int fr), (4, .int to)]) hx hb dX2_firstWithoutRoom_111 hl (by decide) rfl (fun ls hl => ?_)
                  refine lv_iinc (v := (nI (v8_9 + 1))) (lv' := [(8, .int (nI (v8_9 + 1))), (6, .int x_14), (9, .int x_14), (7, .int v7_9), (5, .int to), (0, .ref (a 6)), (1, .int (nI li)), (2, .int tl), (3, .int fr), (4, .int to)]) hx hb dX2_firstWithoutRoom_113 hl (k := 2) rfl (nI_add v8_9 1) (by decide) rfl (fun ls hl => ?_)
                  refine lv_goto (tgt := 64) hx hb dX2_firstWithoutRoom_116 (by decide) ?_
                  exact ih_9 (v8_9 + 1) v7_9 x_14  (by omega) (by omega) _ _ _ hw (lv_sub hl [0, 3, 1, 4, 5, 6, 7, 8, 9] rfl)
                · refine lv_iload hx hb dX2_firstWithoutRoom_102 (lv_at hl 0 rfl) ?_
                  refine lv_istore (lv' := [(7, .int x_14), (9, .int x_14), (8, .int (nI v8_9)), (6, .int v6_9), (5, .int to), (0, .ref (a 6)), (1, .int (nI li)), (2, .int tl), (3, .int fr), (4, .int to)]) hx hb dX2_firstWithoutRoom_104 hl (by decide) rfl (fun ls hl => ?_)
                  refine lv_goto (tgt := 113) hx hb dX2_firstWithoutRoom_106 (by decide) ?_
                  refine lv_iinc (v := (nI (v8_9 + 1))) (lv' := [(8, .int (nI (v8_9 + 1))), (7, .int x_14), (9, .int x_14), (6, .int v6_9), (5, .int to), (0, .ref (a 6)), (1, .int (nI li)), (2, .int tl), (3, .int fr), (4, .int to)]) hx hb dX2_firstWithoutRoom_113 hl (k := 2) rfl (nI_add v8_9 1) (by decide) rfl (fun ls hl => ?_)
                  refine lv_goto (tgt := 64) hx hb dX2_firstWithoutRoom_116 (by decide) ?_
                  exact ih_9 (v8_9 + 1) x_14 v6_9  (by omega) (by omega) _ _ _ hw (lv_sub hl [0, 1, 3, 4, 5, 6, 7, 8, 9] rfl)
        exact loop_9 _ 0 to fr  (by omega)  (Nat.lt_succ_self _) _ _ _ hw (lv_sub hl [0, 1, 2, 3, 4, 5, 6, 7, 8] rfl)
      · refine lv_iconst (v := (-1)) hx hb dX2_firstWithoutRoom_52 (by decide) ?_
        exact retI cx hw hr hk dX2_firstWithoutRoom_53 ⟨rfl, rfl⟩
    · refine lv_aload_n hx hb dX2_firstWithoutRoom_23 rfl (lv_at hl 0 rfl) ?_
      refine lv_iload_n hx hb dX2_firstWithoutRoom_24 rfl (lv_at hl 1 rfl) ?_
      refine lv_iload_n hx hb dX2_firstWithoutRoom_25 rfl (lv_at hl 2 rfl) ?_
      refine lv_iload_n hx hb dX2_firstWithoutRoom_26 rfl (lv_at hl 3 rfl) ?_
      refine lv_iload hx hb dX2_firstWithoutRoom_27 (lv_at hl 4 rfl) ?_
      refine goI hw (runVW (k := 6) (As := [.int (nI li), .int tl, .int fr, .int to]) (rest := []) cx hw (k_X2_bottom l D a cI cZ f u li tl fr to  hi (by omega)) lk_X2_72 rfl rfl ⟨Nat.le_of_ble_eq_true rfl, Nat.le_of_ble_eq_true rfl⟩ ⟨rfl, rfl⟩ ⟨Nat.zero_le _, Nat.zero_le _⟩ rfl rfl hl.1 (Nat.le_of_ble_eq_true rfl) dX2_firstWithoutRoom_29) (fun r_18 f_18 u_18 H locs hp_18 hw => ?_)
      obtain ⟨rfl, rfl⟩ := hp_18
      refine lv_goto (tgt := 37) hx hb dX2_firstWithoutRoom_32 (by decide) ?_
      refine lv_istore (lv' := [(5, .int r_18), (0, .ref (a 6)), (1, .int (nI li)), (2, .int tl), (3, .int fr), (4, .int to)]) hx hb dX2_firstWithoutRoom_37 hl (by decide) rfl (fun ls hl => ?_)
      refine lv_aload_n hx hb dX2_firstWithoutRoom_39 rfl (lv_at hl 1 rfl) ?_
      refine lv_iload_n hx hb dX2_firstWithoutRoom_40 rfl (lv_at hl 2 rfl) ?_
      refine lv_iload_n hx hb dX2_firstWithoutRoom_41 rfl (lv_at hl 3 rfl) ?_
      refine lv_iload hx hb dX2_firstWithoutRoom_42 (lv_at hl 0 rfl) ?_
      refine goL hw (runVW (k := 6) (As := [.int (nI li), .int tl, .int r_18]) (rest := []) cx hw (k_X2_room l D a cI cZ f u li tl r_18  hi (by omega)) lk_X2_64 rfl rfl ⟨Nat.le_of_ble_eq_true rfl, Nat.le_of_ble_eq_true rfl⟩ ⟨rfl, rfl⟩ ⟨Nat.zero_le _, Nat.zero_le _⟩ rfl rfl hl.1 (Nat.le_of_ble_eq_true rfl) dX2_firstWithoutRoom_44) (fun r_19 f_19 u_19 H locs hp_19 hw => ?_)
      obtain ⟨rfl, rfl⟩ := hp_19
      refine lv_lconst (v := 0) hx hb dX2_firstWithoutRoom_47 (by decide) ?_
      refine W.lcmp hx hb dX2_firstWithoutRoom_48 ?_
      refine lv_topi (fun x_20 _ => ?_)
      refine lv_if_lt (tgt := 54) hx hb dX2_firstWithoutRoom_49 (by decide) (fun c_21 => ?_) (fun c_21 => ?_)
      · refine lv_iload_n hx hb dX2_firstWithoutRoom_54 rfl (lv_at hl 4 rfl) ?_
        refine lv_istore (lv' := [(6, .int fr), (5, .int r_18), (0, .ref (a 6)), (1, .int (nI li)), (2, .int tl), (3, .int fr), (4, .int to)]) hx hb dX2_firstWithoutRoom_55 hl (by decide) rfl (fun ls hl => ?_)
        refine lv_iload hx hb dX2_firstWithoutRoom_57 (lv_at hl 1 rfl) ?_
        refine lv_istore (lv' := [(7, .int r_18), (6, .int fr), (5, .int r_18), (0, .ref (a 6)), (1, .int (nI li)), (2, .int tl), (3, .int fr), (4, .int to)]) hx hb dX2_firstWithoutRoom_59 hl (by decide) rfl (fun ls hl => ?_)
        refine lv_iconst (v := 0) hx hb dX2_firstWithoutRoom_61 (by decide) ?_
        refine lv_istore (lv' := [(8, .int 0), (7, .int r_18), (6, .int fr), (5, .int r_18), (0, .ref (a 6)), (1, .int (nI li)), (2, .int tl), (3, .int fr), (4, .int to)]) hx hb dX2_firstWithoutRoom_62 hl (by decide) rfl (fun ls hl => ?_)
        have loop_22 : ∀ (k_22 : Nat) (v8_22 : Nat) (v7_22 : Int32) (v6_22 : Int32), v8_22 ≤ 40 → 40 + 1 - v8_22 < k_22 → ∀ (H : Heap) (locs : List Loc) (ls : Array Slot), Wd D a cI cZ s f u H locs → lv_has ls 10 [(8, .int (nI v8_22)), (7, .int v7_22), (6, .int v6_22), (5, .int r_18), (0, .ref (a 6)), (1, .int (nI li)), (2, .int tl), (3, .int fr), (4, .int to)] → W p l e ({ frames := 5, cells := 0, slots := 0, locals := 119 } : Room) s m ([.ref (a 6), .int (nI li), .int tl, .int fr, .int to] : List Value).toArray below meth c H locs 0 0 (MQ below (QI D a cI cZ (fun r f2 u2 => f = f2 ∧ u = u2)) ([.ref (a 6), .int (nI li), .int tl, .int fr, .int to] : List Value).toArray s 0 0 (AA a)) (F0 m 64 ls []) := by
          intro k_22
          induction k_22 with
          | zero => intros; omega
          | succ k_22 ih_22 =>
            intro v8_22 v7_22 v6_22  hb0_22  hm_22  H locs ls hw hl
            refine lv_iload hx hb dX2_firstWithoutRoom_64 (lv_at hl 0 rfl) ?_
            refine lv_bipush (v := 40) hx hb dX2_firstWithoutRoom_66 (by decide) ?_
            refine lv_icmp_ge (tgt := 119) hx hb dX2_firstWithoutRoom_68 (by decide) (fun c_23 => ?_) (fun c_23 => ?_)
            · have c_23 : 40 ≤ v8_22 := (nI_leI (a := 40) (b := v8_22) (by omega) (by omega)).mp c_23
              refine lv_iload hx hb dX2_firstWithoutRoom_119 (lv_at hl 1 rfl) ?_
              exact retI cx hw hr hk dX2_firstWithoutRoom_121 ⟨rfl, rfl⟩
            · have c_23 : ¬ 40 ≤ v8_22 := fun z => c_23 ((nI_leI (a := 40) (b := v8_22) (by omega) (by omega)).mpr z)
              refine lv_iload hx hb dX2_firstWithoutRoom_71 (lv_at hl 1 rfl) ?_
              refine lv_iload hx hb dX2_firstWithoutRoom_73 (lv_at hl 2 rfl) ?_
              refine lv_isub hx hb dX2_firstWithoutRoom_75 ?_
              refine lv_topi (fun x_24 _ => ?_)
              refine lv_iconst (v := 1) hx hb dX2_firstWithoutRoom_76 (by decide) ?_
              refine lv_icmp_le (tgt := 119) hx hb dX2_firstWithoutRoom_77 (by decide) (fun _ => ?_) (fun _ => ?_)
              · refine lv_iload hx hb dX2_firstWithoutRoom_119 (lv_at hl 1 rfl) ?_
                exact retI cx hw hr hk dX2_firstWithoutRoom_121 ⟨rfl, rfl⟩
              · refine lv_iload hx hb dX2_firstWithoutRoom_80 (lv_at hl 2 rfl) ?_
                refine lv_iload hx hb dX2_firstWithoutRoom_82 (lv_at hl 1 rfl) ?_
                refine lv_iadd hx hb dX2_firstWithoutRoom_84 ?_
                refine lv_topi (fun x_26 _ => ?_)
                refine lv_iconst (v := 2) hx hb dX2_firstWithoutRoom_85 (by decide) ?_
                refine lv_idiv hx hb dX2_firstWithoutRoom_86 (by decide) ?_
                refine lv_topi (fun x_27 _ => ?_)
                refine lv_istore (lv' := [(9, .int x_27), (8, .int (nI v8_22)), (7, .int v7_22), (6, .int v6_22), (5, .int r_18), (0, .ref (a 6)), (1, .int (nI li)), (2, .int tl), (3, .int fr), (4, .int to)]) hx hb dX2_firstWithoutRoom_87 hl (by decide) rfl (fun ls hl => ?_)
                refine lv_aload_n hx hb dX2_firstWithoutRoom_89 rfl (lv_at hl 5 rfl) ?_
                refine lv_iload_n hx hb dX2_firstWithoutRoom_90 rfl (lv_at hl 6 rfl) ?_
                refine lv_iload_n hx hb dX2_firstWithoutRoom_91 rfl (lv_at hl 7 rfl) ?_
                refine lv_iload hx hb dX2_firstWithoutRoom_92 (lv_at hl 0 rfl) ?_
                refine goL hw (runVW (k := 6) (As := [.int (nI li), .int tl, .int x_27]) (rest := []) cx hw (k_X2_room l D a cI cZ f u li tl x_27  hi (by omega)) lk_X2_64 rfl rfl ⟨Nat.le_of_ble_eq_true rfl, Nat.le_of_ble_eq_true rfl⟩ ⟨rfl, rfl⟩ ⟨Nat.zero_le _, Nat.zero_le _⟩ rfl rfl hl.1 (Nat.le_of_ble_eq_true rfl) dX2_firstWithoutRoom_94) (fun r_28 f_28 u_28 H locs hp_28 hw => ?_)
                obtain ⟨rfl, rfl⟩ := hp_28
                refine lv_lconst (v := 0) hx hb dX2_firstWithoutRoom_97 (by decide) ?_
                refine W.lcmp hx hb dX2_firstWithoutRoom_98 ?_
                refine lv_topi (fun x_29 _ => ?_)
                refine lv_if_ge (tgt := 109) hx hb dX2_firstWithoutRoom_99 (by decide) (fun c_30 => ?_) (fun c_30 => ?_)
                · refine lv_iload hx hb dX2_firstWithoutRoom_109 (lv_at hl 0 rfl) ?_
                  refine lv_istore (lv' := [(6, .int x_27), (9, .int x_27), (8, .int (nI v8_22)), (7, .int v7_22), (5, .int r_18), (0, .ref (a 6)), (1, .int (nI li)), (2, .int tl), (3, .int fr), (4, .int to)]) hx hb dX2_firstWithoutRoom_111 hl (by decide) rfl (fun ls hl => ?_)
                  refine lv_iinc (v := (nI (v8_22 + 1))) (lv' := [(8, .int (nI (v8_22 + 1))), (6, .int x_27), (9, .int x_27), (7, .int v7_22), (5, .int r_18), (0, .ref (a 6)), (1, .int (nI li)), (2, .int tl), (3, .int fr), (4, .int to)]) hx hb dX2_firstWithoutRoom_113 hl (k := 2) rfl (nI_add v8_22 1) (by decide) rfl (fun ls hl => ?_)
                  refine lv_goto (tgt := 64) hx hb dX2_firstWithoutRoom_116 (by decide) ?_
                  exact ih_22 (v8_22 + 1) v7_22 x_27  (by omega) (by omega) _ _ _ hw (lv_sub hl [0, 3, 1, 4, 5, 6, 7, 8, 9] rfl)
                · refine lv_iload hx hb dX2_firstWithoutRoom_102 (lv_at hl 0 rfl) ?_
                  refine lv_istore (lv' := [(7, .int x_27), (9, .int x_27), (8, .int (nI v8_22)), (6, .int v6_22), (5, .int r_18), (0, .ref (a 6)), (1, .int (nI li)), (2, .int tl), (3, .int fr), (4, .int to)]) hx hb dX2_firstWithoutRoom_104 hl (by decide) rfl (fun ls hl => ?_)
                  refine lv_goto (tgt := 113) hx hb dX2_firstWithoutRoom_106 (by decide) ?_
                  refine lv_iinc (v := (nI (v8_22 + 1))) (lv' := [(8, .int (nI (v8_22 + 1))), (7, .int x_27), (9, .int x_27), (6, .int v6_22), (5, .int r_18), (0, .ref (a 6)), (1, .int (nI li)), (2, .int tl), (3, .int fr), (4, .int to)]) hx hb dX2_firstWithoutRoom_113 hl (k := 2) rfl (nI_add v8_22 1) (by decide) rfl (fun ls hl => ?_)
                  refine lv_goto (tgt := 64) hx hb dX2_firstWithoutRoom_116 (by decide) ?_
                  exact ih_22 (v8_22 + 1) x_27 v6_22  (by omega) (by omega) _ _ _ hw (lv_sub hl [0, 1, 3, 4, 5, 6, 7, 8, 9] rfl)
        exact loop_22 _ 0 r_18 fr  (by omega)  (Nat.lt_succ_self _) _ _ _ hw (lv_sub hl [0, 1, 2, 3, 4, 5, 6, 7, 8] rfl)
      · refine lv_iconst (v := (-1)) hx hb dX2_firstWithoutRoom_52 (by decide) ?_
        exact retI cx hw hr hk dX2_firstWithoutRoom_53 ⟨rfl, rfl⟩
  · refine lv_iload_n hx hb dX2_firstWithoutRoom_12 rfl (lv_at hl 3 rfl) ?_
    exact retI cx hw hr hk dX2_firstWithoutRoom_13 ⟨rfl, rfl⟩

set_option maxHeartbeats 4000000 in
set_option maxRecDepth 100000 in
theorem k_X2_firstOutside (l : Launch) (D : va_G) (a : Nat → Nat) (cI cZ : ClassId) (f : FF) (u : UU) (li : Nat) (fr : Int32) (to : Int32) (hi : IV f) (h_li : li < 9) : KI l yX2_firstOutside cX2_firstOutside 6 (some .int) ({ frames := 6, cells := 0, slots := 0, locals := 148 } : Room) D a cI cZ [.ref (a 6), .int (nI li), .int fr, .int to] f u (fun r f2 u2 => f = f2 ∧ u = u2) := by
  refine KX.of (by decide) (Nat.le_of_ble_eq_true rfl) ?_
  intro p e s m below meth c cx hw hr hk ls hl
  have cx : Cx p s m _ c cX2_firstOutside RX2 6 D cI cZ := cx
  have hl : lv_has ls 6 [(0, .ref (a 6)), (1, .int (nI li)), (2, .int fr), (3, .int to)] := hl
  have hx := cx.1.1
  have hb := cx.1.2.1
  refine lv_aload_n hx hb dX2_firstOutside_0 rfl (lv_at hl 0 rfl) ?_
  refine lv_iload_n hx hb dX2_firstOutside_1 rfl (lv_at hl 1 rfl) ?_
  refine lv_iconst (v := 1) hx hb dX2_firstOutside_2 (by decide) ?_
  refine lv_iload_n hx hb dX2_firstOutside_3 rfl (lv_at hl 2 rfl) ?_
  refine lv_iload_n hx hb dX2_firstOutside_4 rfl (lv_at hl 3 rfl) ?_
  refine goI hw (runVW (k := 6) (As := [.int (nI li), .int 1, .int fr, .int to]) (rest := []) cx hw (k_X2_firstWithoutRoom l D a cI cZ f u li 1 fr to  hi (by omega)) lk_X2_60 rfl rfl ⟨Nat.le_of_ble_eq_true rfl, Nat.le_of_ble_eq_true rfl⟩ ⟨rfl, rfl⟩ ⟨Nat.zero_le _, Nat.zero_le _⟩ rfl rfl hl.1 (Nat.le_of_ble_eq_true rfl) dX2_firstOutside_5) (fun r_1 f_1 u_1 H locs hp_1 hw => ?_)
  obtain ⟨rfl, rfl⟩ := hp_1
  refine lv_istore (lv' := [(4, .int r_1), (0, .ref (a 6)), (1, .int (nI li)), (2, .int fr), (3, .int to)]) hx hb dX2_firstOutside_8 hl (by decide) rfl (fun ls hl => ?_)
  refine lv_aload_n hx hb dX2_firstOutside_10 rfl (lv_at hl 1 rfl) ?_
  refine lv_iload_n hx hb dX2_firstOutside_11 rfl (lv_at hl 2 rfl) ?_
  refine lv_iconst (v := 0) hx hb dX2_firstOutside_12 (by decide) ?_
  refine lv_iload_n hx hb dX2_firstOutside_13 rfl (lv_at hl 3 rfl) ?_
  refine lv_iload hx hb dX2_firstOutside_14 (lv_at hl 0 rfl) ?_
  refine lv_iconst (v := (-1)) hx hb dX2_firstOutside_16 (by decide) ?_
  refine lv_icmp_ne (tgt := 24) hx hb dX2_firstOutside_17 (by decide) (fun _ => ?_) (fun _ => ?_)
  · refine lv_iload hx hb dX2_firstOutside_24 (lv_at hl 0 rfl) ?_
    refine goI hw (runVW (k := 6) (As := [.int (nI li), .int 0, .int fr, .int r_1]) (rest := []) cx hw (k_X2_firstWithoutRoom l D a cI cZ f u li 0 fr r_1  hi (by omega)) lk_X2_60 rfl rfl ⟨Nat.le_of_ble_eq_true rfl, Nat.le_of_ble_eq_true rfl⟩ ⟨rfl, rfl⟩ ⟨Nat.zero_le _, Nat.zero_le _⟩ rfl rfl hl.1 (Nat.le_of_ble_eq_true rfl) dX2_firstOutside_26) (fun r_3 f_3 u_3 H locs hp_3 hw => ?_)
    obtain ⟨rfl, rfl⟩ := hp_3
    refine lv_istore (lv' := [(5, .int r_3), (4, .int r_1), (0, .ref (a 6)), (1, .int (nI li)), (2, .int fr), (3, .int to)]) hx hb dX2_firstOutside_29 hl (by decide) rfl (fun ls hl => ?_)
    refine lv_iload hx hb dX2_firstOutside_31 (lv_at hl 0 rfl) ?_
    refine lv_iconst (v := (-1)) hx hb dX2_firstOutside_33 (by decide) ?_
    refine lv_icmp_ne (tgt := 42) hx hb dX2_firstOutside_34 (by decide) (fun _ => ?_) (fun _ => ?_)
    · refine lv_iload hx hb dX2_firstOutside_42 (lv_at hl 0 rfl) ?_
      exact retI cx hw hr hk dX2_firstOutside_44 ⟨rfl, rfl⟩
    · refine lv_iload hx hb dX2_firstOutside_37 (lv_at hl 1 rfl) ?_
      refine lv_goto (tgt := 44) hx hb dX2_firstOutside_39 (by decide) ?_
      exact retI cx hw hr hk dX2_firstOutside_44 ⟨rfl, rfl⟩
  · refine lv_iload_n hx hb dX2_firstOutside_20 rfl (lv_at hl 4 rfl) ?_
    refine lv_goto (tgt := 26) hx hb dX2_firstOutside_21 (by decide) ?_
    refine goI hw (runVW (k := 6) (As := [.int (nI li), .int 0, .int fr, .int to]) (rest := []) cx hw (k_X2_firstWithoutRoom l D a cI cZ f u li 0 fr to  hi (by omega)) lk_X2_60 rfl rfl ⟨Nat.le_of_ble_eq_true rfl, Nat.le_of_ble_eq_true rfl⟩ ⟨rfl, rfl⟩ ⟨Nat.zero_le _, Nat.zero_le _⟩ rfl rfl hl.1 (Nat.le_of_ble_eq_true rfl) dX2_firstOutside_26) (fun r_5 f_5 u_5 H locs hp_5 hw => ?_)
    obtain ⟨rfl, rfl⟩ := hp_5
    refine lv_istore (lv' := [(5, .int r_5), (4, .int r_1), (0, .ref (a 6)), (1, .int (nI li)), (2, .int fr), (3, .int to)]) hx hb dX2_firstOutside_29 hl (by decide) rfl (fun ls hl => ?_)
    refine lv_iload hx hb dX2_firstOutside_31 (lv_at hl 0 rfl) ?_
    refine lv_iconst (v := (-1)) hx hb dX2_firstOutside_33 (by decide) ?_
    refine lv_icmp_ne (tgt := 42) hx hb dX2_firstOutside_34 (by decide) (fun _ => ?_) (fun _ => ?_)
    · refine lv_iload hx hb dX2_firstOutside_42 (lv_at hl 0 rfl) ?_
      exact retI cx hw hr hk dX2_firstOutside_44 ⟨rfl, rfl⟩
    · refine lv_iload hx hb dX2_firstOutside_37 (lv_at hl 1 rfl) ?_
      refine lv_goto (tgt := 44) hx hb dX2_firstOutside_39 (by decide) ?_
      exact retI cx hw hr hk dX2_firstOutside_44 ⟨rfl, rfl⟩

set_option maxHeartbeats 4000000 in
set_option maxRecDepth 100000 in
theorem k_X2_firstWrong (l : Launch) (D : va_G) (a : Nat → Nat) (cI cZ : ClassId) (f : FF) (u : UU) (dw : Int32) (dm : Int64) (fu : Int32) (hi : IV f)  : KI l yX2_firstWrong cX2_firstWrong 14 (some .int) ({ frames := 7, cells := 0, slots := 0, locals := 173 } : Room) D a cI cZ [.ref (a 6), .int dw, .long dm, .int fu] f u (fun r f2 u2 => IV f2 ∧ KK [6] f f2) := by
  refine KX.of (by decide) (Nat.le_of_ble_eq_true rfl) ?_
  intro p e s m below meth c cx hw hr hk ls hl
  have cx : Cx p s m _ c cX2_firstWrong RX2 14 D cI cZ := cx
  have hl : lv_has ls 14 [(0, .ref (a 6)), (1, .int dw), (2, .long dm), (4, .int fu)] := hl
  have hx := cx.1.1
  have hb := cx.1.2.1
  refine lv_aload_n hx hb dX2_firstWrong_0 rfl (lv_at hl 0 rfl) ?_
  refine gf_X2_19 cx hw dX2_firstWrong_1 ?_
  refine goI hw (runVW (k := 3) (As := []) (rest := []) cx hw (k_X6_totalAmount l D a cI cZ f u   hi) lk_X2_27 rfl rfl ⟨Nat.le_of_ble_eq_true rfl, Nat.le_of_ble_eq_true rfl⟩ ⟨rfl, rfl⟩ ⟨Nat.zero_le _, Nat.zero_le _⟩ rfl rfl hl.1 (Nat.le_of_ble_eq_true rfl) dX2_firstWrong_4) (fun r_1 f_1 u_1 H locs hp_1 hw => ?_)
  obtain ⟨rfl, rfl⟩ := hp_1
  refine lv_istore (lv' := [(5, .int r_1), (0, .ref (a 6)), (1, .int dw), (2, .long dm), (4, .int fu)]) hx hb dX2_firstWrong_7 hl (by decide) rfl (fun ls hl => ?_)
  refine lv_iload hx hb dX2_firstWrong_9 (lv_at hl 4 rfl) ?_
  refine lv_iload hx hb dX2_firstWrong_11 (lv_at hl 0 rfl) ?_
  refine jMin (rest := []) cx hl.1 mm_3_71 (Nat.le_of_ble_eq_true rfl) (Nat.le_of_ble_eq_true rfl) ⟨Nat.zero_le _, Nat.zero_le _⟩ dX2_firstWrong_13 (fun x_2 => ?_)
  refine lv_istore (lv' := [(6, .int x_2), (5, .int r_1), (0, .ref (a 6)), (1, .int dw), (2, .long dm), (4, .int fu)]) hx hb dX2_firstWrong_16 hl (by decide) rfl (fun ls hl => ?_)
  refine lv_aload_n hx hb dX2_firstWrong_18 rfl (lv_at hl 2 rfl) ?_
  refine lv_iload_n hx hb dX2_firstWrong_19 rfl (lv_at hl 3 rfl) ?_
  refine lv_iload hx hb dX2_firstWrong_20 (lv_at hl 1 rfl) ?_
  refine lv_iadd hx hb dX2_firstWrong_22 ?_
  refine lv_topi (fun x_3 _ => ?_)
  refine pf_X2_9 cx hw dX2_firstWrong_23 (fun H locs hw => ?_)
  have hi_4 : IV (up f 6 (upd (f 6) 2 x_3)) := IV.wr hi 6 trivial
  refine lv_aload_n hx hb dX2_firstWrong_26 rfl (lv_at hl 2 rfl) ?_
  refine lv_lload_n hx hb dX2_firstWrong_27 rfl (lv_at hl 4 rfl) ?_
  refine pf_X2_15 cx hw dX2_firstWrong_28 (fun H locs hw => ?_)
  refine lv_iconst (v := 0) hx hb dX2_firstWrong_31 (by decide) ?_
  refine lv_istore (lv' := [(7, .int 0), (6, .int x_2), (5, .int r_1), (0, .ref (a 6)), (1, .int dw), (2, .long dm), (4, .int fu)]) hx hb dX2_firstWrong_32 hl (by decide) rfl (fun ls hl => ?_)
  refine lv_iconst (v := 0) hx hb dX2_firstWrong_34 (by decide) ?_
  refine lv_istore (lv' := [(8, .int 0), (7, .int 0), (6, .int x_2), (5, .int r_1), (0, .ref (a 6)), (1, .int dw), (2, .long dm), (4, .int fu)]) hx hb dX2_firstWrong_35 hl (by decide) rfl (fun ls hl => ?_)
  have loop_5 : ∀ (k_5 : Nat) (v8_5 : Nat) (v7_5 : Int32), v8_5 ≤ 100 → 100 + 1 - v8_5 < k_5 → ∀ (H : Heap) (locs : List Loc) (ls : Array Slot), Wd D a cI cZ s (up f 6 (upd (f 6) 2 x_3)) (upL u 6 3 dm) H locs → lv_has ls 14 [(8, .int (nI v8_5)), (7, .int v7_5), (6, .int x_2), (5, .int r_1), (0, .ref (a 6)), (1, .int dw), (2, .long dm), (4, .int fu)] → W p l e ({ frames := 7, cells := 0, slots := 0, locals := 173 } : Room) s m ([.ref (a 6), .int dw, .long dm, .int fu] : List Value).toArray below meth c H locs 0 0 (MQ below (QI D a cI cZ (fun r f2 u2 => IV f2 ∧ KK [6] f f2)) ([.ref (a 6), .int dw, .long dm, .int fu] : List Value).toArray s 0 0 (AA a)) (F0 m 37 ls []) := by
    intro k_5
    induction k_5 with
    | zero => intros; omega
    | succ k_5 ih_5 =>
      intro v8_5 v7_5  hb0_5  hm_5  H locs ls hw hl
      refine lv_iload hx hb dX2_firstWrong_37 (lv_at hl 0 rfl) ?_
      refine lv_bipush (v := 100) hx hb dX2_firstWrong_39 (by decide) ?_
      refine lv_icmp_ge (tgt := 157) hx hb dX2_firstWrong_41 (by decide) (fun c_6 => ?_) (fun c_6 => ?_)
      · have c_6 : 100 ≤ v8_5 := (nI_leI (a := 100) (b := v8_5) (by omega) (by omega)).mp c_6
        refine lv_iconst (v := (-1)) hx hb dX2_firstWrong_157 (by decide) ?_
        exact retI cx hw hr hk dX2_firstWrong_158 ⟨hi_4, (KK.wr (by decide) (by decide) KK.rf)⟩
      · have c_6 : ¬ 100 ≤ v8_5 := fun z => c_6 ((nI_leI (a := 100) (b := v8_5) (by omega) (by omega)).mpr z)
        refine lv_iload hx hb dX2_firstWrong_44 (lv_at hl 1 rfl) ?_
        refine lv_iload hx hb dX2_firstWrong_46 (lv_at hl 2 rfl) ?_
        refine lv_icmp_gt (tgt := 157) hx hb dX2_firstWrong_48 (by decide) (fun _ => ?_) (fun _ => ?_)
        · refine lv_iconst (v := (-1)) hx hb dX2_firstWrong_157 (by decide) ?_
          exact retI cx hw hr hk dX2_firstWrong_158 ⟨hi_4, (KK.wr (by decide) (by decide) KK.rf)⟩
        · refine lv_aload_n hx hb dX2_firstWrong_51 rfl (lv_at hl 4 rfl) ?_
          refine gf_X2_9 cx hw dX2_firstWrong_52 ?_
          refine lv_topi (fun x_8 _ => ?_)
          refine lv_iload hx hb dX2_firstWrong_55 (lv_at hl 1 rfl) ?_
          refine lv_isub hx hb dX2_firstWrong_57 ?_
          refine lv_topi (fun x_9 _ => ?_)
          refine lv_istore (lv' := [(9, .int x_9), (8, .int (nI v8_5)), (7, .int v7_5), (6, .int x_2), (5, .int r_1), (0, .ref (a 6)), (1, .int dw), (2, .long dm), (4, .int fu)]) hx hb dX2_firstWrong_58 hl (by decide) rfl (fun ls hl => ?_)
          refine lv_aload_n hx hb dX2_firstWrong_60 rfl (lv_at hl 5 rfl) ?_
          refine gf_X2_23 cx hw dX2_firstWrong_61 ?_
          refine lv_iload hx hb dX2_firstWrong_64 (lv_at hl 0 rfl) ?_
          refine goI hw (runVW (k := 5) (As := [.int x_9]) (rest := []) cx hw (k_X3_spans_5 l D a cI cZ (up f 6 (upd (f 6) 2 x_3)) (upL u 6 3 dm) x_9  hi_4) lk_X2_39 rfl rfl ⟨Nat.le_of_ble_eq_true rfl, Nat.le_of_ble_eq_true rfl⟩ ⟨rfl, rfl⟩ ⟨Nat.zero_le _, Nat.zero_le _⟩ rfl rfl hl.1 (Nat.le_of_ble_eq_true rfl) dX2_firstWrong_66) (fun r_10 f_10 u_10 H locs hp_10 hw => ?_)
          obtain ⟨rfl, rfl⟩ := hp_10
          refine lv_if_ne (tgt := 75) hx hb dX2_firstWrong_69 (by decide) (fun _ => ?_) (fun _ => ?_)
          · refine lv_aload_n hx hb dX2_firstWrong_75 rfl (lv_at hl 5 rfl) ?_
            refine gf_X2_23 cx hw dX2_firstWrong_76 ?_
            refine lv_iload hx hb dX2_firstWrong_79 (lv_at hl 0 rfl) ?_
            refine goI hw (runVW (k := 5) (As := [.int x_9]) (rest := []) cx hw (k_X3_lineAt_5 l D a cI cZ (up f 6 (upd (f 6) 2 x_3)) (upL u 6 3 dm) x_9  hi_4) lk_X2_45 rfl rfl ⟨Nat.le_of_ble_eq_true rfl, Nat.le_of_ble_eq_true rfl⟩ ⟨rfl, rfl⟩ ⟨Nat.zero_le _, Nat.zero_le _⟩ rfl rfl hl.1 (Nat.le_of_ble_eq_true rfl) dX2_firstWrong_81) (fun r_12 f_12 u_12 H locs hp_12 hw => ?_)
            obtain ⟨rfl, rfl, ha_12⟩ := hp_12
            obtain ⟨b0_12_j, q0_12_0, q0_12_1⟩ := ha_12
            · subst q0_12_1
              refine lv_istore (lv' := [(10, .int (nI b0_12_j)), (9, .int x_9), (8, .int (nI v8_5)), (7, .int v7_5), (6, .int x_2), (5, .int r_1), (0, .ref (a 6)), (1, .int dw), (2, .long dm), (4, .int fu)]) hx hb dX2_firstWrong_84 hl (by decide) rfl (fun ls hl => ?_)
              refine lv_aload_n hx hb dX2_firstWrong_86 rfl (lv_at hl 6 rfl) ?_
              refine gf_X2_9 cx hw dX2_firstWrong_87 ?_
              refine lv_topi (fun x_13 _ => ?_)
              refine lv_aload_n hx hb dX2_firstWrong_90 rfl (lv_at hl 6 rfl) ?_
              refine gf_X2_23 cx hw dX2_firstWrong_91 ?_
              refine gf_X2_49_5 cx hw dX2_firstWrong_94 ?_
              refine lv_iload hx hb dX2_firstWrong_97 (lv_at hl 0 rfl) ?_
              refine aldN 30 b0_12_j cx hw rfl (by omega) (by decide) dX2_firstWrong_99 ?_
              obtain ⟨n_14, hn_14, en_14⟩ := IV.a_30 hi_4 (i := b0_12_j) (by omega)
              refine topc (y := (nI n_14)) en_14 ?_
              refine lv_isub hx hb dX2_firstWrong_100 ?_
              refine lv_topi (fun x_15 _ => ?_)
              refine lv_istore (lv' := [(11, .int x_15), (10, .int (nI b0_12_j)), (9, .int x_9), (8, .int (nI v8_5)), (7, .int v7_5), (6, .int x_2), (5, .int r_1), (0, .ref (a 6)), (1, .int dw), (2, .long dm), (4, .int fu)]) hx hb dX2_firstWrong_101 hl (by decide) rfl (fun ls hl => ?_)
              refine lv_iload hx hb dX2_firstWrong_103 (lv_at hl 5 rfl) ?_
              refine lv_iload hx hb dX2_firstWrong_105 (lv_at hl 0 rfl) ?_
              refine lv_aload_n hx hb dX2_firstWrong_107 rfl (lv_at hl 7 rfl) ?_
              refine gf_X2_19 cx hw dX2_firstWrong_108 ?_
              refine lv_iload hx hb dX2_firstWrong_111 (lv_at hl 4 rfl) ?_
              refine goI hw (runVW (k := 3) (As := [.int v7_5]) (rest := [.int x_15, .int x_2]) cx hw (k_X6_nextDryMoment l D a cI cZ (up f 6 (upd (f 6) 2 x_3)) (upL u 6 3 dm) v7_5  hi_4) lk_X2_53 rfl rfl ⟨Nat.le_of_ble_eq_true rfl, Nat.le_of_ble_eq_true rfl⟩ ⟨rfl, rfl⟩ ⟨Nat.zero_le _, Nat.zero_le _⟩ rfl rfl hl.1 (Nat.le_of_ble_eq_true rfl) dX2_firstWrong_113) (fun r_16 f_16 u_16 H locs hp_16 hw => ?_)
              obtain ⟨rfl, rfl⟩ := hp_16
              refine jMin (rest := [.int x_2]) cx hl.1 mm_3_71 (Nat.le_of_ble_eq_true rfl) (Nat.le_of_ble_eq_true rfl) ⟨Nat.zero_le _, Nat.zero_le _⟩ dX2_firstWrong_116 (fun x_17 => ?_)
              refine jMin (rest := []) cx hl.1 mm_3_71 (Nat.le_of_ble_eq_true rfl) (Nat.le_of_ble_eq_true rfl) ⟨Nat.zero_le _, Nat.zero_le _⟩ dX2_firstWrong_119 (fun x_18 => ?_)
              refine lv_istore (lv' := [(12, .int x_18), (11, .int x_15), (10, .int (nI b0_12_j)), (9, .int x_9), (8, .int (nI v8_5)), (7, .int v7_5), (6, .int x_2), (5, .int r_1), (0, .ref (a 6)), (1, .int dw), (2, .long dm), (4, .int fu)]) hx hb dX2_firstWrong_122 hl (by decide) rfl (fun ls hl => ?_)
              refine lv_aload_n hx hb dX2_firstWrong_124 rfl (lv_at hl 8 rfl) ?_
              refine lv_iload hx hb dX2_firstWrong_125 (lv_at hl 2 rfl) ?_
              refine lv_iload hx hb dX2_firstWrong_127 (lv_at hl 5 rfl) ?_
              refine lv_iload hx hb dX2_firstWrong_129 (lv_at hl 0 rfl) ?_
              refine goI hw (runVW (k := 6) (As := [.int (nI b0_12_j), .int v7_5, .int x_18]) (rest := []) cx hw (k_X2_firstOutside l D a cI cZ (up f 6 (upd (f 6) 2 x_3)) (upL u 6 3 dm) b0_12_j v7_5 x_18  hi_4 (by omega)) lk_X2_56 rfl rfl ⟨Nat.le_of_ble_eq_true rfl, Nat.le_of_ble_eq_true rfl⟩ ⟨rfl, rfl⟩ ⟨Nat.zero_le _, Nat.zero_le _⟩ rfl rfl hl.1 (Nat.le_of_ble_eq_true rfl) dX2_firstWrong_131) (fun r_19 f_19 u_19 H locs hp_19 hw => ?_)
              obtain ⟨rfl, rfl⟩ := hp_19
              refine lv_istore (lv' := [(13, .int r_19), (12, .int x_18), (11, .int x_15), (10, .int (nI b0_12_j)), (9, .int x_9), (8, .int (nI v8_5)), (7, .int v7_5), (6, .int x_2), (5, .int r_1), (0, .ref (a 6)), (1, .int dw), (2, .long dm), (4, .int fu)]) hx hb dX2_firstWrong_134 hl (by decide) rfl (fun ls hl => ?_)
              refine lv_iload hx hb dX2_firstWrong_136 (lv_at hl 0 rfl) ?_
              refine lv_iconst (v := (-1)) hx hb dX2_firstWrong_138 (by decide) ?_
              refine lv_icmp_eq (tgt := 145) hx hb dX2_firstWrong_139 (by decide) (fun _ => ?_) (fun _ => ?_)
              · refine lv_iload hx hb dX2_firstWrong_145 (lv_at hl 1 rfl) ?_
                refine lv_iconst (v := 1) hx hb dX2_firstWrong_147 (by decide) ?_
                refine lv_iadd hx hb dX2_firstWrong_148 ?_
                refine lv_topi (fun x_21 _ => ?_)
                refine lv_istore (lv' := [(7, .int x_21), (13, .int r_19), (12, .int x_18), (11, .int x_15), (10, .int (nI b0_12_j)), (9, .int x_9), (8, .int (nI v8_5)), (6, .int x_2), (5, .int r_1), (0, .ref (a 6)), (1, .int dw), (2, .long dm), (4, .int fu)]) hx hb dX2_firstWrong_149 hl (by decide) rfl (fun ls hl => ?_)
                refine lv_iinc (v := (nI (v8_5 + 1))) (lv' := [(8, .int (nI (v8_5 + 1))), (7, .int x_21), (13, .int r_19), (12, .int x_18), (11, .int x_15), (10, .int (nI b0_12_j)), (9, .int x_9), (6, .int x_2), (5, .int r_1), (0, .ref (a 6)), (1, .int dw), (2, .long dm), (4, .int fu)]) hx hb dX2_firstWrong_151 hl (k := 6) rfl (nI_add v8_5 1) (by decide) rfl (fun ls hl => ?_)
                refine lv_goto (tgt := 37) hx hb dX2_firstWrong_154 (by decide) ?_
                exact ih_5 (v8_5 + 1) x_21  (by omega) (by omega) _ _ _ hw (lv_sub hl [0, 1, 7, 8, 9, 10, 11, 12] rfl)
              · refine lv_iload hx hb dX2_firstWrong_142 (lv_at hl 0 rfl) ?_
                exact retI cx hw hr hk dX2_firstWrong_144 ⟨hi_4, (KK.wr (by decide) (by decide) KK.rf)⟩
          · refine lv_iload hx hb dX2_firstWrong_72 (lv_at hl 2 rfl) ?_
            exact retI cx hw hr hk dX2_firstWrong_74 ⟨hi_4, (KK.wr (by decide) (by decide) KK.rf)⟩
  exact loop_5 _ 0 0  (by omega)  (Nat.lt_succ_self _) _ _ _ hw (lv_sub hl [0, 1, 2, 3, 4, 5, 6, 7] rfl)
