set_option maxHeartbeats 4000000 in
set_option maxRecDepth 100000 in
theorem k_X7_dryWeight (l : Launch) (D : va_G) (a : Nat → Nat) (cI cZ : ClassId) (f : FF) (u : UU)  (hi : IV f)  : KI l yX7_dryWeight cX7_dryWeight 1 (some .int) ({ frames := 3, cells := 0, slots := 0, locals := 55 } : Room) D a cI cZ [.ref (a 0)] f u (fun r f2 u2 => f = f2 ∧ u = u2) := by
  refine KX.of (by decide) (Nat.le_of_ble_eq_true rfl) ?_
  intro p e s m below meth c cx hw hr hk ls hl
  have cx : Cx p s m _ c cX7_dryWeight RX7 1 D cI cZ := cx
  have hl : lv_has ls 1 [(0, .ref (a 0))] := hl
  have hx := cx.1.1
  have hb := cx.1.2.1
  refine lv_aload_n hx hb dX7_dryWeight_0 rfl (lv_at hl 0 rfl) ?_
  refine gf_X7_9 cx hw dX7_dryWeight_1 ?_
  refine lv_topi (fun x_1 _ => ?_)
  refine lv_aload_n hx hb dX7_dryWeight_4 rfl (lv_at hl 0 rfl) ?_
  refine gf_X7_21 cx hw dX7_dryWeight_5 ?_
  refine goI hw (runVW (k := 1) (As := []) (rest := [.int x_1]) cx hw (k_X1_loadedWeight l D a cI cZ f u   hi) lk_X7_277 rfl rfl ⟨Nat.le_of_ble_eq_true rfl, Nat.le_of_ble_eq_true rfl⟩ ⟨rfl, rfl⟩ ⟨Nat.zero_le _, Nat.zero_le _⟩ rfl rfl hl.1 (Nat.le_of_ble_eq_true rfl) dX7_dryWeight_8) (fun r_2 f_2 u_2 H locs hp_2 hw => ?_)
  obtain ⟨rfl, rfl⟩ := hp_2
  refine lv_iadd hx hb dX7_dryWeight_11 ?_
  refine lv_topi (fun x_3 _ => ?_)
  refine lv_aload_n hx hb dX7_dryWeight_12 rfl (lv_at hl 0 rfl) ?_
  refine gf_X7_28 cx hw dX7_dryWeight_13 ?_
  refine goI hw (runVW (k := 2) (As := []) (rest := [.int x_3]) cx hw (k_X0_takenWeight l D a cI cZ f u   hi) lk_X7_280 rfl rfl ⟨Nat.le_of_ble_eq_true rfl, Nat.le_of_ble_eq_true rfl⟩ ⟨rfl, rfl⟩ ⟨Nat.zero_le _, Nat.zero_le _⟩ rfl rfl hl.1 (Nat.le_of_ble_eq_true rfl) dX7_dryWeight_16) (fun r_4 f_4 u_4 H locs hp_4 hw => ?_)
  obtain ⟨rfl, rfl⟩ := hp_4
  refine lv_iadd hx hb dX7_dryWeight_19 ?_
  refine lv_topi (fun x_5 _ => ?_)
  exact retI cx hw hr hk dX7_dryWeight_20 ⟨rfl, rfl⟩

set_option maxHeartbeats 4000000 in
set_option maxRecDepth 100000 in
theorem k_X7_dryMoment (l : Launch) (D : va_G) (a : Nat → Nat) (cI cZ : ClassId) (f : FF) (u : UU)  (hi : IV f)  : KL l yX7_dryMoment cX7_dryMoment 1 (some .long) ({ frames := 3, cells := 0, slots := 0, locals := 58 } : Room) D a cI cZ [.ref (a 0)] f u (fun r f2 u2 => f = f2 ∧ u = u2) := by
  refine KX.of (by decide) (Nat.le_of_ble_eq_true rfl) ?_
  intro p e s m below meth c cx hw hr hk ls hl
  have cx : Cx p s m _ c cX7_dryMoment RX7 1 D cI cZ := cx
  have hl : lv_has ls 1 [(0, .ref (a 0))] := hl
  have hx := cx.1.1
  have hb := cx.1.2.1
  refine lv_aload_n hx hb dX7_dryMoment_0 rfl (lv_at hl 0 rfl) ?_
  refine gf_X7_9 cx hw dX7_dryMoment_1 ?_
  refine lv_topi (fun x_1 _ => ?_)
  refine lv_i2l hx hb dX7_dryMoment_4 rfl ?_
  refine lv_topl (fun y_2 _ => ?_)
  refine lv_aload_n hx hb dX7_dryMoment_5 rfl (lv_at hl 0 rfl) ?_
  refine gf_X7_15 cx hw dX7_dryMoment_6 ?_
  refine lv_topi (fun x_3 _ => ?_)
  refine lv_i2l hx hb dX7_dryMoment_9 rfl ?_
  refine lv_topl (fun y_4 _ => ?_)
  refine lv_lmul hx hb dX7_dryMoment_10 ?_
  refine lv_topl (fun y_5 _ => ?_)
  refine lv_aload_n hx hb dX7_dryMoment_11 rfl (lv_at hl 0 rfl) ?_
  refine gf_X7_21 cx hw dX7_dryMoment_12 ?_
  refine goL hw (runVW (k := 1) (As := []) (rest := [.long y_5]) cx hw (k_X1_loadedMoment l D a cI cZ f u   hi) lk_X7_283 rfl rfl ⟨Nat.le_of_ble_eq_true rfl, Nat.le_of_ble_eq_true rfl⟩ ⟨rfl, rfl⟩ ⟨Nat.zero_le _, Nat.zero_le _⟩ rfl rfl hl.1 (Nat.le_of_ble_eq_true rfl) dX7_dryMoment_15) (fun r_6 f_6 u_6 H locs hp_6 hw => ?_)
  obtain ⟨rfl, rfl⟩ := hp_6
  refine lv_ladd hx hb dX7_dryMoment_18 ?_
  refine lv_topl (fun y_7 _ => ?_)
  refine lv_aload_n hx hb dX7_dryMoment_19 rfl (lv_at hl 0 rfl) ?_
  refine gf_X7_28 cx hw dX7_dryMoment_20 ?_
  refine goL hw (runVW (k := 2) (As := []) (rest := [.long y_7]) cx hw (k_X0_takenMoment l D a cI cZ f u   hi) lk_X7_286 rfl rfl ⟨Nat.le_of_ble_eq_true rfl, Nat.le_of_ble_eq_true rfl⟩ ⟨rfl, rfl⟩ ⟨Nat.zero_le _, Nat.zero_le _⟩ rfl rfl hl.1 (Nat.le_of_ble_eq_true rfl) dX7_dryMoment_23) (fun r_8 f_8 u_8 H locs hp_8 hw => ?_)
  obtain ⟨rfl, rfl⟩ := hp_8
  refine lv_ladd hx hb dX7_dryMoment_26 ?_
  refine lv_topl (fun y_9 _ => ?_)
  exact retL cx hw hr hk dX7_dryMoment_27 ⟨rfl, rfl⟩

set_option maxHeartbeats 4000000 in
set_option maxRecDepth 100000 in
theorem k_X7_lean (l : Launch) (D : va_G) (a : Nat → Nat) (cI cZ : ClassId) (f : FF) (u : UU) (ar : Int32) (hi : IV f)  : KL l yX7_lean cX7_lean 2 (some .long) ({ frames := 4, cells := 0, slots := 0, locals := 78 } : Room) D a cI cZ [.ref (a 0), .int ar] f u (fun r f2 u2 => f = f2 ∧ u = u2) := by
  refine KX.of (by decide) (Nat.le_of_ble_eq_true rfl) ?_
  intro p e s m below meth c cx hw hr hk ls hl
  have cx : Cx p s m _ c cX7_lean RX7 2 D cI cZ := cx
  have hl : lv_has ls 2 [(0, .ref (a 0)), (1, .int ar)] := hl
  have hx := cx.1.1
  have hb := cx.1.2.1
  refine lv_aload_n hx hb dX7_lean_0 rfl (lv_at hl 0 rfl) ?_
  refine goL hw (runVW (k := 0) (As := []) (rest := []) cx hw (k_X7_dryMoment l D a cI cZ f u   hi) lk_X7_207 rfl rfl ⟨Nat.le_of_ble_eq_true rfl, Nat.le_of_ble_eq_true rfl⟩ ⟨rfl, rfl⟩ ⟨Nat.zero_le _, Nat.zero_le _⟩ rfl rfl hl.1 (Nat.le_of_ble_eq_true rfl) dX7_lean_1) (fun r_1 f_1 u_1 H locs hp_1 hw => ?_)
  obtain ⟨rfl, rfl⟩ := hp_1
  refine lv_iload_n hx hb dX7_lean_4 rfl (lv_at hl 1 rfl) ?_
  refine lv_i2l hx hb dX7_lean_5 rfl ?_
  refine lv_topl (fun y_2 _ => ?_)
  refine lv_aload_n hx hb dX7_lean_6 rfl (lv_at hl 0 rfl) ?_
  refine goI hw (runVW (k := 0) (As := []) (rest := [.long y_2, .long r_1]) cx hw (k_X7_dryWeight l D a cI cZ f u   hi) lk_X7_201 rfl rfl ⟨Nat.le_of_ble_eq_true rfl, Nat.le_of_ble_eq_true rfl⟩ ⟨rfl, rfl⟩ ⟨Nat.zero_le _, Nat.zero_le _⟩ rfl rfl hl.1 (Nat.le_of_ble_eq_true rfl) dX7_lean_7) (fun r_3 f_3 u_3 H locs hp_3 hw => ?_)
  obtain ⟨rfl, rfl⟩ := hp_3
  refine lv_i2l hx hb dX7_lean_10 rfl ?_
  refine lv_topl (fun y_4 _ => ?_)
  refine lv_lmul hx hb dX7_lean_11 ?_
  refine lv_topl (fun y_5 _ => ?_)
  refine lv_lsub hx hb dX7_lean_12 ?_
  refine lv_topl (fun y_6 _ => ?_)
  exact retL cx hw hr hk dX7_lean_13 ⟨rfl, rfl⟩

set_option maxHeartbeats 4000000 in
set_option maxRecDepth 100000 in
theorem k_X7_empty (l : Launch) (D : va_G) (a : Nat → Nat) (cI cZ : ClassId) (f : FF) (u : UU) (we : Int32) (ar : Int32) (hi : IV f)  : KI l yX7_empty cX7_empty 3 (some .int) ({ frames := 3, cells := 0, slots := 0, locals := 54 } : Room) D a cI cZ [.ref (a 0), .int we, .int ar] f u (fun r f2 u2 => IV f2 ∧ KK [0] f f2 ∧ r = an_empty we ar) := by
  refine KX.of (by decide) (Nat.le_of_ble_eq_true rfl) ?_
  intro p e s m below meth c cx hw hr hk ls hl
  have cx : Cx p s m _ c cX7_empty RX7 3 D cI cZ := cx
  have hl : lv_has ls 3 [(0, .ref (a 0)), (1, .int we), (2, .int ar)] := hl
  have hx := cx.1.1
  have hb := cx.1.2.1
  refine lv_iload_n hx hb dX7_empty_0 rfl (lv_at hl 1 rfl) ?_
  refine lv_sipush (v := 1000) hx hb dX7_empty_1 (by decide) ?_
  refine lv_ldc (v := 100000) hx hb cx.1.2.2.2.1 (cx.1.2.2.2.2 _ mm_2_21) dX7_empty_4 ?_
  refine goI hw (runSW (As := [.int we, .int 1000, .int 100000]) (rest := []) cx hw (c_X7_isFromTo l D a cI cZ f u we 1000 100000  ) lk_X7_75 ⟨Nat.le_of_ble_eq_true rfl, Nat.le_of_ble_eq_true rfl⟩ ⟨rfl, rfl⟩ ⟨Nat.zero_le _, Nat.zero_le _⟩ rfl rfl hl.1 (Nat.le_of_ble_eq_true rfl) dX7_empty_6) (fun r_1 f_1 u_1 H locs hp_1 hw => ?_)
  obtain ⟨rfl, rfl, e_1⟩ := hp_1
  refine topc e_1 ?_
  refine lv_if_eq (tgt := 19) hx hb dX7_empty_9 (by decide) (fun c_2 => ?_) (fun c_2 => ?_)
  · refine lv_bipush (v := (-2)) hx hb dX7_empty_19 (by decide) ?_
    exact retI cx hw hr hk dX7_empty_21 ⟨hi, KK.rf, by simp [an_empty, c_2]⟩
  · obtain ⟨t_2, hs_2, ht_2, et_2⟩ := rg_nat2 (a := 1000) (n := 100000) (by omega) rfl c_2
    subst et_2
    refine lv_iload_n hx hb dX7_empty_12 rfl (lv_at hl 2 rfl) ?_
    refine goI hw (runSW (As := [.int ar]) (rest := []) cx hw (c_X7_isArm l D a cI cZ f u ar  ) lk_X7_79 ⟨Nat.le_of_ble_eq_true rfl, Nat.le_of_ble_eq_true rfl⟩ ⟨rfl, rfl⟩ ⟨Nat.zero_le _, Nat.zero_le _⟩ rfl rfl hl.1 (Nat.le_of_ble_eq_true rfl) dX7_empty_13) (fun r_3 f_3 u_3 H locs hp_3 hw => ?_)
    obtain ⟨rfl, rfl, e_3⟩ := hp_3
    refine topc e_3 ?_
    refine lv_if_ne (tgt := 22) hx hb dX7_empty_16 (by decide) (fun c_4 => ?_) (fun c_4 => ?_)
    · obtain ⟨t_4, ht_4, et_4⟩ := rg_nat (n := 5000) rfl c_4
      subst et_4
      refine lv_aload_n hx hb dX7_empty_22 rfl (lv_at hl 0 rfl) ?_
      refine lv_iload_n hx hb dX7_empty_23 rfl (lv_at hl 1 rfl) ?_
      refine pf_X7_9 cx hw dX7_empty_24 (fun H locs hw => ?_)
      have hi_5 : IV (up f 0 (upd (f 0) 0 (nI t_2))) := IV.wr hi 0 trivial
      refine lv_aload_n hx hb dX7_empty_27 rfl (lv_at hl 0 rfl) ?_
      refine lv_iload_n hx hb dX7_empty_28 rfl (lv_at hl 2 rfl) ?_
      refine pf_X7_15 cx hw dX7_empty_29 (fun H locs hw => ?_)
      have hi_6 : IV (up (up f 0 (upd (f 0) 0 (nI t_2))) 0 (upd ((up f 0 (upd (f 0) 0 (nI t_2))) 0) 1 (nI t_4))) := IV.wr hi_5 0 trivial
      refine lv_iconst (v := 0) hx hb dX7_empty_32 (by decide) ?_
      exact retI cx hw hr hk dX7_empty_33 ⟨hi_6, (KK.wr (by decide) (by decide) (KK.wr (by decide) (by decide) KK.rf)), by simp [an_empty, c_2, c_4]⟩
    · refine lv_bipush (v := (-2)) hx hb dX7_empty_19 (by decide) ?_
      exact retI cx hw hr hk dX7_empty_21 ⟨hi, KK.rf, by simp [an_empty, c_2, c_4]⟩

set_option maxHeartbeats 4000000 in
set_option maxRecDepth 100000 in
theorem k_X7_hold (l : Launch) (D : va_G) (a : Nat → Nat) (cI cZ : ClassId) (f : FF) (u : UU) (mo : Int32) (fl : Int32) (hi : IV f)  : KI l yX7_hold cX7_hold 3 (some .int) ({ frames := 3, cells := 0, slots := 0, locals := 54 } : Room) D a cI cZ [.ref (a 0), .int mo, .int fl] f u (fun r f2 u2 => IV f2 ∧ (r, vC f2) = S_hold mo fl (vC f) ∧ KP f f2) := by
  refine KX.of (by decide) (Nat.le_of_ble_eq_true rfl) ?_
  intro p e s m below meth c cx hw hr hk ls hl
  have cx : Cx p s m _ c cX7_hold RX7 3 D cI cZ := cx
  have hl : lv_has ls 3 [(0, .ref (a 0)), (1, .int mo), (2, .int fl)] := hl
  have hx := cx.1.1
  have hb := cx.1.2.1
  refine lv_iload_n hx hb dX7_hold_0 rfl (lv_at hl 1 rfl) ?_
  refine goI hw (runSW (As := [.int mo]) (rest := []) cx hw (c_X7_isBorne l D a cI cZ f u mo  ) lk_X7_83 ⟨Nat.le_of_ble_eq_true rfl, Nat.le_of_ble_eq_true rfl⟩ ⟨rfl, rfl⟩ ⟨Nat.zero_le _, Nat.zero_le _⟩ rfl rfl hl.1 (Nat.le_of_ble_eq_true rfl) dX7_hold_1) (fun r_1 f_1 u_1 H locs hp_1 hw => ?_)
  obtain ⟨rfl, rfl, e_1⟩ := hp_1
  refine topc e_1 ?_
  refine lv_if_eq (tgt := 14) hx hb dX7_hold_4 (by decide) (fun c_2 => ?_) (fun c_2 => ?_)
  · refine lv_bipush (v := (-2)) hx hb dX7_hold_14 (by decide) ?_
    exact retI cx hw hr hk dX7_hold_16 ⟨hi, ((congrArg (Prod.mk (-2)) (rfl : vC f = (vC f))).trans (show _ = S_hold mo fl (vC f) from (if_pos c_2).symm)), KP.rf⟩
  · obtain ⟨t_2, ht_2, et_2⟩ := rg_nat (n := 20000) rfl c_2
    subst et_2
    refine lv_iload_n hx hb dX7_hold_7 rfl (lv_at hl 2 rfl) ?_
    refine goI hw (runSW (As := [.int fl]) (rest := []) cx hw (c_X7_isBorne l D a cI cZ f u fl  ) lk_X7_83 ⟨Nat.le_of_ble_eq_true rfl, Nat.le_of_ble_eq_true rfl⟩ ⟨rfl, rfl⟩ ⟨Nat.zero_le _, Nat.zero_le _⟩ rfl rfl hl.1 (Nat.le_of_ble_eq_true rfl) dX7_hold_8) (fun r_3 f_3 u_3 H locs hp_3 hw => ?_)
    obtain ⟨rfl, rfl, e_3⟩ := hp_3
    refine topc e_3 ?_
    refine lv_if_ne (tgt := 17) hx hb dX7_hold_11 (by decide) (fun c_4 => ?_) (fun c_4 => ?_)
    · obtain ⟨t_4, ht_4, et_4⟩ := rg_nat (n := 20000) rfl c_4
      subst et_4
      refine lv_aload_n hx hb dX7_hold_17 rfl (lv_at hl 0 rfl) ?_
      refine gf_X7_21 cx hw dX7_hold_18 ?_
      refine lv_iload_n hx hb dX7_hold_21 rfl (lv_at hl 1 rfl) ?_
      refine lv_iload_n hx hb dX7_hold_22 rfl (lv_at hl 2 rfl) ?_
      refine goI hw (runVW (k := 1) (As := [.int (nI t_2), .int (nI t_4)]) (rest := []) cx hw (k_X1_addHold l D a cI cZ f u (nI t_2) (nI t_4)  hi) lk_X7_86 rfl rfl ⟨Nat.le_of_ble_eq_true rfl, Nat.le_of_ble_eq_true rfl⟩ ⟨rfl, rfl⟩ ⟨Nat.zero_le _, Nat.zero_le _⟩ rfl rfl hl.1 (Nat.le_of_ble_eq_true rfl) dX7_hold_23) (fun r_5 f_5 u_5 H locs hp_5 hw => ?_)
      obtain ⟨hi_5, ev_5, kp_5⟩ := hp_5
      exact retI cx hw hr hk dX7_hold_26 ⟨hi_5, (show _ = S_hold (nI t_2) (nI t_4) (vC f) from ((if_neg c_2).trans ((if_neg c_4).trans ev_5.symm)).symm), (KP.tr KP.rf kp_5)⟩
    · refine lv_bipush (v := (-2)) hx hb dX7_hold_14 (by decide) ?_
      exact retI cx hw hr hk dX7_hold_16 ⟨hi, ((congrArg (Prod.mk (-2)) (rfl : vC f = (vC f))).trans (show _ = S_hold (nI t_2) fl (vC f) from ((if_neg c_2).trans (if_pos c_4)).symm)), KP.rf⟩

set_option maxHeartbeats 4000000 in
set_option maxRecDepth 100000 in
theorem k_X7_slot (l : Launch) (D : va_G) (a : Nat → Nat) (cI cZ : ClassId) (f : FF) (u : UU) (h : Int32) (ar : Int32) (mo : Int32) (hi : IV f)  : KI l yX7_slot cX7_slot 4 (some .int) ({ frames := 3, cells := 0, slots := 0, locals := 57 } : Room) D a cI cZ [.ref (a 0), .int h, .int ar, .int mo] f u (fun r f2 u2 => IV f2 ∧ (r, vC f2) = S_slot h ar mo (vC f) ∧ KP f f2) := by
  refine KX.of (by decide) (Nat.le_of_ble_eq_true rfl) ?_
  intro p e s m below meth c cx hw hr hk ls hl
  have cx : Cx p s m _ c cX7_slot RX7 4 D cI cZ := cx
  have hl : lv_has ls 4 [(0, .ref (a 0)), (1, .int h), (2, .int ar), (3, .int mo)] := hl
  have hx := cx.1.1
  have hb := cx.1.2.1
  refine lv_aload_n hx hb dX7_slot_0 rfl (lv_at hl 0 rfl) ?_
  refine gf_X7_21 cx hw dX7_slot_1 ?_
  refine lv_iload_n hx hb dX7_slot_4 rfl (lv_at hl 1 rfl) ?_
  refine goI hw (runVW (k := 1) (As := [.int h]) (rest := []) cx hw (k_X1_hasHold l D a cI cZ f u h  hi) lk_X7_90 rfl rfl ⟨Nat.le_of_ble_eq_true rfl, Nat.le_of_ble_eq_true rfl⟩ ⟨rfl, rfl⟩ ⟨Nat.zero_le _, Nat.zero_le _⟩ rfl rfl hl.1 (Nat.le_of_ble_eq_true rfl) dX7_slot_5) (fun r_1 f_1 u_1 H locs hp_1 hw => ?_)
  obtain ⟨rfl, rfl, ha_1⟩ := hp_1
  rcases ha_1 with ⟨er_1, q0_1_0⟩ | ⟨er_1, b1_1_j, b1_1_c, q1_1_0, q1_1_1, q1_1_2, q1_1_3⟩
  · subst er_1
    refine lv_if_ne (tgt := 13) hx hb dX7_slot_8 (by decide) (fun q => absurd (by decide) q) (fun _ => ?_)
    refine lv_iconst (v := (-1)) hx hb dX7_slot_11 (by decide) ?_
    exact retI cx hw hr hk dX7_slot_12 ⟨hi, ((congrArg (Prod.mk (-1)) (rfl : vC f = (vC f))).trans (show _ = S_slot h ar mo (vC f) from (if_pos q0_1_0).symm)), KP.rf⟩
  · subst er_1
    subst q1_1_3
    refine lv_if_ne (tgt := 13) hx hb dX7_slot_8 (by decide) (fun _ => ?_) (fun q => absurd q (by decide))
    refine lv_iload_n hx hb dX7_slot_13 rfl (lv_at hl 2 rfl) ?_
    refine goI hw (runSW (As := [.int ar]) (rest := []) cx hw (c_X7_isArm l D a cI cZ f u ar  ) lk_X7_79 ⟨Nat.le_of_ble_eq_true rfl, Nat.le_of_ble_eq_true rfl⟩ ⟨rfl, rfl⟩ ⟨Nat.zero_le _, Nat.zero_le _⟩ rfl rfl hl.1 (Nat.le_of_ble_eq_true rfl) dX7_slot_14) (fun r_4 f_4 u_4 H locs hp_4 hw => ?_)
    obtain ⟨rfl, rfl, e_4⟩ := hp_4
    refine topc e_4 ?_
    refine lv_if_eq (tgt := 39) hx hb dX7_slot_17 (by decide) (fun c_5 => ?_) (fun c_5 => ?_)
    · refine lv_bipush (v := (-2)) hx hb dX7_slot_39 (by decide) ?_
      exact retI cx hw hr hk dX7_slot_41 ⟨hi, ((congrArg (Prod.mk (-2)) (rfl : vC f = (vC f))).trans (show _ = S_slot (nI b1_1_j) ar mo (vC f) from ((if_neg (by rw [show vC f 0 0 = nI b1_1_c from q1_1_2]; exact rg_yes (by omega) (by omega))).trans ((show S_sl (nI b1_1_j).toNatClampNeg ar mo (vC f) = S_sl b1_1_j ar mo (vC f) by rw [nI_clamp (by omega)]).trans (S_sl_a c_5))).symm)), KP.rf⟩
    · obtain ⟨t_5, ht_5, et_5⟩ := rg_nat (n := 5000) rfl c_5
      subst et_5
      refine lv_iload_n hx hb dX7_slot_20 rfl (lv_at hl 2 rfl) ?_
      refine lv_aload_n hx hb dX7_slot_21 rfl (lv_at hl 0 rfl) ?_
      refine gf_X7_21 cx hw dX7_slot_22 ?_
      refine lv_iload_n hx hb dX7_slot_25 rfl (lv_at hl 1 rfl) ?_
      refine goI hw (runVW (k := 1) (As := [.int (nI b1_1_j)]) (rest := [.int (nI t_5)]) cx hw (k_X1_lastArm l D a cI cZ f u b1_1_j  hi (by omega)) lk_X7_93 rfl rfl ⟨Nat.le_of_ble_eq_true rfl, Nat.le_of_ble_eq_true rfl⟩ ⟨rfl, rfl⟩ ⟨Nat.zero_le _, Nat.zero_le _⟩ rfl rfl hl.1 (Nat.le_of_ble_eq_true rfl) dX7_slot_26) (fun r_6 f_6 u_6 H locs hp_6 hw => ?_)
      obtain ⟨rfl, rfl, ha_6⟩ := hp_6
      rcases ha_6 with ⟨er_6, q0_6_0⟩ | ⟨b1_6_n, q1_6_0, q1_6_1, q1_6_2, q1_6_3⟩
      · subst er_6
        refine lv_icmp_le (tgt := 39) hx hb dX7_slot_29 (by decide) (fun q => absurd q (nI_nle_m1 (by omega))) (fun _ => ?_)
        refine lv_iload_n hx hb dX7_slot_32 rfl (lv_at hl 3 rfl) ?_
        refine goI hw (runSW (As := [.int mo]) (rest := []) cx hw (c_X7_isBorne l D a cI cZ f u mo  ) lk_X7_83 ⟨Nat.le_of_ble_eq_true rfl, Nat.le_of_ble_eq_true rfl⟩ ⟨rfl, rfl⟩ ⟨Nat.zero_le _, Nat.zero_le _⟩ rfl rfl hl.1 (Nat.le_of_ble_eq_true rfl) dX7_slot_33) (fun r_8 f_8 u_8 H locs hp_8 hw => ?_)
        obtain ⟨rfl, rfl, e_8⟩ := hp_8
        refine topc e_8 ?_
        refine lv_if_ne (tgt := 42) hx hb dX7_slot_36 (by decide) (fun c_9 => ?_) (fun c_9 => ?_)
        · obtain ⟨t_9, ht_9, et_9⟩ := rg_nat (n := 20000) rfl c_9
          subst et_9
          refine lv_aload_n hx hb dX7_slot_42 rfl (lv_at hl 0 rfl) ?_
          refine gf_X7_21 cx hw dX7_slot_43 ?_
          refine lv_iload_n hx hb dX7_slot_46 rfl (lv_at hl 1 rfl) ?_
          refine lv_iload_n hx hb dX7_slot_47 rfl (lv_at hl 2 rfl) ?_
          refine lv_iload_n hx hb dX7_slot_48 rfl (lv_at hl 3 rfl) ?_
          refine goI hw (runVW (k := 1) (As := [.int (nI b1_1_j), .int (nI t_5), .int (nI t_9)]) (rest := []) cx hw (k_X1_addSlot l D a cI cZ f u b1_1_j (nI t_5) (nI t_9)  hi (by omega)) lk_X7_97 rfl rfl ⟨Nat.le_of_ble_eq_true rfl, Nat.le_of_ble_eq_true rfl⟩ ⟨rfl, rfl⟩ ⟨Nat.zero_le _, Nat.zero_le _⟩ rfl rfl hl.1 (Nat.le_of_ble_eq_true rfl) dX7_slot_49) (fun r_10 f_10 u_10 H locs hp_10 hw => ?_)
          obtain ⟨hi_10, ev_10, kp_10⟩ := hp_10
          exact retI cx hw hr hk dX7_slot_52 ⟨hi_10, (show _ = S_slot (nI b1_1_j) (nI t_5) (nI t_9) (vC f) from ((if_neg (by rw [show vC f 0 0 = nI b1_1_c from q1_1_2]; exact rg_yes (by omega) (by omega))).trans ((show S_sl (nI b1_1_j).toNatClampNeg (nI t_5) (nI t_9) (vC f) = S_sl b1_1_j (nI t_5) (nI t_9) (vC f) by rw [nI_clamp (by omega)]).trans ((S_sl_ok (n := 0) q0_6_0 (by omega) c_5 c_9 (Or.inl rfl)).trans ev_10.symm))).symm), (KP.tr KP.rf kp_10)⟩
        · refine lv_bipush (v := (-2)) hx hb dX7_slot_39 (by decide) ?_
          exact retI cx hw hr hk dX7_slot_41 ⟨hi, ((congrArg (Prod.mk (-2)) (rfl : vC f = (vC f))).trans (show _ = S_slot (nI b1_1_j) (nI t_5) mo (vC f) from ((if_neg (by rw [show vC f 0 0 = nI b1_1_c from q1_1_2]; exact rg_yes (by omega) (by omega))).trans ((show S_sl (nI b1_1_j).toNatClampNeg (nI t_5) mo (vC f) = S_sl b1_1_j (nI t_5) mo (vC f) by rw [nI_clamp (by omega)]).trans (S_sl_m c_9))).symm)), KP.rf⟩
      · refine lv_icmp_le (tgt := 39) hx hb dX7_slot_29 (by decide) (fun c_11 => ?_) (fun c_11 => ?_)
        · refine lv_bipush (v := (-2)) hx hb dX7_slot_39 (by decide) ?_
          exact retI cx hw hr hk dX7_slot_41 ⟨hi, ((congrArg (Prod.mk (-2)) (rfl : vC f = (vC f))).trans (show _ = S_slot (nI b1_1_j) (nI t_5) mo (vC f) from ((if_neg (by rw [show vC f 0 0 = nI b1_1_c from q1_1_2]; exact rg_yes (by omega) (by omega))).trans ((show S_sl (nI b1_1_j).toNatClampNeg (nI t_5) mo (vC f) = S_sl b1_1_j (nI t_5) mo (vC f) by rw [nI_clamp (by omega)]).trans (S_sl_l (n := b1_6_n) q1_6_2 (by omega) (by omega) q1_6_3.symm c_11))).symm)), KP.rf⟩
        · refine lv_iload_n hx hb dX7_slot_32 rfl (lv_at hl 3 rfl) ?_
          refine goI hw (runSW (As := [.int mo]) (rest := []) cx hw (c_X7_isBorne l D a cI cZ f u mo  ) lk_X7_83 ⟨Nat.le_of_ble_eq_true rfl, Nat.le_of_ble_eq_true rfl⟩ ⟨rfl, rfl⟩ ⟨Nat.zero_le _, Nat.zero_le _⟩ rfl rfl hl.1 (Nat.le_of_ble_eq_true rfl) dX7_slot_33) (fun r_12 f_12 u_12 H locs hp_12 hw => ?_)
          obtain ⟨rfl, rfl, e_12⟩ := hp_12
          refine topc e_12 ?_
          refine lv_if_ne (tgt := 42) hx hb dX7_slot_36 (by decide) (fun c_13 => ?_) (fun c_13 => ?_)
          · obtain ⟨t_13, ht_13, et_13⟩ := rg_nat (n := 20000) rfl c_13
            subst et_13
            refine lv_aload_n hx hb dX7_slot_42 rfl (lv_at hl 0 rfl) ?_
            refine gf_X7_21 cx hw dX7_slot_43 ?_
            refine lv_iload_n hx hb dX7_slot_46 rfl (lv_at hl 1 rfl) ?_
            refine lv_iload_n hx hb dX7_slot_47 rfl (lv_at hl 2 rfl) ?_
            refine lv_iload_n hx hb dX7_slot_48 rfl (lv_at hl 3 rfl) ?_
            refine goI hw (runVW (k := 1) (As := [.int (nI b1_1_j), .int (nI t_5), .int (nI t_13)]) (rest := []) cx hw (k_X1_addSlot l D a cI cZ f u b1_1_j (nI t_5) (nI t_13)  hi (by omega)) lk_X7_97 rfl rfl ⟨Nat.le_of_ble_eq_true rfl, Nat.le_of_ble_eq_true rfl⟩ ⟨rfl, rfl⟩ ⟨Nat.zero_le _, Nat.zero_le _⟩ rfl rfl hl.1 (Nat.le_of_ble_eq_true rfl) dX7_slot_49) (fun r_14 f_14 u_14 H locs hp_14 hw => ?_)
            obtain ⟨hi_14, ev_14, kp_14⟩ := hp_14
            exact retI cx hw hr hk dX7_slot_52 ⟨hi_14, (show _ = S_slot (nI b1_1_j) (nI t_5) (nI t_13) (vC f) from ((if_neg (by rw [show vC f 0 0 = nI b1_1_c from q1_1_2]; exact rg_yes (by omega) (by omega))).trans ((show S_sl (nI b1_1_j).toNatClampNeg (nI t_5) (nI t_13) (vC f) = S_sl b1_1_j (nI t_5) (nI t_13) (vC f) by rw [nI_clamp (by omega)]).trans ((S_sl_ok (n := b1_6_n) q1_6_2 (by omega) c_5 c_13 (Or.inr (fun z => c_11 (by rw [q1_6_3]; exact z)))).trans ev_14.symm))).symm), (KP.tr KP.rf kp_14)⟩
          · refine lv_bipush (v := (-2)) hx hb dX7_slot_39 (by decide) ?_
            exact retI cx hw hr hk dX7_slot_41 ⟨hi, ((congrArg (Prod.mk (-2)) (rfl : vC f = (vC f))).trans (show _ = S_slot (nI b1_1_j) (nI t_5) mo (vC f) from ((if_neg (by rw [show vC f 0 0 = nI b1_1_c from q1_1_2]; exact rg_yes (by omega) (by omega))).trans ((show S_sl (nI b1_1_j).toNatClampNeg (nI t_5) mo (vC f) = S_sl b1_1_j (nI t_5) mo (vC f) by rw [nI_clamp (by omega)]).trans (S_sl_m c_13))).symm)), KP.rf⟩

set_option maxHeartbeats 4000000 in
set_option maxRecDepth 100000 in
theorem k_X7_apart (l : Launch) (D : va_G) (a : Nat → Nat) (cI cZ : ClassId) (f : FF) (u : UU) (x : Int32) (y : Int32) (d : Int32) (hi : IV f)  : KI l yX7_apart cX7_apart 4 (some .int) ({ frames := 3, cells := 0, slots := 0, locals := 54 } : Room) D a cI cZ [.ref (a 0), .int x, .int y, .int d] f u (fun r f2 u2 => IV f2 ∧ (r, vC f2) = S_apart x y d (vC f) ∧ KP f f2) := by
  refine KX.of (by decide) (Nat.le_of_ble_eq_true rfl) ?_
  intro p e s m below meth c cx hw hr hk ls hl
  have cx : Cx p s m _ c cX7_apart RX7 4 D cI cZ := cx
  have hl : lv_has ls 4 [(0, .ref (a 0)), (1, .int x), (2, .int y), (3, .int d)] := hl
  have hx := cx.1.1
  have hb := cx.1.2.1
  refine lv_iload_n hx hb dX7_apart_0 rfl (lv_at hl 1 rfl) ?_
  refine goI hw (runSW (As := [.int x]) (rest := []) cx hw (c_X7_isKind l D a cI cZ f u x  ) lk_X7_101 ⟨Nat.le_of_ble_eq_true rfl, Nat.le_of_ble_eq_true rfl⟩ ⟨rfl, rfl⟩ ⟨Nat.zero_le _, Nat.zero_le _⟩ rfl rfl hl.1 (Nat.le_of_ble_eq_true rfl) dX7_apart_1) (fun r_1 f_1 u_1 H locs hp_1 hw => ?_)
  obtain ⟨rfl, rfl, e_1⟩ := hp_1
  refine topc e_1 ?_
  refine lv_if_eq (tgt := 14) hx hb dX7_apart_4 (by decide) (fun c_2 => ?_) (fun c_2 => ?_)
  · refine lv_iconst (v := (-1)) hx hb dX7_apart_14 (by decide) ?_
    exact retI cx hw hr hk dX7_apart_15 ⟨hi, ((congrArg (Prod.mk (-1)) (rfl : vC f = (vC f))).trans (show _ = S_apart x y d (vC f) from (if_pos c_2).symm)), KP.rf⟩
  · obtain ⟨t_2, ht_2, et_2⟩ := rg_nat (n := 7) rfl c_2
    subst et_2
    refine lv_iload_n hx hb dX7_apart_7 rfl (lv_at hl 2 rfl) ?_
    refine goI hw (runSW (As := [.int y]) (rest := []) cx hw (c_X7_isKind l D a cI cZ f u y  ) lk_X7_101 ⟨Nat.le_of_ble_eq_true rfl, Nat.le_of_ble_eq_true rfl⟩ ⟨rfl, rfl⟩ ⟨Nat.zero_le _, Nat.zero_le _⟩ rfl rfl hl.1 (Nat.le_of_ble_eq_true rfl) dX7_apart_8) (fun r_3 f_3 u_3 H locs hp_3 hw => ?_)
    obtain ⟨rfl, rfl, e_3⟩ := hp_3
    refine topc e_3 ?_
    refine lv_if_ne (tgt := 16) hx hb dX7_apart_11 (by decide) (fun c_4 => ?_) (fun c_4 => ?_)
    · obtain ⟨t_4, ht_4, et_4⟩ := rg_nat (n := 7) rfl c_4
      subst et_4
      refine lv_iload_n hx hb dX7_apart_16 rfl (lv_at hl 3 rfl) ?_
      refine lv_iconst (v := 0) hx hb dX7_apart_17 (by decide) ?_
      refine lv_bipush (v := 8) hx hb dX7_apart_18 (by decide) ?_
      refine goI hw (runSW (As := [.int d, .int 0, .int 8]) (rest := []) cx hw (c_X7_isFromTo l D a cI cZ f u d 0 8  ) lk_X7_75 ⟨Nat.le_of_ble_eq_true rfl, Nat.le_of_ble_eq_true rfl⟩ ⟨rfl, rfl⟩ ⟨Nat.zero_le _, Nat.zero_le _⟩ rfl rfl hl.1 (Nat.le_of_ble_eq_true rfl) dX7_apart_20) (fun r_5 f_5 u_5 H locs hp_5 hw => ?_)
      obtain ⟨rfl, rfl, e_5⟩ := hp_5
      refine topc e_5 ?_
      refine lv_if_ne (tgt := 29) hx hb dX7_apart_23 (by decide) (fun c_6 => ?_) (fun c_6 => ?_)
      · obtain ⟨t_6, ht_6, et_6⟩ := rg_nat (n := 8) rfl c_6
        subst et_6
        refine lv_aload_n hx hb dX7_apart_29 rfl (lv_at hl 0 rfl) ?_
        refine gf_X7_21 cx hw dX7_apart_30 ?_
        refine lv_iload_n hx hb dX7_apart_33 rfl (lv_at hl 1 rfl) ?_
        refine lv_iload_n hx hb dX7_apart_34 rfl (lv_at hl 2 rfl) ?_
        refine lv_iload_n hx hb dX7_apart_35 rfl (lv_at hl 3 rfl) ?_
        refine goI hw (runVW (k := 1) (As := [.int (nI t_2), .int (nI t_4), .int (nI t_6)]) (rest := []) cx hw (k_X1_setDistance l D a cI cZ f u t_2 t_4 (nI t_6)  hi (by omega) (by omega)) lk_X7_104 rfl rfl ⟨Nat.le_of_ble_eq_true rfl, Nat.le_of_ble_eq_true rfl⟩ ⟨rfl, rfl⟩ ⟨Nat.zero_le _, Nat.zero_le _⟩ rfl rfl hl.1 (Nat.le_of_ble_eq_true rfl) dX7_apart_36) (fun r_7 f_7 u_7 H locs hp_7 hw => ?_)
        obtain ⟨hi_7, ev_7, kp_7⟩ := hp_7
        exact retI cx hw hr hk dX7_apart_39 ⟨hi_7, (show _ = S_apart (nI t_2) (nI t_4) (nI t_6) (vC f) from ((if_neg c_2).trans ((if_neg c_4).trans ((if_neg c_6).trans ((show S_ap (nI t_2).toNatClampNeg (nI t_4).toNatClampNeg (nI t_6) (vC f) = S_ap t_2 t_4 (nI t_6) (vC f) by rw [nI_clamp (by omega), nI_clamp (by omega)]).trans ev_7.symm)))).symm), (KP.tr KP.rf kp_7)⟩
      · refine lv_bipush (v := (-2)) hx hb dX7_apart_26 (by decide) ?_
        exact retI cx hw hr hk dX7_apart_28 ⟨hi, ((congrArg (Prod.mk (-2)) (rfl : vC f = (vC f))).trans (show _ = S_apart (nI t_2) (nI t_4) d (vC f) from ((if_neg c_2).trans ((if_neg c_4).trans (if_pos c_6))).symm)), KP.rf⟩
    · refine lv_iconst (v := (-1)) hx hb dX7_apart_14 (by decide) ?_
      exact retI cx hw hr hk dX7_apart_15 ⟨hi, ((congrArg (Prod.mk (-1)) (rfl : vC f = (vC f))).trans (show _ = S_apart (nI t_2) y d (vC f) from ((if_neg c_2).trans (if_pos c_4)).symm)), KP.rf⟩

set_option maxHeartbeats 4000000 in
set_option maxRecDepth 100000 in
theorem k_X7_item (l : Launch) (D : va_G) (a : Nat → Nat) (cI cZ : ClassId) (f : FF) (u : UU) (we : Int32) (ki : Int32) (sp : Int32) (hi : IV f)  : KI l yX7_item cX7_item 4 (some .int) ({ frames := 3, cells := 0, slots := 0, locals := 58 } : Room) D a cI cZ [.ref (a 0), .int we, .int ki, .int sp] f u (fun r f2 u2 => IV f2 ∧ (r, vC f2) = S_item we ki sp (vC f) ∧ KP f f2) := by
  refine KX.of (by decide) (Nat.le_of_ble_eq_true rfl) ?_
  intro p e s m below meth c cx hw hr hk ls hl
  have cx : Cx p s m _ c cX7_item RX7 4 D cI cZ := cx
  have hl : lv_has ls 4 [(0, .ref (a 0)), (1, .int we), (2, .int ki), (3, .int sp)] := hl
  have hx := cx.1.1
  have hb := cx.1.2.1
  refine lv_iload_n hx hb dX7_item_0 rfl (lv_at hl 1 rfl) ?_
  refine lv_iconst (v := 1) hx hb dX7_item_1 (by decide) ?_
  refine lv_sipush (v := 5000) hx hb dX7_item_2 (by decide) ?_
  refine goI hw (runSW (As := [.int we, .int 1, .int 5000]) (rest := []) cx hw (c_X7_isFromTo l D a cI cZ f u we 1 5000  ) lk_X7_75 ⟨Nat.le_of_ble_eq_true rfl, Nat.le_of_ble_eq_true rfl⟩ ⟨rfl, rfl⟩ ⟨Nat.zero_le _, Nat.zero_le _⟩ rfl rfl hl.1 (Nat.le_of_ble_eq_true rfl) dX7_item_5) (fun r_1 f_1 u_1 H locs hp_1 hw => ?_)
  obtain ⟨rfl, rfl, e_1⟩ := hp_1
  refine topc e_1 ?_
  refine lv_if_ne (tgt := 14) hx hb dX7_item_8 (by decide) (fun c_2 => ?_) (fun c_2 => ?_)
  · obtain ⟨t_2, hs_2, ht_2, et_2⟩ := rg_nat2 (a := 1) (n := 5000) (by omega) rfl c_2
    subst et_2
    refine lv_iload_n hx hb dX7_item_14 rfl (lv_at hl 2 rfl) ?_
    refine goI hw (runSW (As := [.int ki]) (rest := []) cx hw (c_X7_isKind l D a cI cZ f u ki  ) lk_X7_101 ⟨Nat.le_of_ble_eq_true rfl, Nat.le_of_ble_eq_true rfl⟩ ⟨rfl, rfl⟩ ⟨Nat.zero_le _, Nat.zero_le _⟩ rfl rfl hl.1 (Nat.le_of_ble_eq_true rfl) dX7_item_15) (fun r_3 f_3 u_3 H locs hp_3 hw => ?_)
    obtain ⟨rfl, rfl, e_3⟩ := hp_3
    refine topc e_3 ?_
    refine lv_if_eq (tgt := 28) hx hb dX7_item_18 (by decide) (fun c_4 => ?_) (fun c_4 => ?_)
    · refine lv_iconst (v := (-1)) hx hb dX7_item_28 (by decide) ?_
      exact retI cx hw hr hk dX7_item_29 ⟨hi, ((congrArg (Prod.mk (-1)) (rfl : vC f = (vC f))).trans (show _ = S_item (nI t_2) ki sp (vC f) from ((if_neg c_2).trans (if_pos c_4)).symm)), KP.rf⟩
    · obtain ⟨t_4, ht_4, et_4⟩ := rg_nat (n := 7) rfl c_4
      subst et_4
      refine lv_iload_n hx hb dX7_item_21 rfl (lv_at hl 3 rfl) ?_
      refine goI hw (runSW (As := [.int sp]) (rest := []) cx hw (c_X7_isStop l D a cI cZ f u sp  ) lk_X7_107 ⟨Nat.le_of_ble_eq_true rfl, Nat.le_of_ble_eq_true rfl⟩ ⟨rfl, rfl⟩ ⟨Nat.zero_le _, Nat.zero_le _⟩ rfl rfl hl.1 (Nat.le_of_ble_eq_true rfl) dX7_item_22) (fun r_5 f_5 u_5 H locs hp_5 hw => ?_)
      obtain ⟨rfl, rfl, e_5⟩ := hp_5
      refine topc e_5 ?_
      refine lv_if_ne (tgt := 30) hx hb dX7_item_25 (by decide) (fun c_6 => ?_) (fun c_6 => ?_)
      · obtain ⟨t_6, hs_6, ht_6, et_6⟩ := rg_nat2 (a := 1) (n := 4) (by omega) rfl c_6
        subst et_6
        refine lv_aload_n hx hb dX7_item_30 rfl (lv_at hl 0 rfl) ?_
        refine gf_X7_21 cx hw dX7_item_31 ?_
        refine lv_iload_n hx hb dX7_item_34 rfl (lv_at hl 1 rfl) ?_
        refine lv_iload_n hx hb dX7_item_35 rfl (lv_at hl 2 rfl) ?_
        refine lv_iload_n hx hb dX7_item_36 rfl (lv_at hl 3 rfl) ?_
        refine goI hw (runVW (k := 1) (As := [.int (nI t_2), .int (nI t_4), .int (nI t_6)]) (rest := []) cx hw (k_X1_addItem l D a cI cZ f u (nI t_2) t_4 (nI t_6)  hi (by omega)) lk_X7_110 rfl rfl ⟨Nat.le_of_ble_eq_true rfl, Nat.le_of_ble_eq_true rfl⟩ ⟨rfl, rfl⟩ ⟨Nat.zero_le _, Nat.zero_le _⟩ rfl rfl hl.1 (Nat.le_of_ble_eq_true rfl) dX7_item_37) (fun r_7 f_7 u_7 H locs hp_7 hw => ?_)
        obtain ⟨hi_7, ev_7, kp_7⟩ := hp_7
        exact retI cx hw hr hk dX7_item_40 ⟨hi_7, (show _ = S_item (nI t_2) (nI t_4) (nI t_6) (vC f) from ((if_neg c_2).trans ((if_neg c_4).trans ((if_neg c_6).trans ev_7.symm))).symm), (KP.tr KP.rf kp_7)⟩
      · refine lv_iconst (v := (-1)) hx hb dX7_item_28 (by decide) ?_
        exact retI cx hw hr hk dX7_item_29 ⟨hi, ((congrArg (Prod.mk (-1)) (rfl : vC f = (vC f))).trans (show _ = S_item (nI t_2) (nI t_4) sp (vC f) from ((if_neg c_2).trans ((if_neg c_4).trans (if_pos c_6))).symm)), KP.rf⟩
  · refine lv_bipush (v := (-2)) hx hb dX7_item_11 (by decide) ?_
    exact retI cx hw hr hk dX7_item_13 ⟨hi, ((congrArg (Prod.mk (-2)) (rfl : vC f = (vC f))).trans (show _ = S_item we ki sp (vC f) from (if_pos c_2).symm)), KP.rf⟩

set_option maxHeartbeats 4000000 in
set_option maxRecDepth 100000 in
theorem k_X7_row (l : Launch) (D : va_G) (a : Nat → Nat) (cI cZ : ClassId) (f : FF) (u : UU) (ar : Int32) (n : Int32) (hi : IV f)  : KI l yX7_row cX7_row 3 (some .int) ({ frames := 3, cells := 0, slots := 0, locals := 54 } : Room) D a cI cZ [.ref (a 0), .int ar, .int n] f u (fun r f2 u2 => IV f2 ∧ (r, vC f2) = S_row ar n (vC f) ∧ KP f f2) := by
  refine KX.of (by decide) (Nat.le_of_ble_eq_true rfl) ?_
  intro p e s m below meth c cx hw hr hk ls hl
  have cx : Cx p s m _ c cX7_row RX7 3 D cI cZ := cx
  have hl : lv_has ls 3 [(0, .ref (a 0)), (1, .int ar), (2, .int n)] := hl
  have hx := cx.1.1
  have hb := cx.1.2.1
  refine lv_iload_n hx hb dX7_row_0 rfl (lv_at hl 1 rfl) ?_
  refine goI hw (runSW (As := [.int ar]) (rest := []) cx hw (c_X7_isArm l D a cI cZ f u ar  ) lk_X7_79 ⟨Nat.le_of_ble_eq_true rfl, Nat.le_of_ble_eq_true rfl⟩ ⟨rfl, rfl⟩ ⟨Nat.zero_le _, Nat.zero_le _⟩ rfl rfl hl.1 (Nat.le_of_ble_eq_true rfl) dX7_row_1) (fun r_1 f_1 u_1 H locs hp_1 hw => ?_)
  obtain ⟨rfl, rfl, e_1⟩ := hp_1
  refine topc e_1 ?_
  refine lv_if_eq (tgt := 17) hx hb dX7_row_4 (by decide) (fun c_2 => ?_) (fun c_2 => ?_)
  · refine lv_bipush (v := (-2)) hx hb dX7_row_17 (by decide) ?_
    exact retI cx hw hr hk dX7_row_19 ⟨hi, ((congrArg (Prod.mk (-2)) (rfl : vC f = (vC f))).trans (show _ = S_row ar n (vC f) from (if_pos c_2).symm)), KP.rf⟩
  · obtain ⟨t_2, ht_2, et_2⟩ := rg_nat (n := 5000) rfl c_2
    subst et_2
    refine lv_iload_n hx hb dX7_row_7 rfl (lv_at hl 2 rfl) ?_
    refine lv_iconst (v := 1) hx hb dX7_row_8 (by decide) ?_
    refine lv_bipush (v := 8) hx hb dX7_row_9 (by decide) ?_
    refine goI hw (runSW (As := [.int n, .int 1, .int 8]) (rest := []) cx hw (c_X7_isFromTo l D a cI cZ f u n 1 8  ) lk_X7_75 ⟨Nat.le_of_ble_eq_true rfl, Nat.le_of_ble_eq_true rfl⟩ ⟨rfl, rfl⟩ ⟨Nat.zero_le _, Nat.zero_le _⟩ rfl rfl hl.1 (Nat.le_of_ble_eq_true rfl) dX7_row_11) (fun r_3 f_3 u_3 H locs hp_3 hw => ?_)
    obtain ⟨rfl, rfl, e_3⟩ := hp_3
    refine topc e_3 ?_
    refine lv_if_ne (tgt := 20) hx hb dX7_row_14 (by decide) (fun c_4 => ?_) (fun c_4 => ?_)
    · obtain ⟨t_4, hs_4, ht_4, et_4⟩ := rg_nat2 (a := 1) (n := 8) (by omega) rfl c_4
      subst et_4
      refine lv_aload_n hx hb dX7_row_20 rfl (lv_at hl 0 rfl) ?_
      refine gf_X7_28 cx hw dX7_row_21 ?_
      refine lv_iload_n hx hb dX7_row_24 rfl (lv_at hl 1 rfl) ?_
      refine lv_iload_n hx hb dX7_row_25 rfl (lv_at hl 2 rfl) ?_
      refine goI hw (runVW (k := 2) (As := [.int (nI t_2), .int (nI t_4)]) (rest := []) cx hw (k_X0_addRow l D a cI cZ f u (nI t_2) (nI t_4)  hi) lk_X7_113 rfl rfl ⟨Nat.le_of_ble_eq_true rfl, Nat.le_of_ble_eq_true rfl⟩ ⟨rfl, rfl⟩ ⟨Nat.zero_le _, Nat.zero_le _⟩ rfl rfl hl.1 (Nat.le_of_ble_eq_true rfl) dX7_row_26) (fun r_5 f_5 u_5 H locs hp_5 hw => ?_)
      obtain ⟨hi_5, ev_5, kp_5⟩ := hp_5
      exact retI cx hw hr hk dX7_row_29 ⟨hi_5, (show _ = S_row (nI t_2) (nI t_4) (vC f) from ((if_neg c_2).trans ((if_neg c_4).trans ev_5.symm)).symm), (KP.tr KP.rf kp_5)⟩
    · refine lv_bipush (v := (-2)) hx hb dX7_row_17 (by decide) ?_
      exact retI cx hw hr hk dX7_row_19 ⟨hi, ((congrArg (Prod.mk (-2)) (rfl : vC f = (vC f))).trans (show _ = S_row (nI t_2) n (vC f) from ((if_neg c_2).trans (if_pos c_4)).symm)), KP.rf⟩

set_option maxHeartbeats 4000000 in
set_option maxRecDepth 100000 in
theorem k_X7_tank (l : Launch) (D : va_G) (a : Nat → Nat) (cI cZ : ClassId) (f : FF) (u : UU) (ar : Int32) (mo : Int32) (hi : IV f)  : KI l yX7_tank cX7_tank 3 (some .int) ({ frames := 3, cells := 0, slots := 0, locals := 54 } : Room) D a cI cZ [.ref (a 0), .int ar, .int mo] f u (fun r f2 u2 => IV f2 ∧ (r, vC f2) = S_tank ar mo (vC f) ∧ KP f f2) := by
  refine KX.of (by decide) (Nat.le_of_ble_eq_true rfl) ?_
  intro p e s m below meth c cx hw hr hk ls hl
  have cx : Cx p s m _ c cX7_tank RX7 3 D cI cZ := cx
  have hl : lv_has ls 3 [(0, .ref (a 0)), (1, .int ar), (2, .int mo)] := hl
  have hx := cx.1.1
  have hb := cx.1.2.1
  refine lv_iload_n hx hb dX7_tank_0 rfl (lv_at hl 1 rfl) ?_
  refine goI hw (runSW (As := [.int ar]) (rest := []) cx hw (c_X7_isArm l D a cI cZ f u ar  ) lk_X7_79 ⟨Nat.le_of_ble_eq_true rfl, Nat.le_of_ble_eq_true rfl⟩ ⟨rfl, rfl⟩ ⟨Nat.zero_le _, Nat.zero_le _⟩ rfl rfl hl.1 (Nat.le_of_ble_eq_true rfl) dX7_tank_1) (fun r_1 f_1 u_1 H locs hp_1 hw => ?_)
  obtain ⟨rfl, rfl, e_1⟩ := hp_1
  refine topc e_1 ?_
  refine lv_if_eq (tgt := 14) hx hb dX7_tank_4 (by decide) (fun c_2 => ?_) (fun c_2 => ?_)
  · refine lv_bipush (v := (-2)) hx hb dX7_tank_14 (by decide) ?_
    exact retI cx hw hr hk dX7_tank_16 ⟨hi, ((congrArg (Prod.mk (-2)) (rfl : vC f = (vC f))).trans (show _ = S_tank ar mo (vC f) from (if_pos c_2).symm)), KP.rf⟩
  · obtain ⟨t_2, ht_2, et_2⟩ := rg_nat (n := 5000) rfl c_2
    subst et_2
    refine lv_iload_n hx hb dX7_tank_7 rfl (lv_at hl 2 rfl) ?_
    refine goI hw (runSW (As := [.int mo]) (rest := []) cx hw (c_X7_isBorne l D a cI cZ f u mo  ) lk_X7_83 ⟨Nat.le_of_ble_eq_true rfl, Nat.le_of_ble_eq_true rfl⟩ ⟨rfl, rfl⟩ ⟨Nat.zero_le _, Nat.zero_le _⟩ rfl rfl hl.1 (Nat.le_of_ble_eq_true rfl) dX7_tank_8) (fun r_3 f_3 u_3 H locs hp_3 hw => ?_)
    obtain ⟨rfl, rfl, e_3⟩ := hp_3
    refine topc e_3 ?_
    refine lv_if_ne (tgt := 17) hx hb dX7_tank_11 (by decide) (fun c_4 => ?_) (fun c_4 => ?_)
    · obtain ⟨t_4, ht_4, et_4⟩ := rg_nat (n := 20000) rfl c_4
      subst et_4
      refine lv_aload_n hx hb dX7_tank_17 rfl (lv_at hl 0 rfl) ?_
      refine gf_X7_35 cx hw dX7_tank_18 ?_
      refine lv_iload_n hx hb dX7_tank_21 rfl (lv_at hl 1 rfl) ?_
      refine lv_iload_n hx hb dX7_tank_22 rfl (lv_at hl 2 rfl) ?_
      refine goI hw (runVW (k := 3) (As := [.int (nI t_2), .int (nI t_4)]) (rest := []) cx hw (k_X6_addTank l D a cI cZ f u (nI t_2) (nI t_4)  hi) lk_X7_116 rfl rfl ⟨Nat.le_of_ble_eq_true rfl, Nat.le_of_ble_eq_true rfl⟩ ⟨rfl, rfl⟩ ⟨Nat.zero_le _, Nat.zero_le _⟩ rfl rfl hl.1 (Nat.le_of_ble_eq_true rfl) dX7_tank_23) (fun r_5 f_5 u_5 H locs hp_5 hw => ?_)
      obtain ⟨hi_5, ev_5, kp_5⟩ := hp_5
      exact retI cx hw hr hk dX7_tank_26 ⟨hi_5, (show _ = S_tank (nI t_2) (nI t_4) (vC f) from ((if_neg c_2).trans ((if_neg c_4).trans ev_5.symm)).symm), (KP.tr KP.rf kp_5)⟩
    · refine lv_bipush (v := (-2)) hx hb dX7_tank_14 (by decide) ?_
      exact retI cx hw hr hk dX7_tank_16 ⟨hi, ((congrArg (Prod.mk (-2)) (rfl : vC f = (vC f))).trans (show _ = S_tank (nI t_2) mo (vC f) from ((if_neg c_2).trans (if_pos c_4)).symm)), KP.rf⟩

set_option maxHeartbeats 4000000 in
set_option maxRecDepth 100000 in
theorem k_X7_person (l : Launch) (D : va_G) (a : Nat → Nat) (cI cZ : ClassId) (f : FF) (u : UU) (we : Int32) (hi : IV f)  : KI l yX7_person cX7_person 3 (some .int) ({ frames := 2, cells := 0, slots := 0, locals := 34 } : Room) D a cI cZ [.ref (a 0), .int we] f u (fun r f2 u2 => IV f2 ∧ (r, vC f2) = S_person we (vC f) ∧ KP f f2) := by
  refine KX.of (by decide) (Nat.le_of_ble_eq_true rfl) ?_
  intro p e s m below meth c cx hw hr hk ls hl
  have cx : Cx p s m _ c cX7_person RX7 3 D cI cZ := cx
  have hl : lv_has ls 3 [(0, .ref (a 0)), (1, .int we)] := hl
  have hx := cx.1.1
  have hb := cx.1.2.1
  refine lv_iload_n hx hb dX7_person_0 rfl (lv_at hl 1 rfl) ?_
  refine lv_bipush (v := 50) hx hb dX7_person_1 (by decide) ?_
  refine lv_sipush (v := 150) hx hb dX7_person_3 (by decide) ?_
  refine goI hw (runSW (As := [.int we, .int 50, .int 150]) (rest := []) cx hw (c_X7_isFromTo l D a cI cZ f u we 50 150  ) lk_X7_75 ⟨Nat.le_of_ble_eq_true rfl, Nat.le_of_ble_eq_true rfl⟩ ⟨rfl, rfl⟩ ⟨Nat.zero_le _, Nat.zero_le _⟩ rfl rfl hl.1 (Nat.le_of_ble_eq_true rfl) dX7_person_6) (fun r_1 f_1 u_1 H locs hp_1 hw => ?_)
  obtain ⟨rfl, rfl, e_1⟩ := hp_1
  refine topc e_1 ?_
  refine lv_if_ne (tgt := 15) hx hb dX7_person_9 (by decide) (fun c_2 => ?_) (fun c_2 => ?_)
  · obtain ⟨t_2, hs_2, ht_2, et_2⟩ := rg_nat2 (a := 50) (n := 150) (by omega) rfl c_2
    subst et_2
    refine lv_aload_n hx hb dX7_person_15 rfl (lv_at hl 0 rfl) ?_
    refine gf_X7_28 cx hw dX7_person_16 ?_
    refine gf_X7_119 cx hw dX7_person_19 ?_
    refine lv_istore_n (lv' := [(2, .int (f 2 4)), (0, .ref (a 0)), (1, .int (nI t_2))]) hx hb dX7_person_22 rfl hl (by decide) rfl (fun ls hl => ?_)
    refine lv_aload_n hx hb dX7_person_23 rfl (lv_at hl 1 rfl) ?_
    refine gf_X7_28 cx hw dX7_person_24 ?_
    refine lv_iload_n hx hb dX7_person_27 rfl (lv_at hl 2 rfl) ?_
    refine pf_X7_119 cx hw dX7_person_28 (fun H locs hw => ?_)
    have hi_3 : IV (up f 2 (upd (f 2) 4 (nI t_2))) := IV.u_2_4 hi
    have vp_4 : vC (up f 2 (upd (f 2) 4 (nI t_2))) = (up (vC f) 0 (upd ((vC f) 0) 4 (nI t_2))) := (vC_s_2_4).trans (congrArg (fun z : FF => up z 0 (upd (z 0) 4 (nI t_2))) (rfl : vC f = (vC f)))
    refine lv_iload_n hx hb dX7_person_31 rfl (lv_at hl 0 rfl) ?_
    exact retI cx hw hr hk dX7_person_32 ⟨hi_3, ((congrArg (Prod.mk (f 2 4)) (vp_4 : vC (up f 2 (upd (f 2) 4 (nI t_2))) = (up (vC f) 0 (upd ((vC f) 0) 4 (nI t_2))))).trans (show _ = S_person (nI t_2) (vC f) from ((if_neg c_2).trans rfl).symm)), (KP.up (by decide) KP.rf)⟩
  · refine lv_bipush (v := (-2)) hx hb dX7_person_12 (by decide) ?_
    exact retI cx hw hr hk dX7_person_14 ⟨hi, ((congrArg (Prod.mk (-2)) (rfl : vC f = (vC f))).trans (show _ = S_person we (vC f) from (if_pos c_2).symm)), KP.rf⟩

set_option maxHeartbeats 4000000 in
set_option maxRecDepth 100000 in
theorem k_X7_seat (l : Launch) (D : va_G) (a : Nat → Nat) (cI cZ : ClassId) (f : FF) (u : UU) (ro : Int32) (n : Int32) (hi : IV f)  : KI l yX7_seat cX7_seat 4 (some .int) ({ frames := 2, cells := 0, slots := 0, locals := 34 } : Room) D a cI cZ [.ref (a 0), .int ro, .int n] f u (fun r f2 u2 => IV f2 ∧ KK [23] f f2) := by
  refine KX.of (by decide) (Nat.le_of_ble_eq_true rfl) ?_
  intro p e s m below meth c cx hw hr hk ls hl
  have cx : Cx p s m _ c cX7_seat RX7 4 D cI cZ := cx
  have hl : lv_has ls 4 [(0, .ref (a 0)), (1, .int ro), (2, .int n)] := hl
  have hx := cx.1.1
  have hb := cx.1.2.1
  refine lv_iload_n hx hb dX7_seat_0 rfl (lv_at hl 1 rfl) ?_
  refine lv_iconst (v := 0) hx hb dX7_seat_1 (by decide) ?_
  refine lv_aload_n hx hb dX7_seat_2 rfl (lv_at hl 0 rfl) ?_
  refine gf_X7_28 cx hw dX7_seat_3 ?_
  refine gf_X7_122 cx hw dX7_seat_6 ?_
  obtain ⟨n_1, hn_1, en_1⟩ := IV.s_2_3 hi
  refine topc (y := (nI n_1)) en_1 ?_
  refine lv_iconst (v := 1) hx hb dX7_seat_9 (by decide) ?_
  refine lv_isub hx hb dX7_seat_10 ?_
  refine goI hw (runSW (As := [.int ro, .int 0, .int (nI n_1 - 1)]) (rest := []) cx hw (c_X7_isFromTo l D a cI cZ f u ro 0 (nI n_1 - 1)  ) lk_X7_75 ⟨Nat.le_of_ble_eq_true rfl, Nat.le_of_ble_eq_true rfl⟩ ⟨rfl, rfl⟩ ⟨Nat.zero_le _, Nat.zero_le _⟩ rfl rfl hl.1 (Nat.le_of_ble_eq_true rfl) dX7_seat_11) (fun r_2 f_2 u_2 H locs hp_2 hw => ?_)
  obtain ⟨rfl, rfl, e_2⟩ := hp_2
  refine topc e_2 ?_
  refine lv_if_ne (tgt := 19) hx hb dX7_seat_14 (by decide) (fun c_3 => ?_) (fun c_3 => ?_)
  · obtain ⟨t_3, ht_3, et_3⟩ := rg_idx (c := n_1) (by omega) c_3
    subst et_3
    refine lv_iload_n hx hb dX7_seat_19 rfl (lv_at hl 2 rfl) ?_
    refine lv_iconst (v := 0) hx hb dX7_seat_20 (by decide) ?_
    refine lv_aload_n hx hb dX7_seat_21 rfl (lv_at hl 0 rfl) ?_
    refine gf_X7_28 cx hw dX7_seat_22 ?_
    refine gf_X7_125 cx hw dX7_seat_25 ?_
    refine lv_iload_n hx hb dX7_seat_28 rfl (lv_at hl 1 rfl) ?_
    refine aldN 22 t_3 cx hw rfl (by omega) (by decide) dX7_seat_29 ?_
    refine lv_topi (fun x_4 _ => ?_)
    refine goI hw (runSW (As := [.int n, .int 0, .int x_4]) (rest := []) cx hw (c_X7_isFromTo l D a cI cZ f u n 0 x_4  ) lk_X7_75 ⟨Nat.le_of_ble_eq_true rfl, Nat.le_of_ble_eq_true rfl⟩ ⟨rfl, rfl⟩ ⟨Nat.zero_le _, Nat.zero_le _⟩ rfl rfl hl.1 (Nat.le_of_ble_eq_true rfl) dX7_seat_30) (fun r_5 f_5 u_5 H locs hp_5 hw => ?_)
    obtain ⟨rfl, rfl, e_5⟩ := hp_5
    refine topc e_5 ?_
    refine lv_if_ne (tgt := 39) hx hb dX7_seat_33 (by decide) (fun c_6 => ?_) (fun c_6 => ?_)
    · refine lv_aload_n hx hb dX7_seat_39 rfl (lv_at hl 0 rfl) ?_
      refine gf_X7_28 cx hw dX7_seat_40 ?_
      refine gf_X7_129 cx hw dX7_seat_43 ?_
      refine lv_iload_n hx hb dX7_seat_46 rfl (lv_at hl 1 rfl) ?_
      refine aldN 23 t_3 cx hw rfl (by omega) (by decide) dX7_seat_47 ?_
      refine lv_topi (fun x_7 _ => ?_)
      refine lv_istore_n (lv' := [(3, .int x_7), (0, .ref (a 0)), (1, .int (nI t_3)), (2, .int n)]) hx hb dX7_seat_48 rfl hl (by decide) rfl (fun ls hl => ?_)
      refine lv_aload_n hx hb dX7_seat_49 rfl (lv_at hl 1 rfl) ?_
      refine gf_X7_28 cx hw dX7_seat_50 ?_
      refine gf_X7_129 cx hw dX7_seat_53 ?_
      refine lv_iload_n hx hb dX7_seat_56 rfl (lv_at hl 2 rfl) ?_
      refine lv_iload_n hx hb dX7_seat_57 rfl (lv_at hl 3 rfl) ?_
      refine astN 23 t_3 cx hw rfl ws_23 (by omega) (by decide) dX7_seat_58 (fun H locs hw => ?_)
      have hi_8 : IV (up f 23 (upd (f 23) t_3 n)) := IV.wr hi 23 trivial
      refine lv_iload_n hx hb dX7_seat_59 rfl (lv_at hl 0 rfl) ?_
      exact retI cx hw hr hk dX7_seat_60 ⟨hi_8, (KK.wr (by decide) (by decide) KK.rf)⟩
    · refine lv_bipush (v := (-2)) hx hb dX7_seat_36 (by decide) ?_
      exact retI cx hw hr hk dX7_seat_38 ⟨hi, KK.rf⟩
  · refine lv_iconst (v := (-1)) hx hb dX7_seat_17 (by decide) ?_
    exact retI cx hw hr hk dX7_seat_18 ⟨hi, KK.rf⟩

set_option maxHeartbeats 4000000 in
set_option maxRecDepth 100000 in
theorem k_X7_fuel (l : Launch) (D : va_G) (a : Nat → Nat) (cI cZ : ClassId) (f : FF) (u : UU) (tn : Int32) (am : Int32) (hi : IV f)  : KI l yX7_fuel cX7_fuel 4 (some .int) ({ frames := 2, cells := 0, slots := 0, locals := 34 } : Room) D a cI cZ [.ref (a 0), .int tn, .int am] f u (fun r f2 u2 => IV f2 ∧ (r, vC f2) = S_fuel tn am (vC f) ∧ KP f f2) := by
  refine KX.of (by decide) (Nat.le_of_ble_eq_true rfl) ?_
  intro p e s m below meth c cx hw hr hk ls hl
  have cx : Cx p s m _ c cX7_fuel RX7 4 D cI cZ := cx
  have hl : lv_has ls 4 [(0, .ref (a 0)), (1, .int tn), (2, .int am)] := hl
  have hx := cx.1.1
  have hb := cx.1.2.1
  refine lv_iload_n hx hb dX7_fuel_0 rfl (lv_at hl 1 rfl) ?_
  refine lv_iconst (v := 0) hx hb dX7_fuel_1 (by decide) ?_
  refine lv_aload_n hx hb dX7_fuel_2 rfl (lv_at hl 0 rfl) ?_
  refine gf_X7_35 cx hw dX7_fuel_3 ?_
  refine gf_X7_132 cx hw dX7_fuel_6 ?_
  obtain ⟨n_1, hn_1, en_1⟩ := IV.s_3_3 hi
  refine topc (y := (nI n_1)) en_1 ?_
  refine lv_iconst (v := 1) hx hb dX7_fuel_9 (by decide) ?_
  refine lv_isub hx hb dX7_fuel_10 ?_
  refine goI hw (runSW (As := [.int tn, .int 0, .int (nI n_1 - 1)]) (rest := []) cx hw (c_X7_isFromTo l D a cI cZ f u tn 0 (nI n_1 - 1)  ) lk_X7_75 ⟨Nat.le_of_ble_eq_true rfl, Nat.le_of_ble_eq_true rfl⟩ ⟨rfl, rfl⟩ ⟨Nat.zero_le _, Nat.zero_le _⟩ rfl rfl hl.1 (Nat.le_of_ble_eq_true rfl) dX7_fuel_11) (fun r_2 f_2 u_2 H locs hp_2 hw => ?_)
  obtain ⟨rfl, rfl, e_2⟩ := hp_2
  refine topc e_2 ?_
  refine lv_if_ne (tgt := 19) hx hb dX7_fuel_14 (by decide) (fun c_3 => ?_) (fun c_3 => ?_)
  · obtain ⟨t_3, ht_3, et_3⟩ := rg_idx (c := n_1) (by omega) c_3
    subst et_3
    refine lv_iload_n hx hb dX7_fuel_19 rfl (lv_at hl 2 rfl) ?_
    refine lv_iconst (v := 0) hx hb dX7_fuel_20 (by decide) ?_
    refine lv_aload_n hx hb dX7_fuel_21 rfl (lv_at hl 0 rfl) ?_
    refine gf_X7_35 cx hw dX7_fuel_22 ?_
    refine gf_X7_135 cx hw dX7_fuel_25 ?_
    refine lv_iload_n hx hb dX7_fuel_28 rfl (lv_at hl 1 rfl) ?_
    refine aldN 25 t_3 cx hw rfl (by omega) (by decide) dX7_fuel_29 ?_
    refine goI hw (runSW (As := [.int am, .int 0, .int (f 25 t_3)]) (rest := []) cx hw (c_X7_isFromTo l D a cI cZ f u am 0 (f 25 t_3)  ) lk_X7_75 ⟨Nat.le_of_ble_eq_true rfl, Nat.le_of_ble_eq_true rfl⟩ ⟨rfl, rfl⟩ ⟨Nat.zero_le _, Nat.zero_le _⟩ rfl rfl hl.1 (Nat.le_of_ble_eq_true rfl) dX7_fuel_30) (fun r_4 f_4 u_4 H locs hp_4 hw => ?_)
    obtain ⟨rfl, rfl, e_4⟩ := hp_4
    refine topc e_4 ?_
    refine lv_if_ne (tgt := 39) hx hb dX7_fuel_33 (by decide) (fun c_5 => ?_) (fun c_5 => ?_)
    · refine lv_aload_n hx hb dX7_fuel_39 rfl (lv_at hl 0 rfl) ?_
      refine gf_X7_35 cx hw dX7_fuel_40 ?_
      refine gf_X7_138 cx hw dX7_fuel_43 ?_
      refine lv_iload_n hx hb dX7_fuel_46 rfl (lv_at hl 1 rfl) ?_
      refine aldN 26 t_3 cx hw rfl (by omega) (by decide) dX7_fuel_47 ?_
      refine lv_istore_n (lv' := [(3, .int (f 26 t_3)), (0, .ref (a 0)), (1, .int (nI t_3)), (2, .int am)]) hx hb dX7_fuel_48 rfl hl (by decide) rfl (fun ls hl => ?_)
      refine lv_aload_n hx hb dX7_fuel_49 rfl (lv_at hl 1 rfl) ?_
      refine gf_X7_35 cx hw dX7_fuel_50 ?_
      refine gf_X7_138 cx hw dX7_fuel_53 ?_
      refine lv_iload_n hx hb dX7_fuel_56 rfl (lv_at hl 2 rfl) ?_
      refine lv_iload_n hx hb dX7_fuel_57 rfl (lv_at hl 3 rfl) ?_
      refine astN 26 t_3 cx hw rfl ws_26 (by omega) (by decide) dX7_fuel_58 (fun H locs hw => ?_)
      have hi_6 : IV (up f 26 (upd (f 26) t_3 am)) := IV.wr hi 26 trivial
      have vp_7 : vC (up f 26 (upd (f 26) t_3 am)) = (up (vC f) 3 (upd ((vC f) 3) t_3 am)) := (vC_a_26).trans (congrArg (fun z : FF => up z 3 (upd (z 3) t_3 am)) (rfl : vC f = (vC f)))
      refine lv_iload_n hx hb dX7_fuel_59 rfl (lv_at hl 0 rfl) ?_
      exact retI cx hw hr hk dX7_fuel_60 ⟨hi_6, ((congrArg (Prod.mk (f 26 t_3)) (vp_7 : vC (up f 26 (upd (f 26) t_3 am)) = (up (vC f) 3 (upd ((vC f) 3) t_3 am)))).trans (show _ = S_fuel (nI t_3) am (vC f) from (by unfold S_fuel; rw [show vC f 0 3 = nI n_1 from en_1, if_neg c_3, nI_clamp (by omega), show vC f 2 t_3 = f 25 t_3 from rfl, if_neg c_5]; first | done | rfl))), (KP.up (by decide) KP.rf)⟩
    · refine lv_bipush (v := (-2)) hx hb dX7_fuel_36 (by decide) ?_
      exact retI cx hw hr hk dX7_fuel_38 ⟨hi, ((congrArg (Prod.mk (-2)) (rfl : vC f = (vC f))).trans (show _ = S_fuel (nI t_3) am (vC f) from (by unfold S_fuel; rw [show vC f 0 3 = nI n_1 from en_1, if_neg c_3, nI_clamp (by omega), show vC f 2 t_3 = f 25 t_3 from rfl, if_pos c_5]))), KP.rf⟩
  · refine lv_iconst (v := (-1)) hx hb dX7_fuel_17 (by decide) ?_
    exact retI cx hw hr hk dX7_fuel_18 ⟨hi, ((congrArg (Prod.mk (-1)) (rfl : vC f = (vC f))).trans (show _ = S_fuel tn am (vC f) from (by unfold S_fuel; rw [show vC f 0 3 = nI n_1 from en_1, if_pos c_3]))), KP.rf⟩

set_option maxHeartbeats 4000000 in
set_option maxRecDepth 100000 in
theorem k_X7_point (l : Launch) (D : va_G) (a : Nat → Nat) (cI cZ : ClassId) (f : FF) (u : UU) (ph : Int32) (we : Int32) (lo : Int32) (hg : Int32) (hi : IV f)  : KI l yX7_point cX7_point 6 (some .int) ({ frames := 3, cells := 0, slots := 0, locals := 54 } : Room) D a cI cZ [.ref (a 0), .int ph, .int we, .int lo, .int hg] f u (fun r f2 u2 => IV f2 ∧ (r, vC f2) = S_point ph we lo hg (vC f) ∧ KP f f2) := by
  refine KX.of (by decide) (Nat.le_of_ble_eq_true rfl) ?_
  intro p e s m below meth c cx hw hr hk ls hl
  have cx : Cx p s m _ c cX7_point RX7 6 D cI cZ := cx
  have hl : lv_has ls 6 [(0, .ref (a 0)), (1, .int ph), (2, .int we), (3, .int lo), (4, .int hg)] := hl
  have hx := cx.1.1
  have hb := cx.1.2.1
  refine lv_iload_n hx hb dX7_point_0 rfl (lv_at hl 1 rfl) ?_
  refine goI hw (runSW (As := [.int ph]) (rest := []) cx hw (c_X7_isPhase l D a cI cZ f u ph  ) lk_X7_141 ⟨Nat.le_of_ble_eq_true rfl, Nat.le_of_ble_eq_true rfl⟩ ⟨rfl, rfl⟩ ⟨Nat.zero_le _, Nat.zero_le _⟩ rfl rfl hl.1 (Nat.le_of_ble_eq_true rfl) dX7_point_1) (fun r_1 f_1 u_1 H locs hp_1 hw => ?_)
  obtain ⟨rfl, rfl, e_1⟩ := hp_1
  refine topc e_1 ?_
  refine lv_if_ne (tgt := 9) hx hb dX7_point_4 (by decide) (fun c_2 => ?_) (fun c_2 => ?_)
  · rcases rg_01 c_2 with et_2 | et_2
    · subst et_2
      refine lv_aload_n hx hb dX7_point_9 rfl (lv_at hl 0 rfl) ?_
      refine lv_iload_n hx hb dX7_point_10 rfl (lv_at hl 1 rfl) ?_
      refine goR hw (runVW (k := 0) (As := [.int 0]) (rest := []) cx hw (c_X7_limitsOf_4 l D a cI cZ f u   ) lk_X7_144 rfl rfl ⟨Nat.le_of_ble_eq_true rfl, Nat.le_of_ble_eq_true rfl⟩ ⟨rfl, rfl⟩ ⟨Nat.zero_le _, Nat.zero_le _⟩ rfl rfl hl.1 (Nat.le_of_ble_eq_true rfl) dX7_point_11) (fun r_3 f_3 u_3 H locs hp_3 hw => ?_)
      obtain ⟨rfl, rfl, rfl⟩ := hp_3
      refine lv_astore (lv' := [(5, .ref (a 4)), (0, .ref (a 0)), (1, .int 0), (2, .int we), (3, .int lo), (4, .int hg)]) hx hb dX7_point_14 hl (by decide) rfl (fun ls hl => ?_)
      refine lv_iload_n hx hb dX7_point_16 rfl (lv_at hl 3 rfl) ?_
      refine lv_aload hx hb dX7_point_17 (lv_at hl 0 rfl) ?_
      refine goI hw (runVW (k := 4) (As := []) (rest := [.int we]) cx hw (k_X3_lastWeight_4 l D a cI cZ f u   hi) lk_X7_148 rfl rfl ⟨Nat.le_of_ble_eq_true rfl, Nat.le_of_ble_eq_true rfl⟩ ⟨rfl, rfl⟩ ⟨Nat.zero_le _, Nat.zero_le _⟩ rfl rfl hl.1 (Nat.le_of_ble_eq_true rfl) dX7_point_19) (fun r_4 f_4 u_4 H locs hp_4 hw => ?_)
      obtain ⟨rfl, rfl, ha_4⟩ := hp_4
      obtain ⟨b0_4_j, q0_4_0, q0_4_1, q0_4_2⟩ := ha_4
      · subst q0_4_1
        refine lv_iconst (v := 1) hx hb dX7_point_22 (by decide) ?_
        refine lv_iadd hx hb dX7_point_23 ?_
        refine topc (y := (nI (b0_4_j + 1))) (nI_add b0_4_j 1) ?_
        refine lv_ldc (v := 1000000) hx hb cx.1.2.2.2.1 (cx.1.2.2.2.2 _ mm_2_127) dX7_point_24 ?_
        refine goI hw (runSW (As := [.int we, .int (nI (b0_4_j + 1)), .int 1000000]) (rest := []) cx hw (c_X7_isFromTo l D a cI cZ f u we (nI (b0_4_j + 1)) 1000000  ) lk_X7_75 ⟨Nat.le_of_ble_eq_true rfl, Nat.le_of_ble_eq_true rfl⟩ ⟨rfl, rfl⟩ ⟨Nat.zero_le _, Nat.zero_le _⟩ rfl rfl hl.1 (Nat.le_of_ble_eq_true rfl) dX7_point_26) (fun r_5 f_5 u_5 H locs hp_5 hw => ?_)
        obtain ⟨rfl, rfl, e_5⟩ := hp_5
        refine topc e_5 ?_
        refine lv_if_ne (tgt := 35) hx hb dX7_point_29 (by decide) (fun c_6 => ?_) (fun c_6 => ?_)
        · obtain ⟨t_6, hs_6, ht_6, et_6⟩ := rg_nat2 (a := (b0_4_j + 1)) (n := 1000000) (by omega) rfl c_6
          subst et_6
          refine lv_iload_n hx hb dX7_point_35 rfl (lv_at hl 4 rfl) ?_
          refine goI hw (runSW (As := [.int lo]) (rest := []) cx hw (c_X7_isArm l D a cI cZ f u lo  ) lk_X7_79 ⟨Nat.le_of_ble_eq_true rfl, Nat.le_of_ble_eq_true rfl⟩ ⟨rfl, rfl⟩ ⟨Nat.zero_le _, Nat.zero_le _⟩ rfl rfl hl.1 (Nat.le_of_ble_eq_true rfl) dX7_point_36) (fun r_7 f_7 u_7 H locs hp_7 hw => ?_)
          obtain ⟨rfl, rfl, e_7⟩ := hp_7
          refine topc e_7 ?_
          refine lv_if_eq (tgt := 56) hx hb dX7_point_39 (by decide) (fun c_8 => ?_) (fun c_8 => ?_)
          · refine lv_bipush (v := (-2)) hx hb dX7_point_56 (by decide) ?_
            exact retI cx hw hr hk dX7_point_58 ⟨hi, ((congrArg (Prod.mk (-2)) (rfl : vC f = (vC f))).trans (show _ = S_point 0 (nI t_6) lo hg (vC f) from ((if_neg c_2).trans ((if_pos rfl).trans ((if_neg (show ¬ rg (nI t_6) (lst 0 (vC f) + 1) 1000000 = 0 from by rw [← q0_4_2, nI_1]; exact c_6)).trans (if_pos c_8)))).symm)), KP.rf⟩
          · obtain ⟨t_8, ht_8, et_8⟩ := rg_nat (n := 5000) rfl c_8
            subst et_8
            refine lv_iload hx hb dX7_point_42 (lv_at hl 5 rfl) ?_
            refine goI hw (runSW (As := [.int hg]) (rest := []) cx hw (c_X7_isArm l D a cI cZ f u hg  ) lk_X7_79 ⟨Nat.le_of_ble_eq_true rfl, Nat.le_of_ble_eq_true rfl⟩ ⟨rfl, rfl⟩ ⟨Nat.zero_le _, Nat.zero_le _⟩ rfl rfl hl.1 (Nat.le_of_ble_eq_true rfl) dX7_point_44) (fun r_9 f_9 u_9 H locs hp_9 hw => ?_)
            obtain ⟨rfl, rfl, e_9⟩ := hp_9
            refine topc e_9 ?_
            refine lv_if_eq (tgt := 56) hx hb dX7_point_47 (by decide) (fun c_10 => ?_) (fun c_10 => ?_)
            · refine lv_bipush (v := (-2)) hx hb dX7_point_56 (by decide) ?_
              exact retI cx hw hr hk dX7_point_58 ⟨hi, ((congrArg (Prod.mk (-2)) (rfl : vC f = (vC f))).trans (show _ = S_point 0 (nI t_6) (nI t_8) hg (vC f) from ((if_neg c_2).trans ((if_pos rfl).trans ((if_neg (show ¬ rg (nI t_6) (lst 0 (vC f) + 1) 1000000 = 0 from by rw [← q0_4_2, nI_1]; exact c_6)).trans ((if_neg c_8).trans (if_pos c_10))))).symm)), KP.rf⟩
            · obtain ⟨t_10, ht_10, et_10⟩ := rg_nat (n := 5000) rfl c_10
              subst et_10
              refine lv_iload_n hx hb dX7_point_50 rfl (lv_at hl 4 rfl) ?_
              refine lv_iload hx hb dX7_point_51 (lv_at hl 5 rfl) ?_
              refine lv_icmp_le (tgt := 59) hx hb dX7_point_53 (by decide) (fun c_11 => ?_) (fun c_11 => ?_)
              · have c_11 : t_8 ≤ t_10 := (nI_leI (a := t_8) (b := t_10) (by omega) (by omega)).mp c_11
                refine lv_aload hx hb dX7_point_59 (lv_at hl 0 rfl) ?_
                refine lv_iload_n hx hb dX7_point_61 rfl (lv_at hl 3 rfl) ?_
                refine lv_iload_n hx hb dX7_point_62 rfl (lv_at hl 4 rfl) ?_
                refine lv_iload hx hb dX7_point_63 (lv_at hl 5 rfl) ?_
                refine goI hw (runVW (k := 4) (As := [.int (nI t_6), .int (nI t_8), .int (nI t_10)]) (rest := []) cx hw (k_X3_addPoint_4 l D a cI cZ f u t_6 (nI t_8) (nI t_10)  hi (by omega)) lk_X7_153 rfl rfl ⟨Nat.le_of_ble_eq_true rfl, Nat.le_of_ble_eq_true rfl⟩ ⟨rfl, rfl⟩ ⟨Nat.zero_le _, Nat.zero_le _⟩ rfl rfl hl.1 (Nat.le_of_ble_eq_true rfl) dX7_point_65) (fun r_12 f_12 u_12 H locs hp_12 hw => ?_)
                obtain ⟨hi_12, ev_12, kp_12⟩ := hp_12
                exact retI cx hw hr hk dX7_point_68 ⟨hi_12, (show _ = S_point 0 (nI t_6) (nI t_8) (nI t_10) (vC f) from ((if_neg c_2).trans ((if_pos rfl).trans ((if_neg (show ¬ rg (nI t_6) (lst 0 (vC f) + 1) 1000000 = 0 from by rw [← q0_4_2, nI_1]; exact c_6)).trans ((if_neg c_8).trans ((if_neg c_10).trans ((if_pos ((nI_leI (a := t_8) (b := t_10) (by omega) (by omega)).mpr c_11)).trans ev_12.symm)))))).symm), (KP.tr KP.rf kp_12)⟩
              · have c_11 : ¬ t_8 ≤ t_10 := fun z => c_11 ((nI_leI (a := t_8) (b := t_10) (by omega) (by omega)).mpr z)
                refine lv_bipush (v := (-2)) hx hb dX7_point_56 (by decide) ?_
                exact retI cx hw hr hk dX7_point_58 ⟨hi, ((congrArg (Prod.mk (-2)) (rfl : vC f = (vC f))).trans (show _ = S_point 0 (nI t_6) (nI t_8) (nI t_10) (vC f) from ((if_neg c_2).trans ((if_pos rfl).trans ((if_neg (show ¬ rg (nI t_6) (lst 0 (vC f) + 1) 1000000 = 0 from by rw [← q0_4_2, nI_1]; exact c_6)).trans ((if_neg c_8).trans ((if_neg c_10).trans (if_neg (fun z => c_11 ((nI_leI (a := t_8) (b := t_10) (by omega) (by omega)).mp z)))))))).symm)), KP.rf⟩
        · refine lv_bipush (v := (-2)) hx hb dX7_point_32 (by decide) ?_
          exact retI cx hw hr hk dX7_point_34 ⟨hi, ((congrArg (Prod.mk (-2)) (rfl : vC f = (vC f))).trans (show _ = S_point 0 we lo hg (vC f) from ((if_neg c_2).trans ((if_pos rfl).trans (if_pos (show rg we (lst 0 (vC f) + 1) 1000000 = 0 from by rw [← q0_4_2, nI_1]; exact c_6)))).symm)), KP.rf⟩
    · subst et_2
      refine lv_aload_n hx hb dX7_point_9 rfl (lv_at hl 0 rfl) ?_
      refine lv_iload_n hx hb dX7_point_10 rfl (lv_at hl 1 rfl) ?_
      refine goR hw (runVW (k := 0) (As := [.int 1]) (rest := []) cx hw (c_X7_limitsOf_5 l D a cI cZ f u   ) lk_X7_144 rfl rfl ⟨Nat.le_of_ble_eq_true rfl, Nat.le_of_ble_eq_true rfl⟩ ⟨rfl, rfl⟩ ⟨Nat.zero_le _, Nat.zero_le _⟩ rfl rfl hl.1 (Nat.le_of_ble_eq_true rfl) dX7_point_11) (fun r_13 f_13 u_13 H locs hp_13 hw => ?_)
      obtain ⟨rfl, rfl, rfl⟩ := hp_13
      refine lv_astore (lv' := [(5, .ref (a 5)), (0, .ref (a 0)), (1, .int 1), (2, .int we), (3, .int lo), (4, .int hg)]) hx hb dX7_point_14 hl (by decide) rfl (fun ls hl => ?_)
      refine lv_iload_n hx hb dX7_point_16 rfl (lv_at hl 3 rfl) ?_
      refine lv_aload hx hb dX7_point_17 (lv_at hl 0 rfl) ?_
      refine goI hw (runVW (k := 5) (As := []) (rest := [.int we]) cx hw (k_X3_lastWeight_5 l D a cI cZ f u   hi) lk_X7_148 rfl rfl ⟨Nat.le_of_ble_eq_true rfl, Nat.le_of_ble_eq_true rfl⟩ ⟨rfl, rfl⟩ ⟨Nat.zero_le _, Nat.zero_le _⟩ rfl rfl hl.1 (Nat.le_of_ble_eq_true rfl) dX7_point_19) (fun r_14 f_14 u_14 H locs hp_14 hw => ?_)
      obtain ⟨rfl, rfl, ha_14⟩ := hp_14
      obtain ⟨b0_14_j, q0_14_0, q0_14_1, q0_14_2⟩ := ha_14
      · subst q0_14_1
        refine lv_iconst (v := 1) hx hb dX7_point_22 (by decide) ?_
        refine lv_iadd hx hb dX7_point_23 ?_
        refine topc (y := (nI (b0_14_j + 1))) (nI_add b0_14_j 1) ?_
        refine lv_ldc (v := 1000000) hx hb cx.1.2.2.2.1 (cx.1.2.2.2.2 _ mm_2_127) dX7_point_24 ?_
        refine goI hw (runSW (As := [.int we, .int (nI (b0_14_j + 1)), .int 1000000]) (rest := []) cx hw (c_X7_isFromTo l D a cI cZ f u we (nI (b0_14_j + 1)) 1000000  ) lk_X7_75 ⟨Nat.le_of_ble_eq_true rfl, Nat.le_of_ble_eq_true rfl⟩ ⟨rfl, rfl⟩ ⟨Nat.zero_le _, Nat.zero_le _⟩ rfl rfl hl.1 (Nat.le_of_ble_eq_true rfl) dX7_point_26) (fun r_15 f_15 u_15 H locs hp_15 hw => ?_)
        obtain ⟨rfl, rfl, e_15⟩ := hp_15
        refine topc e_15 ?_
        refine lv_if_ne (tgt := 35) hx hb dX7_point_29 (by decide) (fun c_16 => ?_) (fun c_16 => ?_)
        · obtain ⟨t_16, hs_16, ht_16, et_16⟩ := rg_nat2 (a := (b0_14_j + 1)) (n := 1000000) (by omega) rfl c_16
          subst et_16
          refine lv_iload_n hx hb dX7_point_35 rfl (lv_at hl 4 rfl) ?_
          refine goI hw (runSW (As := [.int lo]) (rest := []) cx hw (c_X7_isArm l D a cI cZ f u lo  ) lk_X7_79 ⟨Nat.le_of_ble_eq_true rfl, Nat.le_of_ble_eq_true rfl⟩ ⟨rfl, rfl⟩ ⟨Nat.zero_le _, Nat.zero_le _⟩ rfl rfl hl.1 (Nat.le_of_ble_eq_true rfl) dX7_point_36) (fun r_17 f_17 u_17 H locs hp_17 hw => ?_)
          obtain ⟨rfl, rfl, e_17⟩ := hp_17
          refine topc e_17 ?_
          refine lv_if_eq (tgt := 56) hx hb dX7_point_39 (by decide) (fun c_18 => ?_) (fun c_18 => ?_)
          · refine lv_bipush (v := (-2)) hx hb dX7_point_56 (by decide) ?_
            exact retI cx hw hr hk dX7_point_58 ⟨hi, ((congrArg (Prod.mk (-2)) (rfl : vC f = (vC f))).trans (show _ = S_point 1 (nI t_16) lo hg (vC f) from ((if_neg c_2).trans ((if_neg (show ¬ (1 : Int32) = 0 from by decide)).trans ((if_neg (show ¬ rg (nI t_16) (lst 1 (vC f) + 1) 1000000 = 0 from by rw [← q0_14_2, nI_1]; exact c_16)).trans (if_pos c_18)))).symm)), KP.rf⟩
          · obtain ⟨t_18, ht_18, et_18⟩ := rg_nat (n := 5000) rfl c_18
            subst et_18
            refine lv_iload hx hb dX7_point_42 (lv_at hl 5 rfl) ?_
            refine goI hw (runSW (As := [.int hg]) (rest := []) cx hw (c_X7_isArm l D a cI cZ f u hg  ) lk_X7_79 ⟨Nat.le_of_ble_eq_true rfl, Nat.le_of_ble_eq_true rfl⟩ ⟨rfl, rfl⟩ ⟨Nat.zero_le _, Nat.zero_le _⟩ rfl rfl hl.1 (Nat.le_of_ble_eq_true rfl) dX7_point_44) (fun r_19 f_19 u_19 H locs hp_19 hw => ?_)
            obtain ⟨rfl, rfl, e_19⟩ := hp_19
            refine topc e_19 ?_
            refine lv_if_eq (tgt := 56) hx hb dX7_point_47 (by decide) (fun c_20 => ?_) (fun c_20 => ?_)
            · refine lv_bipush (v := (-2)) hx hb dX7_point_56 (by decide) ?_
              exact retI cx hw hr hk dX7_point_58 ⟨hi, ((congrArg (Prod.mk (-2)) (rfl : vC f = (vC f))).trans (show _ = S_point 1 (nI t_16) (nI t_18) hg (vC f) from ((if_neg c_2).trans ((if_neg (show ¬ (1 : Int32) = 0 from by decide)).trans ((if_neg (show ¬ rg (nI t_16) (lst 1 (vC f) + 1) 1000000 = 0 from by rw [← q0_14_2, nI_1]; exact c_16)).trans ((if_neg c_18).trans (if_pos c_20))))).symm)), KP.rf⟩
            · obtain ⟨t_20, ht_20, et_20⟩ := rg_nat (n := 5000) rfl c_20
              subst et_20
              refine lv_iload_n hx hb dX7_point_50 rfl (lv_at hl 4 rfl) ?_
              refine lv_iload hx hb dX7_point_51 (lv_at hl 5 rfl) ?_
              refine lv_icmp_le (tgt := 59) hx hb dX7_point_53 (by decide) (fun c_21 => ?_) (fun c_21 => ?_)
              · have c_21 : t_18 ≤ t_20 := (nI_leI (a := t_18) (b := t_20) (by omega) (by omega)).mp c_21
                refine lv_aload hx hb dX7_point_59 (lv_at hl 0 rfl) ?_
                refine lv_iload_n hx hb dX7_point_61 rfl (lv_at hl 3 rfl) ?_
                refine lv_iload_n hx hb dX7_point_62 rfl (lv_at hl 4 rfl) ?_
                refine lv_iload hx hb dX7_point_63 (lv_at hl 5 rfl) ?_
                refine goI hw (runVW (k := 5) (As := [.int (nI t_16), .int (nI t_18), .int (nI t_20)]) (rest := []) cx hw (k_X3_addPoint_5 l D a cI cZ f u t_16 (nI t_18) (nI t_20)  hi (by omega)) lk_X7_153 rfl rfl ⟨Nat.le_of_ble_eq_true rfl, Nat.le_of_ble_eq_true rfl⟩ ⟨rfl, rfl⟩ ⟨Nat.zero_le _, Nat.zero_le _⟩ rfl rfl hl.1 (Nat.le_of_ble_eq_true rfl) dX7_point_65) (fun r_22 f_22 u_22 H locs hp_22 hw => ?_)
                obtain ⟨hi_22, ev_22, kp_22⟩ := hp_22
                exact retI cx hw hr hk dX7_point_68 ⟨hi_22, (show _ = S_point 1 (nI t_16) (nI t_18) (nI t_20) (vC f) from ((if_neg c_2).trans ((if_neg (show ¬ (1 : Int32) = 0 from by decide)).trans ((if_neg (show ¬ rg (nI t_16) (lst 1 (vC f) + 1) 1000000 = 0 from by rw [← q0_14_2, nI_1]; exact c_16)).trans ((if_neg c_18).trans ((if_neg c_20).trans ((if_pos ((nI_leI (a := t_18) (b := t_20) (by omega) (by omega)).mpr c_21)).trans ev_22.symm)))))).symm), (KP.tr KP.rf kp_22)⟩
              · have c_21 : ¬ t_18 ≤ t_20 := fun z => c_21 ((nI_leI (a := t_18) (b := t_20) (by omega) (by omega)).mpr z)
                refine lv_bipush (v := (-2)) hx hb dX7_point_56 (by decide) ?_
                exact retI cx hw hr hk dX7_point_58 ⟨hi, ((congrArg (Prod.mk (-2)) (rfl : vC f = (vC f))).trans (show _ = S_point 1 (nI t_16) (nI t_18) (nI t_20) (vC f) from ((if_neg c_2).trans ((if_neg (show ¬ (1 : Int32) = 0 from by decide)).trans ((if_neg (show ¬ rg (nI t_16) (lst 1 (vC f) + 1) 1000000 = 0 from by rw [← q0_14_2, nI_1]; exact c_16)).trans ((if_neg c_18).trans ((if_neg c_20).trans (if_neg (fun z => c_21 ((nI_leI (a := t_18) (b := t_20) (by omega) (by omega)).mp z)))))))).symm)), KP.rf⟩
        · refine lv_bipush (v := (-2)) hx hb dX7_point_32 (by decide) ?_
          exact retI cx hw hr hk dX7_point_34 ⟨hi, ((congrArg (Prod.mk (-2)) (rfl : vC f = (vC f))).trans (show _ = S_point 1 we lo hg (vC f) from ((if_neg c_2).trans ((if_neg (show ¬ (1 : Int32) = 0 from by decide)).trans (if_pos (show rg we (lst 1 (vC f) + 1) 1000000 = 0 from by rw [← q0_14_2, nI_1]; exact c_16)))).symm)), KP.rf⟩
  · refine lv_iconst (v := (-1)) hx hb dX7_point_7 (by decide) ?_
    exact retI cx hw hr hk dX7_point_8 ⟨hi, ((congrArg (Prod.mk (-1)) (rfl : vC f = (vC f))).trans (show _ = S_point ph we lo hg (vC f) from (if_pos c_2).symm)), KP.rf⟩

set_option maxHeartbeats 4000000 in
set_option maxRecDepth 100000 in
theorem k_X7_wipe (l : Launch) (D : va_G) (a : Nat → Nat) (cI cZ : ClassId) (f : FF) (u : UU) (ph : Int32) (hi : IV f)  : KI l yX7_wipe cX7_wipe 4 (some .int) ({ frames := 2, cells := 0, slots := 0, locals := 33 } : Room) D a cI cZ [.ref (a 0), .int ph] f u (fun r f2 u2 => IV f2 ∧ (r, vC f2) = S_wipe ph (vC f) ∧ KP f f2) := by
  refine KX.of (by decide) (Nat.le_of_ble_eq_true rfl) ?_
  intro p e s m below meth c cx hw hr hk ls hl
  have cx : Cx p s m _ c cX7_wipe RX7 4 D cI cZ := cx
  have hl : lv_has ls 4 [(0, .ref (a 0)), (1, .int ph)] := hl
  have hx := cx.1.1
  have hb := cx.1.2.1
  refine lv_iload_n hx hb dX7_wipe_0 rfl (lv_at hl 1 rfl) ?_
  refine goI hw (runSW (As := [.int ph]) (rest := []) cx hw (c_X7_isPhase l D a cI cZ f u ph  ) lk_X7_141 ⟨Nat.le_of_ble_eq_true rfl, Nat.le_of_ble_eq_true rfl⟩ ⟨rfl, rfl⟩ ⟨Nat.zero_le _, Nat.zero_le _⟩ rfl rfl hl.1 (Nat.le_of_ble_eq_true rfl) dX7_wipe_1) (fun r_1 f_1 u_1 H locs hp_1 hw => ?_)
  obtain ⟨rfl, rfl, e_1⟩ := hp_1
  refine topc e_1 ?_
  refine lv_if_ne (tgt := 9) hx hb dX7_wipe_4 (by decide) (fun c_2 => ?_) (fun c_2 => ?_)
  · rcases rg_01 c_2 with et_2 | et_2
    · subst et_2
      refine lv_aload_n hx hb dX7_wipe_9 rfl (lv_at hl 0 rfl) ?_
      refine lv_iload_n hx hb dX7_wipe_10 rfl (lv_at hl 1 rfl) ?_
      refine goR hw (runVW (k := 0) (As := [.int 0]) (rest := []) cx hw (c_X7_limitsOf_4 l D a cI cZ f u   ) lk_X7_144 rfl rfl ⟨Nat.le_of_ble_eq_true rfl, Nat.le_of_ble_eq_true rfl⟩ ⟨rfl, rfl⟩ ⟨Nat.zero_le _, Nat.zero_le _⟩ rfl rfl hl.1 (Nat.le_of_ble_eq_true rfl) dX7_wipe_11) (fun r_3 f_3 u_3 H locs hp_3 hw => ?_)
      obtain ⟨rfl, rfl, rfl⟩ := hp_3
      refine lv_astore_n (lv' := [(2, .ref (a 4)), (0, .ref (a 0)), (1, .int 0)]) hx hb dX7_wipe_14 rfl hl (by decide) rfl (fun ls hl => ?_)
      refine lv_aload_n hx hb dX7_wipe_15 rfl (lv_at hl 0 rfl) ?_
      refine gf_X7_156_4 cx hw dX7_wipe_16 ?_
      obtain ⟨n_4, hn_4, en_4⟩ := IV.s_4_3 hi
      refine topc (y := (nI n_4)) en_4 ?_
      refine lv_istore_n (lv' := [(3, .int (nI n_4)), (2, .ref (a 4)), (0, .ref (a 0)), (1, .int 0)]) hx hb dX7_wipe_19 rfl hl (by decide) rfl (fun ls hl => ?_)
      refine lv_aload_n hx hb dX7_wipe_20 rfl (lv_at hl 1 rfl) ?_
      refine lv_iconst (v := 0) hx hb dX7_wipe_21 (by decide) ?_
      refine pf_X7_156_4 cx hw dX7_wipe_22 (fun H locs hw => ?_)
      have hi_5 : IV (up f 4 (upd (f 4) 3 0)) := IV.t_4_3 hi (okc_n (j := 0) (by omega))
      have vp_6 : vC (up f 4 (upd (f 4) 3 0)) = (up (vC f) 4 (upd ((vC f) 4) 0 0)) := (vC_s_4_3).trans (congrArg (fun z : FF => up z 4 (upd (z 4) 0 0)) (rfl : vC f = (vC f)))
      refine lv_iload_n hx hb dX7_wipe_25 rfl (lv_at hl 0 rfl) ?_
      exact retI cx hw hr hk dX7_wipe_26 ⟨hi_5, ((congrArg (Prod.mk (nI n_4)) (vp_6 : vC (up f 4 (upd (f 4) 3 0)) = (up (vC f) 4 (upd ((vC f) 4) 0 0)))).trans (show _ = S_wipe 0 (vC f) from ((if_neg c_2).trans ((if_pos rfl).trans (S_wp_e (q := 0) (n := n_4) en_4))).symm)), (KP.up (by decide) KP.rf)⟩
    · subst et_2
      refine lv_aload_n hx hb dX7_wipe_9 rfl (lv_at hl 0 rfl) ?_
      refine lv_iload_n hx hb dX7_wipe_10 rfl (lv_at hl 1 rfl) ?_
      refine goR hw (runVW (k := 0) (As := [.int 1]) (rest := []) cx hw (c_X7_limitsOf_5 l D a cI cZ f u   ) lk_X7_144 rfl rfl ⟨Nat.le_of_ble_eq_true rfl, Nat.le_of_ble_eq_true rfl⟩ ⟨rfl, rfl⟩ ⟨Nat.zero_le _, Nat.zero_le _⟩ rfl rfl hl.1 (Nat.le_of_ble_eq_true rfl) dX7_wipe_11) (fun r_7 f_7 u_7 H locs hp_7 hw => ?_)
      obtain ⟨rfl, rfl, rfl⟩ := hp_7
      refine lv_astore_n (lv' := [(2, .ref (a 5)), (0, .ref (a 0)), (1, .int 1)]) hx hb dX7_wipe_14 rfl hl (by decide) rfl (fun ls hl => ?_)
      refine lv_aload_n hx hb dX7_wipe_15 rfl (lv_at hl 0 rfl) ?_
      refine gf_X7_156_5 cx hw dX7_wipe_16 ?_
      obtain ⟨n_8, hn_8, en_8⟩ := IV.s_5_3 hi
      refine topc (y := (nI n_8)) en_8 ?_
      refine lv_istore_n (lv' := [(3, .int (nI n_8)), (2, .ref (a 5)), (0, .ref (a 0)), (1, .int 1)]) hx hb dX7_wipe_19 rfl hl (by decide) rfl (fun ls hl => ?_)
      refine lv_aload_n hx hb dX7_wipe_20 rfl (lv_at hl 1 rfl) ?_
      refine lv_iconst (v := 0) hx hb dX7_wipe_21 (by decide) ?_
      refine pf_X7_156_5 cx hw dX7_wipe_22 (fun H locs hw => ?_)
      have hi_9 : IV (up f 5 (upd (f 5) 3 0)) := IV.t_5_3 hi (okc_n (j := 0) (by omega))
      have vp_10 : vC (up f 5 (upd (f 5) 3 0)) = (up (vC f) 4 (upd ((vC f) 4) 1 0)) := (vC_s_5_3).trans (congrArg (fun z : FF => up z 4 (upd (z 4) 1 0)) (rfl : vC f = (vC f)))
      refine lv_iload_n hx hb dX7_wipe_25 rfl (lv_at hl 0 rfl) ?_
      exact retI cx hw hr hk dX7_wipe_26 ⟨hi_9, ((congrArg (Prod.mk (nI n_8)) (vp_10 : vC (up f 5 (upd (f 5) 3 0)) = (up (vC f) 4 (upd ((vC f) 4) 1 0)))).trans (show _ = S_wipe 1 (vC f) from ((if_neg c_2).trans ((if_neg (by decide)).trans (S_wp_e (q := 1) (n := n_8) en_8))).symm)), (KP.up (by decide) KP.rf)⟩
  · refine lv_iconst (v := (-1)) hx hb dX7_wipe_7 (by decide) ?_
    exact retI cx hw hr hk dX7_wipe_8 ⟨hi, ((congrArg (Prod.mk (-1)) (rfl : vC f = (vC f))).trans (show _ = S_wipe ph (vC f) from (if_pos c_2).symm)), KP.rf⟩

set_option maxHeartbeats 4000000 in
set_option maxRecDepth 100000 in
theorem k_X7_fits (l : Launch) (D : va_G) (a : Nat → Nat) (cI cZ : ClassId) (f : FF) (u : UU) (i : Int32) (h : Int32) (k : Int32) (hi : IV f)  : KI l yX7_fits cX7_fits 4 (some .int) ({ frames := 4, cells := 0, slots := 0, locals := 85 } : Room) D a cI cZ [.ref (a 0), .int i, .int h, .int k] f u (fun r f2 u2 => f = f2 ∧ u = u2 ∧ ((r = (-1)) ∨ (∃ i1 h1 k1, i1 < 40 ∧ h1 < 4 ∧ k1 < 8 ∧ i = nI i1 ∧ h = nI h1 ∧ k = nI k1))) := by
  refine KX.of (by decide) (Nat.le_of_ble_eq_true rfl) ?_
  intro p e s m below meth c cx hw hr hk ls hl
  have cx : Cx p s m _ c cX7_fits RX7 4 D cI cZ := cx
  have hl : lv_has ls 4 [(0, .ref (a 0)), (1, .int i), (2, .int h), (3, .int k)] := hl
  have hx := cx.1.1
  have hb := cx.1.2.1
  refine lv_aload_n hx hb dX7_fits_0 rfl (lv_at hl 0 rfl) ?_
  refine gf_X7_21 cx hw dX7_fits_1 ?_
  refine lv_iload_n hx hb dX7_fits_4 rfl (lv_at hl 1 rfl) ?_
  refine goI hw (runVW (k := 1) (As := [.int i]) (rest := []) cx hw (k_X1_hasItem l D a cI cZ f u i  hi) lk_X7_159 rfl rfl ⟨Nat.le_of_ble_eq_true rfl, Nat.le_of_ble_eq_true rfl⟩ ⟨rfl, rfl⟩ ⟨Nat.zero_le _, Nat.zero_le _⟩ rfl rfl hl.1 (Nat.le_of_ble_eq_true rfl) dX7_fits_5) (fun r_1 f_1 u_1 H locs hp_1 hw => ?_)
  obtain ⟨rfl, rfl, ha_1⟩ := hp_1
  rcases ha_1 with er_1 | ⟨er_1, b1_1_j, b1_1_c, q1_1_0, q1_1_1, q1_1_2, q1_1_3⟩
  · subst er_1
    refine lv_if_eq (tgt := 23) hx hb dX7_fits_8 (by decide) (fun _ => ?_) (fun q => absurd (by decide) q)
    refine lv_iconst (v := (-1)) hx hb dX7_fits_23 (by decide) ?_
    exact retI cx hw hr hk dX7_fits_24 ⟨rfl, rfl, Or.inl rfl⟩
  · subst er_1
    subst q1_1_3
    refine lv_if_eq (tgt := 23) hx hb dX7_fits_8 (by decide) (fun q => absurd q (by decide)) (fun _ => ?_)
    refine lv_aload_n hx hb dX7_fits_11 rfl (lv_at hl 0 rfl) ?_
    refine gf_X7_21 cx hw dX7_fits_12 ?_
    refine lv_iload_n hx hb dX7_fits_15 rfl (lv_at hl 2 rfl) ?_
    refine lv_iload_n hx hb dX7_fits_16 rfl (lv_at hl 3 rfl) ?_
    refine goI hw (runVW (k := 1) (As := [.int h, .int k]) (rest := []) cx hw (k_X1_hasSlot l D a cI cZ f u h k  hi) lk_X7_162 rfl rfl ⟨Nat.le_of_ble_eq_true rfl, Nat.le_of_ble_eq_true rfl⟩ ⟨rfl, rfl⟩ ⟨Nat.zero_le _, Nat.zero_le _⟩ rfl rfl hl.1 (Nat.le_of_ble_eq_true rfl) dX7_fits_17) (fun r_4 f_4 u_4 H locs hp_4 hw => ?_)
    obtain ⟨rfl, rfl, ha_4⟩ := hp_4
    rcases ha_4 with er_4 | ⟨er_4, b1_4_j, b1_4_k1, b1_4_c, b1_4_d, q1_4_0, q1_4_1, q1_4_2, q1_4_3, q1_4_4, q1_4_5, q1_4_6, q1_4_7⟩
    · subst er_4
      refine lv_if_ne (tgt := 25) hx hb dX7_fits_20 (by decide) (fun q => absurd (by decide) q) (fun _ => ?_)
      refine lv_iconst (v := (-1)) hx hb dX7_fits_23 (by decide) ?_
      exact retI cx hw hr hk dX7_fits_24 ⟨rfl, rfl, Or.inl rfl⟩
    · subst er_4
      subst q1_4_6
      subst q1_4_7
      refine lv_if_ne (tgt := 25) hx hb dX7_fits_20 (by decide) (fun _ => ?_) (fun q => absurd q (by decide))
      refine lv_aload_n hx hb dX7_fits_25 rfl (lv_at hl 0 rfl) ?_
      refine gf_X7_21 cx hw dX7_fits_26 ?_
      refine lv_iload_n hx hb dX7_fits_29 rfl (lv_at hl 1 rfl) ?_
      refine goI hw (runVW (k := 1) (As := [.int (nI b1_1_j)]) (rest := []) cx hw (k_X1_isLoaded l D a cI cZ f u b1_1_j  hi (by omega)) lk_X7_166 rfl rfl ⟨Nat.le_of_ble_eq_true rfl, Nat.le_of_ble_eq_true rfl⟩ ⟨rfl, rfl⟩ ⟨Nat.zero_le _, Nat.zero_le _⟩ rfl rfl hl.1 (Nat.le_of_ble_eq_true rfl) dX7_fits_30) (fun r_7 f_7 u_7 H locs hp_7 hw => ?_)
      obtain ⟨rfl, rfl, ha_7⟩ := hp_7
      rcases ha_7 with ⟨er_7, q0_7_0⟩ | ⟨er_7, b1_7_j, q1_7_0, q1_7_1⟩
      · subst er_7
        refine lv_if_eq (tgt := 39) hx hb dX7_fits_33 (by decide) (fun _ => ?_) (fun q => absurd (by decide) q)
        refine lv_aload_n hx hb dX7_fits_39 rfl (lv_at hl 0 rfl) ?_
        refine gf_X7_21 cx hw dX7_fits_40 ?_
        refine lv_iload_n hx hb dX7_fits_43 rfl (lv_at hl 1 rfl) ?_
        refine lv_iload_n hx hb dX7_fits_44 rfl (lv_at hl 2 rfl) ?_
        refine lv_iload_n hx hb dX7_fits_45 rfl (lv_at hl 3 rfl) ?_
        refine goI hw (runSW (As := [.int (nI b1_4_j), .int (nI b1_4_k1)]) (rest := [.int (nI b1_1_j), .ref (a 1)]) cx hw (k_X1_placeOf l D a cI cZ f u b1_4_j b1_4_k1  ) lk_X7_169 ⟨Nat.le_of_ble_eq_true rfl, Nat.le_of_ble_eq_true rfl⟩ ⟨rfl, rfl⟩ ⟨Nat.zero_le _, Nat.zero_le _⟩ rfl rfl hl.1 (Nat.le_of_ble_eq_true rfl) dX7_fits_46) (fun r_9 f_9 u_9 H locs hp_9 hw => ?_)
        obtain ⟨rfl, rfl, ha_9⟩ := hp_9
        have er_9 := ha_9
        · subst er_9
          refine goI hw (runVW (k := 1) (As := [.int (nI b1_1_j), .int (nI (b1_4_j * 8 + b1_4_k1))]) (rest := []) cx hw (k_X1_hindrance l D a cI cZ f u b1_1_j (b1_4_j * 8 + b1_4_k1)  hi (by omega) (by omega)) lk_X7_172 rfl rfl ⟨Nat.le_of_ble_eq_true rfl, Nat.le_of_ble_eq_true rfl⟩ ⟨rfl, rfl⟩ ⟨Nat.zero_le _, Nat.zero_le _⟩ rfl rfl hl.1 (Nat.le_of_ble_eq_true rfl) dX7_fits_49) (fun r_10 f_10 u_10 H locs hp_10 hw => ?_)
          obtain ⟨rfl, rfl⟩ := hp_10
          exact retI cx hw hr hk dX7_fits_52 ⟨rfl, rfl, Or.inr ⟨b1_1_j, b1_4_j, b1_4_k1, by omega, by omega, by omega, rfl, rfl, rfl⟩⟩
      · subst er_7
        refine lv_if_eq (tgt := 39) hx hb dX7_fits_33 (by decide) (fun q => absurd q (by decide)) (fun _ => ?_)
        refine lv_bipush (v := (-3)) hx hb dX7_fits_36 (by decide) ?_
        exact retI cx hw hr hk dX7_fits_38 ⟨rfl, rfl, Or.inr ⟨b1_1_j, b1_4_j, b1_4_k1, by omega, by omega, by omega, rfl, rfl, rfl⟩⟩

set_option maxHeartbeats 4000000 in
set_option maxRecDepth 100000 in
theorem k_X7_load (l : Launch) (D : va_G) (a : Nat → Nat) (cI cZ : ClassId) (f : FF) (u : UU) (i : Int32) (h : Int32) (k : Int32) (hi : IV f)  : KI l yX7_load cX7_load 5 (some .int) ({ frames := 5, cells := 0, slots := 0, locals := 108 } : Room) D a cI cZ [.ref (a 0), .int i, .int h, .int k] f u (fun r f2 u2 => IV f2 ∧ KK [14, 18] f f2) := by
  refine KX.of (by decide) (Nat.le_of_ble_eq_true rfl) ?_
  intro p e s m below meth c cx hw hr hk ls hl
  have cx : Cx p s m _ c cX7_load RX7 5 D cI cZ := cx
  have hl : lv_has ls 5 [(0, .ref (a 0)), (1, .int i), (2, .int h), (3, .int k)] := hl
  have hx := cx.1.1
  have hb := cx.1.2.1
  refine lv_aload_n hx hb dX7_load_0 rfl (lv_at hl 0 rfl) ?_
  refine lv_iload_n hx hb dX7_load_1 rfl (lv_at hl 1 rfl) ?_
  refine lv_iload_n hx hb dX7_load_2 rfl (lv_at hl 2 rfl) ?_
  refine lv_iload_n hx hb dX7_load_3 rfl (lv_at hl 3 rfl) ?_
  refine goI hw (runVW (k := 0) (As := [.int i, .int h, .int k]) (rest := []) cx hw (k_X7_fits l D a cI cZ f u i h k  hi) lk_X7_175 rfl rfl ⟨Nat.le_of_ble_eq_true rfl, Nat.le_of_ble_eq_true rfl⟩ ⟨rfl, rfl⟩ ⟨Nat.zero_le _, Nat.zero_le _⟩ rfl rfl hl.1 (Nat.le_of_ble_eq_true rfl) dX7_load_4) (fun r_1 f_1 u_1 H locs hp_1 hw => ?_)
  obtain ⟨rfl, rfl, ha_1⟩ := hp_1
  rcases ha_1 with er_1 | ⟨b1_1_i1, b1_1_h1, b1_1_k1, q1_1_0, q1_1_1, q1_1_2, q1_1_3, q1_1_4, q1_1_5⟩
  · subst er_1
    refine lv_istore (lv' := [(4, .int (-1)), (0, .ref (a 0)), (1, .int i), (2, .int h), (3, .int k)]) hx hb dX7_load_7 hl (by decide) rfl (fun ls hl => ?_)
    refine lv_iload hx hb dX7_load_9 (lv_at hl 0 rfl) ?_
    refine lv_if_ne (tgt := 27) hx hb dX7_load_11 (by decide) (fun _ => ?_) (fun q => absurd q (by decide))
    refine lv_iload hx hb dX7_load_27 (lv_at hl 0 rfl) ?_
    exact retI cx hw hr hk dX7_load_29 ⟨hi, KK.rf⟩
  · subst q1_1_3
    subst q1_1_4
    subst q1_1_5
    refine lv_istore (lv' := [(4, .int r_1), (0, .ref (a 0)), (1, .int (nI b1_1_i1)), (2, .int (nI b1_1_h1)), (3, .int (nI b1_1_k1))]) hx hb dX7_load_7 hl (by decide) rfl (fun ls hl => ?_)
    refine lv_iload hx hb dX7_load_9 (lv_at hl 0 rfl) ?_
    refine lv_if_ne (tgt := 27) hx hb dX7_load_11 (by decide) (fun _ => ?_) (fun _ => ?_)
    · refine lv_iload hx hb dX7_load_27 (lv_at hl 0 rfl) ?_
      exact retI cx hw hr hk dX7_load_29 ⟨hi, KK.rf⟩
    · refine lv_aload_n hx hb dX7_load_14 rfl (lv_at hl 1 rfl) ?_
      refine gf_X7_21 cx hw dX7_load_15 ?_
      refine lv_iload_n hx hb dX7_load_18 rfl (lv_at hl 2 rfl) ?_
      refine lv_iload_n hx hb dX7_load_19 rfl (lv_at hl 3 rfl) ?_
      refine lv_iload_n hx hb dX7_load_20 rfl (lv_at hl 4 rfl) ?_
      refine goI hw (runSW (As := [.int (nI b1_1_h1), .int (nI b1_1_k1)]) (rest := [.int (nI b1_1_i1), .ref (a 1)]) cx hw (k_X1_placeOf l D a cI cZ f u b1_1_h1 b1_1_k1  ) lk_X7_169 ⟨Nat.le_of_ble_eq_true rfl, Nat.le_of_ble_eq_true rfl⟩ ⟨rfl, rfl⟩ ⟨Nat.zero_le _, Nat.zero_le _⟩ rfl rfl hl.1 (Nat.le_of_ble_eq_true rfl) dX7_load_21) (fun r_4 f_4 u_4 H locs hp_4 hw => ?_)
      obtain ⟨rfl, rfl, ha_4⟩ := hp_4
      have er_4 := ha_4
      · subst er_4
        refine goV hw (runVW (k := 1) (As := [.int (nI b1_1_i1), .int (nI (b1_1_h1 * 8 + b1_1_k1))]) (rest := []) cx hw (k_X1_putIn l D a cI cZ f u b1_1_i1 (b1_1_h1 * 8 + b1_1_k1)  hi (by omega) (by omega)) lk_X7_178 rfl rfl ⟨Nat.le_of_ble_eq_true rfl, Nat.le_of_ble_eq_true rfl⟩ ⟨rfl, rfl⟩ ⟨Nat.zero_le _, Nat.zero_le _⟩ rfl rfl hl.1 (Nat.le_of_ble_eq_true rfl) dX7_load_24) (fun f_5 u_5 H locs hp_5 hw => ?_)
        have hi_6 : IV (putC f b1_1_i1 (b1_1_h1 * 8 + b1_1_k1)) := IV.wputC hi (by omega) (by omega)
        obtain ⟨rfl, rfl⟩ := hp_5
        refine lv_iload hx hb dX7_load_27 (lv_at hl 0 rfl) ?_
        exact retI cx hw hr hk dX7_load_29 ⟨hi_6, (KK.wputC (by decide) KK.rf)⟩

set_option maxHeartbeats 4000000 in
set_option maxRecDepth 100000 in
theorem k_X7_unload (l : Launch) (D : va_G) (a : Nat → Nat) (cI cZ : ClassId) (f : FF) (u : UU) (i : Int32) (hi : IV f)  : KI l yX7_unload cX7_unload 2 (some .int) ({ frames := 2, cells := 0, slots := 0, locals := 34 } : Room) D a cI cZ [.ref (a 0), .int i] f u (fun r f2 u2 => IV f2 ∧ KK [14, 18] f f2) := by
  refine KX.of (by decide) (Nat.le_of_ble_eq_true rfl) ?_
  intro p e s m below meth c cx hw hr hk ls hl
  have cx : Cx p s m _ c cX7_unload RX7 2 D cI cZ := cx
  have hl : lv_has ls 2 [(0, .ref (a 0)), (1, .int i)] := hl
  have hx := cx.1.1
  have hb := cx.1.2.1
  refine lv_aload_n hx hb dX7_unload_0 rfl (lv_at hl 0 rfl) ?_
  refine gf_X7_21 cx hw dX7_unload_1 ?_
  refine lv_iload_n hx hb dX7_unload_4 rfl (lv_at hl 1 rfl) ?_
  refine goI hw (runVW (k := 1) (As := [.int i]) (rest := []) cx hw (k_X1_hasItem l D a cI cZ f u i  hi) lk_X7_159 rfl rfl ⟨Nat.le_of_ble_eq_true rfl, Nat.le_of_ble_eq_true rfl⟩ ⟨rfl, rfl⟩ ⟨Nat.zero_le _, Nat.zero_le _⟩ rfl rfl hl.1 (Nat.le_of_ble_eq_true rfl) dX7_unload_5) (fun r_1 f_1 u_1 H locs hp_1 hw => ?_)
  obtain ⟨rfl, rfl, ha_1⟩ := hp_1
  rcases ha_1 with er_1 | ⟨er_1, b1_1_j, b1_1_c, q1_1_0, q1_1_1, q1_1_2, q1_1_3⟩
  · subst er_1
    refine lv_if_ne (tgt := 13) hx hb dX7_unload_8 (by decide) (fun q => absurd (by decide) q) (fun _ => ?_)
    refine lv_iconst (v := (-1)) hx hb dX7_unload_11 (by decide) ?_
    exact retI cx hw hr hk dX7_unload_12 ⟨hi, KK.rf⟩
  · subst er_1
    subst q1_1_3
    refine lv_if_ne (tgt := 13) hx hb dX7_unload_8 (by decide) (fun _ => ?_) (fun q => absurd q (by decide))
    refine lv_aload_n hx hb dX7_unload_13 rfl (lv_at hl 0 rfl) ?_
    refine gf_X7_21 cx hw dX7_unload_14 ?_
    refine lv_iload_n hx hb dX7_unload_17 rfl (lv_at hl 1 rfl) ?_
    refine goI hw (runVW (k := 1) (As := [.int (nI b1_1_j)]) (rest := []) cx hw (k_X1_isLoaded l D a cI cZ f u b1_1_j  hi (by omega)) lk_X7_166 rfl rfl ⟨Nat.le_of_ble_eq_true rfl, Nat.le_of_ble_eq_true rfl⟩ ⟨rfl, rfl⟩ ⟨Nat.zero_le _, Nat.zero_le _⟩ rfl rfl hl.1 (Nat.le_of_ble_eq_true rfl) dX7_unload_18) (fun r_4 f_4 u_4 H locs hp_4 hw => ?_)
    obtain ⟨rfl, rfl, ha_4⟩ := hp_4
    rcases ha_4 with ⟨er_4, q0_4_0⟩ | ⟨er_4, b1_4_j, q1_4_0, q1_4_1⟩
    · subst er_4
      refine lv_if_ne (tgt := 27) hx hb dX7_unload_21 (by decide) (fun q => absurd (by decide) q) (fun _ => ?_)
      refine lv_bipush (v := (-3)) hx hb dX7_unload_24 (by decide) ?_
      exact retI cx hw hr hk dX7_unload_26 ⟨hi, KK.rf⟩
    · subst er_4
      refine lv_if_ne (tgt := 27) hx hb dX7_unload_21 (by decide) (fun _ => ?_) (fun q => absurd q (by decide))
      refine lv_aload_n hx hb dX7_unload_27 rfl (lv_at hl 0 rfl) ?_
      refine gf_X7_21 cx hw dX7_unload_28 ?_
      refine lv_iload_n hx hb dX7_unload_31 rfl (lv_at hl 1 rfl) ?_
      refine goV hw (runVW (k := 1) (As := [.int (nI b1_1_j)]) (rest := []) cx hw (k_X1_takeOut l D a cI cZ f u b1_1_j b1_4_j hi (by omega) (by omega) q1_4_1) lk_X7_182 rfl rfl ⟨Nat.le_of_ble_eq_true rfl, Nat.le_of_ble_eq_true rfl⟩ ⟨rfl, rfl⟩ ⟨Nat.zero_le _, Nat.zero_le _⟩ rfl rfl hl.1 (Nat.le_of_ble_eq_true rfl) dX7_unload_32) (fun f_7 u_7 H locs hp_7 hw => ?_)
      have hi_8 : IV (takeC f b1_1_j b1_4_j) := IV.wtakeC hi
      obtain ⟨rfl, rfl⟩ := hp_7
      refine lv_iconst (v := 0) hx hb dX7_unload_35 (by decide) ?_
      exact retI cx hw hr hk dX7_unload_36 ⟨hi_8, (KK.wtakeC (by decide) KK.rf)⟩

set_option maxHeartbeats 4000000 in
set_option maxRecDepth 100000 in
theorem k_X7_where (l : Launch) (D : va_G) (a : Nat → Nat) (cI cZ : ClassId) (f : FF) (u : UU) (i : Int32) (hi : IV f)  : KI l yX7_where cX7_where 2 (some .int) ({ frames := 2, cells := 0, slots := 0, locals := 33 } : Room) D a cI cZ [.ref (a 0), .int i] f u (fun r f2 u2 => f = f2 ∧ u = u2) := by
  refine KX.of (by decide) (Nat.le_of_ble_eq_true rfl) ?_
  intro p e s m below meth c cx hw hr hk ls hl
  have cx : Cx p s m _ c cX7_where RX7 2 D cI cZ := cx
  have hl : lv_has ls 2 [(0, .ref (a 0)), (1, .int i)] := hl
  have hx := cx.1.1
  have hb := cx.1.2.1
  refine lv_aload_n hx hb dX7_where_0 rfl (lv_at hl 0 rfl) ?_
  refine gf_X7_21 cx hw dX7_where_1 ?_
  refine lv_iload_n hx hb dX7_where_4 rfl (lv_at hl 1 rfl) ?_
  refine goI hw (runVW (k := 1) (As := [.int i]) (rest := []) cx hw (k_X1_hasItem l D a cI cZ f u i  hi) lk_X7_159 rfl rfl ⟨Nat.le_of_ble_eq_true rfl, Nat.le_of_ble_eq_true rfl⟩ ⟨rfl, rfl⟩ ⟨Nat.zero_le _, Nat.zero_le _⟩ rfl rfl hl.1 (Nat.le_of_ble_eq_true rfl) dX7_where_5) (fun r_1 f_1 u_1 H locs hp_1 hw => ?_)
  obtain ⟨rfl, rfl, ha_1⟩ := hp_1
  rcases ha_1 with er_1 | ⟨er_1, b1_1_j, b1_1_c, q1_1_0, q1_1_1, q1_1_2, q1_1_3⟩
  · subst er_1
    refine lv_if_eq (tgt := 23) hx hb dX7_where_8 (by decide) (fun _ => ?_) (fun q => absurd (by decide) q)
    refine lv_iconst (v := (-1)) hx hb dX7_where_23 (by decide) ?_
    exact retI cx hw hr hk dX7_where_24 ⟨rfl, rfl⟩
  · subst er_1
    subst q1_1_3
    refine lv_if_eq (tgt := 23) hx hb dX7_where_8 (by decide) (fun q => absurd q (by decide)) (fun _ => ?_)
    refine lv_aload_n hx hb dX7_where_11 rfl (lv_at hl 0 rfl) ?_
    refine gf_X7_21 cx hw dX7_where_12 ?_
    refine gf_X7_186 cx hw dX7_where_15 ?_
    refine lv_iload_n hx hb dX7_where_18 rfl (lv_at hl 1 rfl) ?_
    refine aldN 18 b1_1_j cx hw rfl (by omega) (by decide) dX7_where_19 ?_
    rcases IV.a_18 hi (i := b1_1_j) (by omega) with en_4 | ⟨n_4, hn_4, en_4⟩
    · refine topc (y := (-1)) en_4 ?_
      refine lv_goto (tgt := 24) hx hb dX7_where_20 (by decide) ?_
      exact retI cx hw hr hk dX7_where_24 ⟨rfl, rfl⟩
    · refine topc (y := (nI n_4)) en_4 ?_
      refine lv_goto (tgt := 24) hx hb dX7_where_20 (by decide) ?_
      exact retI cx hw hr hk dX7_where_24 ⟨rfl, rfl⟩

set_option maxHeartbeats 4000000 in
set_option maxRecDepth 100000 in
theorem k_X7_in (l : Launch) (D : va_G) (a : Nat → Nat) (cI cZ : ClassId) (f : FF) (u : UU) (h : Int32) (k : Int32) (hi : IV f)  : KI l yX7_in cX7_in 3 (some .int) ({ frames := 3, cells := 0, slots := 0, locals := 55 } : Room) D a cI cZ [.ref (a 0), .int h, .int k] f u (fun r f2 u2 => f = f2 ∧ u = u2) := by
  refine KX.of (by decide) (Nat.le_of_ble_eq_true rfl) ?_
  intro p e s m below meth c cx hw hr hk ls hl
  have cx : Cx p s m _ c cX7_in RX7 3 D cI cZ := cx
  have hl : lv_has ls 3 [(0, .ref (a 0)), (1, .int h), (2, .int k)] := hl
  have hx := cx.1.1
  have hb := cx.1.2.1
  refine lv_aload_n hx hb dX7_in_0 rfl (lv_at hl 0 rfl) ?_
  refine gf_X7_21 cx hw dX7_in_1 ?_
  refine lv_iload_n hx hb dX7_in_4 rfl (lv_at hl 1 rfl) ?_
  refine lv_iload_n hx hb dX7_in_5 rfl (lv_at hl 2 rfl) ?_
  refine goI hw (runVW (k := 1) (As := [.int h, .int k]) (rest := []) cx hw (k_X1_hasSlot l D a cI cZ f u h k  hi) lk_X7_162 rfl rfl ⟨Nat.le_of_ble_eq_true rfl, Nat.le_of_ble_eq_true rfl⟩ ⟨rfl, rfl⟩ ⟨Nat.zero_le _, Nat.zero_le _⟩ rfl rfl hl.1 (Nat.le_of_ble_eq_true rfl) dX7_in_6) (fun r_1 f_1 u_1 H locs hp_1 hw => ?_)
  obtain ⟨rfl, rfl, ha_1⟩ := hp_1
  rcases ha_1 with er_1 | ⟨er_1, b1_1_j, b1_1_k1, b1_1_c, b1_1_d, q1_1_0, q1_1_1, q1_1_2, q1_1_3, q1_1_4, q1_1_5, q1_1_6, q1_1_7⟩
  · subst er_1
    refine lv_if_eq (tgt := 28) hx hb dX7_in_9 (by decide) (fun _ => ?_) (fun q => absurd (by decide) q)
    refine lv_iconst (v := (-1)) hx hb dX7_in_28 (by decide) ?_
    exact retI cx hw hr hk dX7_in_29 ⟨rfl, rfl⟩
  · subst er_1
    subst q1_1_6
    subst q1_1_7
    refine lv_if_eq (tgt := 28) hx hb dX7_in_9 (by decide) (fun q => absurd q (by decide)) (fun _ => ?_)
    refine lv_aload_n hx hb dX7_in_12 rfl (lv_at hl 0 rfl) ?_
    refine gf_X7_21 cx hw dX7_in_13 ?_
    refine gf_X7_189 cx hw dX7_in_16 ?_
    refine lv_iload_n hx hb dX7_in_19 rfl (lv_at hl 1 rfl) ?_
    refine lv_iload_n hx hb dX7_in_20 rfl (lv_at hl 2 rfl) ?_
    refine goI hw (runSW (As := [.int (nI b1_1_j), .int (nI b1_1_k1)]) (rest := [.ref (a 14)]) cx hw (k_X1_placeOf l D a cI cZ f u b1_1_j b1_1_k1  ) lk_X7_169 ⟨Nat.le_of_ble_eq_true rfl, Nat.le_of_ble_eq_true rfl⟩ ⟨rfl, rfl⟩ ⟨Nat.zero_le _, Nat.zero_le _⟩ rfl rfl hl.1 (Nat.le_of_ble_eq_true rfl) dX7_in_21) (fun r_4 f_4 u_4 H locs hp_4 hw => ?_)
    obtain ⟨rfl, rfl, ha_4⟩ := hp_4
    have er_4 := ha_4
    · subst er_4
      refine aldN 14 (b1_1_j * 8 + b1_1_k1) cx hw rfl (by omega) (by decide) dX7_in_24 ?_
      rcases IV.a_14 hi (i := b1_1_j * 8 + b1_1_k1) (by omega) with en_5 | ⟨n_5, hn_5, en_5⟩
      · refine topc (y := (-1)) en_5 ?_
        refine lv_goto (tgt := 29) hx hb dX7_in_25 (by decide) ?_
        exact retI cx hw hr hk dX7_in_29 ⟨rfl, rfl⟩
      · refine topc (y := (nI n_5)) en_5 ?_
        refine lv_goto (tgt := 29) hx hb dX7_in_25 (by decide) ?_
        exact retI cx hw hr hk dX7_in_29 ⟨rfl, rfl⟩

set_option maxHeartbeats 4000000 in
set_option maxRecDepth 100000 in
theorem k_X7_about (l : Launch) (D : va_G) (a : Nat → Nat) (cI cZ : ClassId) (f : FF) (u : UU) (h : Int32) (wh : Int32) (hi : IV f)  : KI l yX7_about cX7_about 3 (some .int) ({ frames := 3, cells := 0, slots := 0, locals := 58 } : Room) D a cI cZ [.ref (a 0), .int h, .int wh] f u (fun r f2 u2 => f = f2 ∧ u = u2) := by
  refine KX.of (by decide) (Nat.le_of_ble_eq_true rfl) ?_
  intro p e s m below meth c cx hw hr hk ls hl
  have cx : Cx p s m _ c cX7_about RX7 3 D cI cZ := cx
  have hl : lv_has ls 3 [(0, .ref (a 0)), (1, .int h), (2, .int wh)] := hl
  have hx := cx.1.1
  have hb := cx.1.2.1
  refine lv_aload_n hx hb dX7_about_0 rfl (lv_at hl 0 rfl) ?_
  refine gf_X7_21 cx hw dX7_about_1 ?_
  refine lv_iload_n hx hb dX7_about_4 rfl (lv_at hl 1 rfl) ?_
  refine goI hw (runVW (k := 1) (As := [.int h]) (rest := []) cx hw (k_X1_hasHold l D a cI cZ f u h  hi) lk_X7_90 rfl rfl ⟨Nat.le_of_ble_eq_true rfl, Nat.le_of_ble_eq_true rfl⟩ ⟨rfl, rfl⟩ ⟨Nat.zero_le _, Nat.zero_le _⟩ rfl rfl hl.1 (Nat.le_of_ble_eq_true rfl) dX7_about_5) (fun r_1 f_1 u_1 H locs hp_1 hw => ?_)
  obtain ⟨rfl, rfl, ha_1⟩ := hp_1
  rcases ha_1 with ⟨er_1, q0_1_0⟩ | ⟨er_1, b1_1_j, b1_1_c, q1_1_0, q1_1_1, q1_1_2, q1_1_3⟩
  · subst er_1
    refine lv_if_ne (tgt := 13) hx hb dX7_about_8 (by decide) (fun q => absurd (by decide) q) (fun _ => ?_)
    refine lv_iconst (v := (-1)) hx hb dX7_about_11 (by decide) ?_
    exact retI cx hw hr hk dX7_about_12 ⟨rfl, rfl⟩
  · subst er_1
    subst q1_1_3
    refine lv_if_ne (tgt := 13) hx hb dX7_about_8 (by decide) (fun _ => ?_) (fun q => absurd q (by decide))
    refine lv_iload_n hx hb dX7_about_13 rfl (lv_at hl 2 rfl) ?_
    rcases Decidable.em (wh = 0) with c_4 | c_4
    · refine lv_tableIn (off := 26) (tgt := 40) hx hb dX7_about_14 (by rw [c_4]; decide) (by rw [c_4]; decide) (by rw [c_4]; rfl) (by decide) ?_
      refine lv_aload_n hx hb dX7_about_40 rfl (lv_at hl 0 rfl) ?_
      refine gf_X7_21 cx hw dX7_about_41 ?_
      refine lv_iload_n hx hb dX7_about_44 rfl (lv_at hl 1 rfl) ?_
      refine goI hw (runVW (k := 1) (As := [.int (nI b1_1_j)]) (rest := []) cx hw (k_X1_weightInHold l D a cI cZ f u b1_1_j  hi (by omega)) lk_X7_192 rfl rfl ⟨Nat.le_of_ble_eq_true rfl, Nat.le_of_ble_eq_true rfl⟩ ⟨rfl, rfl⟩ ⟨Nat.zero_le _, Nat.zero_le _⟩ rfl rfl hl.1 (Nat.le_of_ble_eq_true rfl) dX7_about_45) (fun r_5 f_5 u_5 H locs hp_5 hw => ?_)
      obtain ⟨rfl, rfl⟩ := hp_5
      exact retI cx hw hr hk dX7_about_48 ⟨rfl, rfl⟩
    rcases Decidable.em (wh = 1) with c_6 | c_6
    · refine lv_tableIn (off := 35) (tgt := 49) hx hb dX7_about_14 (by rw [c_6]; decide) (by rw [c_6]; decide) (by rw [c_6]; rfl) (by decide) ?_
      refine lv_aload_n hx hb dX7_about_49 rfl (lv_at hl 0 rfl) ?_
      refine gf_X7_21 cx hw dX7_about_50 ?_
      refine lv_iload_n hx hb dX7_about_53 rfl (lv_at hl 1 rfl) ?_
      refine goI hw (runVW (k := 1) (As := [.int (nI b1_1_j)]) (rest := []) cx hw (k_X1_itemsInHold l D a cI cZ f u b1_1_j  hi (by omega)) lk_X7_195 rfl rfl ⟨Nat.le_of_ble_eq_true rfl, Nat.le_of_ble_eq_true rfl⟩ ⟨rfl, rfl⟩ ⟨Nat.zero_le _, Nat.zero_le _⟩ rfl rfl hl.1 (Nat.le_of_ble_eq_true rfl) dX7_about_54) (fun r_7 f_7 u_7 H locs hp_7 hw => ?_)
      obtain ⟨rfl, rfl⟩ := hp_7
      exact retI cx hw hr hk dX7_about_57 ⟨rfl, rfl⟩
    rcases Decidable.em (wh = 2) with c_8 | c_8
    · refine lv_tableIn (off := 44) (tgt := 58) hx hb dX7_about_14 (by rw [c_8]; decide) (by rw [c_8]; decide) (by rw [c_8]; rfl) (by decide) ?_
      refine lv_aload_n hx hb dX7_about_58 rfl (lv_at hl 0 rfl) ?_
      refine gf_X7_21 cx hw dX7_about_59 ?_
      refine lv_iload_n hx hb dX7_about_62 rfl (lv_at hl 1 rfl) ?_
      refine goI hw (runVW (k := 1) (As := [.int (nI b1_1_j)]) (rest := []) cx hw (k_X1_heaviestPair l D a cI cZ f u b1_1_j  hi (by omega)) lk_X7_198 rfl rfl ⟨Nat.le_of_ble_eq_true rfl, Nat.le_of_ble_eq_true rfl⟩ ⟨rfl, rfl⟩ ⟨Nat.zero_le _, Nat.zero_le _⟩ rfl rfl hl.1 (Nat.le_of_ble_eq_true rfl) dX7_about_63) (fun r_9 f_9 u_9 H locs hp_9 hw => ?_)
      obtain ⟨rfl, rfl⟩ := hp_9
      exact retI cx hw hr hk dX7_about_66 ⟨rfl, rfl⟩
    refine lv_tableOut (tgt := 67) hx hb dX7_about_14 (by have z0 := lv_neT (a := 0) c_4 rfl; have z1 := lv_neT (a := 1) c_6 rfl; have z2 := lv_neT (a := 2) c_8 rfl; omega) (by decide) ?_
    refine lv_iconst (v := (-1)) hx hb dX7_about_67 (by decide) ?_
    exact retI cx hw hr hk dX7_about_68 ⟨rfl, rfl⟩

set_option maxHeartbeats 4000000 in
set_option maxRecDepth 100000 in
theorem k_X7_weight (l : Launch) (D : va_G) (a : Nat → Nat) (cI cZ : ClassId) (f : FF) (u : UU) (wh : Int32) (hi : IV f)  : KI l yX7_weight cX7_weight 2 (some .int) ({ frames := 4, cells := 0, slots := 0, locals := 75 } : Room) D a cI cZ [.ref (a 0), .int wh] f u (fun r f2 u2 => f = f2 ∧ u = u2) := by
  refine KX.of (by decide) (Nat.le_of_ble_eq_true rfl) ?_
  intro p e s m below meth c cx hw hr hk ls hl
  have cx : Cx p s m _ c cX7_weight RX7 2 D cI cZ := cx
  have hl : lv_has ls 2 [(0, .ref (a 0)), (1, .int wh)] := hl
  have hx := cx.1.1
  have hb := cx.1.2.1
  refine lv_iload_n hx hb dX7_weight_0 rfl (lv_at hl 1 rfl) ?_
  rcases Decidable.em (wh = 0) with c_1 | c_1
  · refine lv_tableIn (off := 27) (tgt := 28) hx hb dX7_weight_1 (by rw [c_1]; decide) (by rw [c_1]; decide) (by rw [c_1]; rfl) (by decide) ?_
    refine lv_aload_n hx hb dX7_weight_28 rfl (lv_at hl 0 rfl) ?_
    refine goI hw (runVW (k := 0) (As := []) (rest := []) cx hw (k_X7_dryWeight l D a cI cZ f u   hi) lk_X7_201 rfl rfl ⟨Nat.le_of_ble_eq_true rfl, Nat.le_of_ble_eq_true rfl⟩ ⟨rfl, rfl⟩ ⟨Nat.zero_le _, Nat.zero_le _⟩ rfl rfl hl.1 (Nat.le_of_ble_eq_true rfl) dX7_weight_29) (fun r_2 f_2 u_2 H locs hp_2 hw => ?_)
    obtain ⟨rfl, rfl⟩ := hp_2
    exact retI cx hw hr hk dX7_weight_32 ⟨rfl, rfl⟩
  rcases Decidable.em (wh = 1) with c_3 | c_3
  · refine lv_tableIn (off := 32) (tgt := 33) hx hb dX7_weight_1 (by rw [c_3]; decide) (by rw [c_3]; decide) (by rw [c_3]; rfl) (by decide) ?_
    refine lv_aload_n hx hb dX7_weight_33 rfl (lv_at hl 0 rfl) ?_
    refine goI hw (runVW (k := 0) (As := []) (rest := []) cx hw (k_X7_dryWeight l D a cI cZ f u   hi) lk_X7_201 rfl rfl ⟨Nat.le_of_ble_eq_true rfl, Nat.le_of_ble_eq_true rfl⟩ ⟨rfl, rfl⟩ ⟨Nat.zero_le _, Nat.zero_le _⟩ rfl rfl hl.1 (Nat.le_of_ble_eq_true rfl) dX7_weight_34) (fun r_4 f_4 u_4 H locs hp_4 hw => ?_)
    obtain ⟨rfl, rfl⟩ := hp_4
    refine lv_aload_n hx hb dX7_weight_37 rfl (lv_at hl 0 rfl) ?_
    refine gf_X7_35 cx hw dX7_weight_38 ?_
    refine goI hw (runVW (k := 3) (As := []) (rest := [.int r_4]) cx hw (k_X6_totalAmount l D a cI cZ f u   hi) lk_X7_204 rfl rfl ⟨Nat.le_of_ble_eq_true rfl, Nat.le_of_ble_eq_true rfl⟩ ⟨rfl, rfl⟩ ⟨Nat.zero_le _, Nat.zero_le _⟩ rfl rfl hl.1 (Nat.le_of_ble_eq_true rfl) dX7_weight_41) (fun r_5 f_5 u_5 H locs hp_5 hw => ?_)
    obtain ⟨rfl, rfl⟩ := hp_5
    refine lv_iadd hx hb dX7_weight_44 ?_
    refine lv_topi (fun x_6 _ => ?_)
    exact retI cx hw hr hk dX7_weight_45 ⟨rfl, rfl⟩
  rcases Decidable.em (wh = 2) with c_7 | c_7
  · refine lv_tableIn (off := 45) (tgt := 46) hx hb dX7_weight_1 (by rw [c_7]; decide) (by rw [c_7]; decide) (by rw [c_7]; rfl) (by decide) ?_
    refine lv_aload_n hx hb dX7_weight_46 rfl (lv_at hl 0 rfl) ?_
    refine gf_X7_35 cx hw dX7_weight_47 ?_
    refine goI hw (runVW (k := 3) (As := []) (rest := []) cx hw (k_X6_totalAmount l D a cI cZ f u   hi) lk_X7_204 rfl rfl ⟨Nat.le_of_ble_eq_true rfl, Nat.le_of_ble_eq_true rfl⟩ ⟨rfl, rfl⟩ ⟨Nat.zero_le _, Nat.zero_le _⟩ rfl rfl hl.1 (Nat.le_of_ble_eq_true rfl) dX7_weight_50) (fun r_8 f_8 u_8 H locs hp_8 hw => ?_)
    obtain ⟨rfl, rfl⟩ := hp_8
    exact retI cx hw hr hk dX7_weight_53 ⟨rfl, rfl⟩
  refine lv_tableOut (tgt := 54) hx hb dX7_weight_1 (by have z0 := lv_neT (a := 0) c_1 rfl; have z1 := lv_neT (a := 1) c_3 rfl; have z2 := lv_neT (a := 2) c_7 rfl; omega) (by decide) ?_
  refine lv_iconst (v := (-1)) hx hb dX7_weight_54 (by decide) ?_
  exact retI cx hw hr hk dX7_weight_55 ⟨rfl, rfl⟩

set_option maxHeartbeats 4000000 in
set_option maxRecDepth 100000 in
theorem k_X7_moment (l : Launch) (D : va_G) (a : Nat → Nat) (cI cZ : ClassId) (f : FF) (u : UU) (wh : Int32) (hi : IV f)  : KL l yX7_moment cX7_moment 2 (some .long) ({ frames := 4, cells := 0, slots := 0, locals := 78 } : Room) D a cI cZ [.ref (a 0), .int wh] f u (fun r f2 u2 => f = f2 ∧ u = u2) := by
  refine KX.of (by decide) (Nat.le_of_ble_eq_true rfl) ?_
  intro p e s m below meth c cx hw hr hk ls hl
  have cx : Cx p s m _ c cX7_moment RX7 2 D cI cZ := cx
  have hl : lv_has ls 2 [(0, .ref (a 0)), (1, .int wh)] := hl
  have hx := cx.1.1
  have hb := cx.1.2.1
  refine lv_iload_n hx hb dX7_moment_0 rfl (lv_at hl 1 rfl) ?_
  rcases Decidable.em (wh = 0) with c_1 | c_1
  · refine lv_tableIn (off := 27) (tgt := 28) hx hb dX7_moment_1 (by rw [c_1]; decide) (by rw [c_1]; decide) (by rw [c_1]; rfl) (by decide) ?_
    refine lv_aload_n hx hb dX7_moment_28 rfl (lv_at hl 0 rfl) ?_
    refine goL hw (runVW (k := 0) (As := []) (rest := []) cx hw (k_X7_dryMoment l D a cI cZ f u   hi) lk_X7_207 rfl rfl ⟨Nat.le_of_ble_eq_true rfl, Nat.le_of_ble_eq_true rfl⟩ ⟨rfl, rfl⟩ ⟨Nat.zero_le _, Nat.zero_le _⟩ rfl rfl hl.1 (Nat.le_of_ble_eq_true rfl) dX7_moment_29) (fun r_2 f_2 u_2 H locs hp_2 hw => ?_)
    obtain ⟨rfl, rfl⟩ := hp_2
    exact retL cx hw hr hk dX7_moment_32 ⟨rfl, rfl⟩
  rcases Decidable.em (wh = 1) with c_3 | c_3
  · refine lv_tableIn (off := 32) (tgt := 33) hx hb dX7_moment_1 (by rw [c_3]; decide) (by rw [c_3]; decide) (by rw [c_3]; rfl) (by decide) ?_
    refine lv_aload_n hx hb dX7_moment_33 rfl (lv_at hl 0 rfl) ?_
    refine goL hw (runVW (k := 0) (As := []) (rest := []) cx hw (k_X7_dryMoment l D a cI cZ f u   hi) lk_X7_207 rfl rfl ⟨Nat.le_of_ble_eq_true rfl, Nat.le_of_ble_eq_true rfl⟩ ⟨rfl, rfl⟩ ⟨Nat.zero_le _, Nat.zero_le _⟩ rfl rfl hl.1 (Nat.le_of_ble_eq_true rfl) dX7_moment_34) (fun r_4 f_4 u_4 H locs hp_4 hw => ?_)
    obtain ⟨rfl, rfl⟩ := hp_4
    refine lv_aload_n hx hb dX7_moment_37 rfl (lv_at hl 0 rfl) ?_
    refine gf_X7_35 cx hw dX7_moment_38 ?_
    refine lv_iconst (v := 0) hx hb dX7_moment_41 (by decide) ?_
    refine goL hw (runVW (k := 3) (As := [.int 0]) (rest := [.long r_4]) cx hw (k_X6_momentLeft l D a cI cZ f u 0  hi) lk_X7_211 rfl rfl ⟨Nat.le_of_ble_eq_true rfl, Nat.le_of_ble_eq_true rfl⟩ ⟨rfl, rfl⟩ ⟨Nat.zero_le _, Nat.zero_le _⟩ rfl rfl hl.1 (Nat.le_of_ble_eq_true rfl) dX7_moment_42) (fun r_5 f_5 u_5 H locs hp_5 hw => ?_)
    obtain ⟨rfl, rfl⟩ := hp_5
    refine lv_ladd hx hb dX7_moment_45 ?_
    refine lv_topl (fun y_6 _ => ?_)
    exact retL cx hw hr hk dX7_moment_46 ⟨rfl, rfl⟩
  rcases Decidable.em (wh = 2) with c_7 | c_7
  · refine lv_tableIn (off := 46) (tgt := 47) hx hb dX7_moment_1 (by rw [c_7]; decide) (by rw [c_7]; decide) (by rw [c_7]; rfl) (by decide) ?_
    refine lv_aload_n hx hb dX7_moment_47 rfl (lv_at hl 0 rfl) ?_
    refine gf_X7_35 cx hw dX7_moment_48 ?_
    refine lv_iconst (v := 0) hx hb dX7_moment_51 (by decide) ?_
    refine goL hw (runVW (k := 3) (As := [.int 0]) (rest := []) cx hw (k_X6_momentLeft l D a cI cZ f u 0  hi) lk_X7_211 rfl rfl ⟨Nat.le_of_ble_eq_true rfl, Nat.le_of_ble_eq_true rfl⟩ ⟨rfl, rfl⟩ ⟨Nat.zero_le _, Nat.zero_le _⟩ rfl rfl hl.1 (Nat.le_of_ble_eq_true rfl) dX7_moment_52) (fun r_8 f_8 u_8 H locs hp_8 hw => ?_)
    obtain ⟨rfl, rfl⟩ := hp_8
    exact retL cx hw hr hk dX7_moment_55 ⟨rfl, rfl⟩
  refine lv_tableOut (tgt := 56) hx hb dX7_moment_1 (by have z0 := lv_neT (a := 0) c_1 rfl; have z1 := lv_neT (a := 1) c_3 rfl; have z2 := lv_neT (a := 2) c_7 rfl; omega) (by decide) ?_
  refine lv_ldc2 (v := (-9223372036854775808)) hx hb cx.1.2.2.2.1 (cx.1.2.2.2.2 _ mm_3_34) dX7_moment_56 ?_
  exact retL cx hw hr hk dX7_moment_59 ⟨rfl, rfl⟩

set_option maxHeartbeats 4000000 in
set_option maxRecDepth 100000 in
theorem k_X7_burnt (l : Launch) (D : va_G) (a : Nat → Nat) (cI cZ : ClassId) (f : FF) (u : UU) (bb : Int32) (wh : Int32) (hi : IV f)  : KL l yX7_burnt cX7_burnt 3 (some .long) ({ frames := 4, cells := 0, slots := 0, locals := 78 } : Room) D a cI cZ [.ref (a 0), .int bb, .int wh] f u (fun r f2 u2 => f = f2 ∧ u = u2) := by
  refine KX.of (by decide) (Nat.le_of_ble_eq_true rfl) ?_
  intro p e s m below meth c cx hw hr hk ls hl
  have cx : Cx p s m _ c cX7_burnt RX7 3 D cI cZ := cx
  have hl : lv_has ls 3 [(0, .ref (a 0)), (1, .int bb), (2, .int wh)] := hl
  have hx := cx.1.1
  have hb := cx.1.2.1
  refine lv_iload_n hx hb dX7_burnt_0 rfl (lv_at hl 1 rfl) ?_
  refine lv_iconst (v := 0) hx hb dX7_burnt_1 (by decide) ?_
  refine lv_aload_n hx hb dX7_burnt_2 rfl (lv_at hl 0 rfl) ?_
  refine gf_X7_35 cx hw dX7_burnt_3 ?_
  refine goI hw (runVW (k := 3) (As := []) (rest := [.int 0, .int bb]) cx hw (k_X6_totalAmount l D a cI cZ f u   hi) lk_X7_204 rfl rfl ⟨Nat.le_of_ble_eq_true rfl, Nat.le_of_ble_eq_true rfl⟩ ⟨rfl, rfl⟩ ⟨Nat.zero_le _, Nat.zero_le _⟩ rfl rfl hl.1 (Nat.le_of_ble_eq_true rfl) dX7_burnt_6) (fun r_1 f_1 u_1 H locs hp_1 hw => ?_)
  obtain ⟨rfl, rfl⟩ := hp_1
  refine goI hw (runSW (As := [.int bb, .int 0, .int r_1]) (rest := []) cx hw (c_X7_isFromTo l D a cI cZ f u bb 0 r_1  ) lk_X7_75 ⟨Nat.le_of_ble_eq_true rfl, Nat.le_of_ble_eq_true rfl⟩ ⟨rfl, rfl⟩ ⟨Nat.zero_le _, Nat.zero_le _⟩ rfl rfl hl.1 (Nat.le_of_ble_eq_true rfl) dX7_burnt_9) (fun r_2 f_2 u_2 H locs hp_2 hw => ?_)
  obtain ⟨rfl, rfl, e_2⟩ := hp_2
  refine topc e_2 ?_
  refine lv_if_ne (tgt := 19) hx hb dX7_burnt_12 (by decide) (fun c_3 => ?_) (fun c_3 => ?_)
  · refine lv_iload_n hx hb dX7_burnt_19 rfl (lv_at hl 2 rfl) ?_
    rcases Decidable.em (wh = 0) with c_4 | c_4
    · refine lv_lookup (off := 28) (tgt := 48) hx hb dX7_burnt_20 (by decide) (by rw [c_4]; rfl) (by decide) ?_
      refine lv_aload_n hx hb dX7_burnt_48 rfl (lv_at hl 0 rfl) ?_
      refine goL hw (runVW (k := 0) (As := []) (rest := []) cx hw (k_X7_dryMoment l D a cI cZ f u   hi) lk_X7_207 rfl rfl ⟨Nat.le_of_ble_eq_true rfl, Nat.le_of_ble_eq_true rfl⟩ ⟨rfl, rfl⟩ ⟨Nat.zero_le _, Nat.zero_le _⟩ rfl rfl hl.1 (Nat.le_of_ble_eq_true rfl) dX7_burnt_49) (fun r_5 f_5 u_5 H locs hp_5 hw => ?_)
      obtain ⟨rfl, rfl⟩ := hp_5
      refine lv_aload_n hx hb dX7_burnt_52 rfl (lv_at hl 0 rfl) ?_
      refine gf_X7_35 cx hw dX7_burnt_53 ?_
      refine lv_iload_n hx hb dX7_burnt_56 rfl (lv_at hl 1 rfl) ?_
      refine goL hw (runVW (k := 3) (As := [.int bb]) (rest := [.long r_5]) cx hw (k_X6_momentLeft l D a cI cZ f u bb  hi) lk_X7_211 rfl rfl ⟨Nat.le_of_ble_eq_true rfl, Nat.le_of_ble_eq_true rfl⟩ ⟨rfl, rfl⟩ ⟨Nat.zero_le _, Nat.zero_le _⟩ rfl rfl hl.1 (Nat.le_of_ble_eq_true rfl) dX7_burnt_57) (fun r_6 f_6 u_6 H locs hp_6 hw => ?_)
      obtain ⟨rfl, rfl⟩ := hp_6
      refine lv_ladd hx hb dX7_burnt_60 ?_
      refine lv_topl (fun y_7 _ => ?_)
      exact retL cx hw hr hk dX7_burnt_61 ⟨rfl, rfl⟩
    rcases Decidable.em (wh = 1) with c_8 | c_8
    · refine lv_lookup (off := 42) (tgt := 62) hx hb dX7_burnt_20 (by decide) (by rw [c_8]; rfl) (by decide) ?_
      refine lv_aload_n hx hb dX7_burnt_62 rfl (lv_at hl 0 rfl) ?_
      refine goI hw (runVW (k := 0) (As := []) (rest := []) cx hw (k_X7_dryWeight l D a cI cZ f u   hi) lk_X7_201 rfl rfl ⟨Nat.le_of_ble_eq_true rfl, Nat.le_of_ble_eq_true rfl⟩ ⟨rfl, rfl⟩ ⟨Nat.zero_le _, Nat.zero_le _⟩ rfl rfl hl.1 (Nat.le_of_ble_eq_true rfl) dX7_burnt_63) (fun r_9 f_9 u_9 H locs hp_9 hw => ?_)
      obtain ⟨rfl, rfl⟩ := hp_9
      refine lv_aload_n hx hb dX7_burnt_66 rfl (lv_at hl 0 rfl) ?_
      refine gf_X7_35 cx hw dX7_burnt_67 ?_
      refine goI hw (runVW (k := 3) (As := []) (rest := [.int r_9]) cx hw (k_X6_totalAmount l D a cI cZ f u   hi) lk_X7_204 rfl rfl ⟨Nat.le_of_ble_eq_true rfl, Nat.le_of_ble_eq_true rfl⟩ ⟨rfl, rfl⟩ ⟨Nat.zero_le _, Nat.zero_le _⟩ rfl rfl hl.1 (Nat.le_of_ble_eq_true rfl) dX7_burnt_70) (fun r_10 f_10 u_10 H locs hp_10 hw => ?_)
      obtain ⟨rfl, rfl⟩ := hp_10
      refine lv_iadd hx hb dX7_burnt_73 ?_
      refine lv_topi (fun x_11 _ => ?_)
      refine lv_iload_n hx hb dX7_burnt_74 rfl (lv_at hl 1 rfl) ?_
      refine lv_isub hx hb dX7_burnt_75 ?_
      refine lv_topi (fun x_12 _ => ?_)
      refine lv_i2l hx hb dX7_burnt_76 rfl ?_
      refine lv_topl (fun y_13 _ => ?_)
      exact retL cx hw hr hk dX7_burnt_77 ⟨rfl, rfl⟩
    refine lv_lookup (off := 58) (tgt := 78) hx hb dX7_burnt_20 (by decide) (by show Op.lookupswitch.offset [(0, 28), (1, 42)] 58 _ = _; rw [lv_osw (a := 0) c_4 rfl]; rw [lv_osw (a := 1) c_8 rfl]; rfl) (by decide) ?_
    refine lv_ldc2 (v := (-9223372036854775808)) hx hb cx.1.2.2.2.1 (cx.1.2.2.2.2 _ mm_3_34) dX7_burnt_78 ?_
    exact retL cx hw hr hk dX7_burnt_81 ⟨rfl, rfl⟩
  · refine lv_ldc2 (v := (-9223372036854775808)) hx hb cx.1.2.2.2.1 (cx.1.2.2.2.2 _ mm_3_34) dX7_burnt_15 ?_
    exact retL cx hw hr hk dX7_burnt_18 ⟨rfl, rfl⟩

set_option maxHeartbeats 4000000 in
set_option maxRecDepth 100000 in
theorem k_X7_within (l : Launch) (D : va_G) (a : Nat → Nat) (cI cZ : ClassId) (f : FF) (u : UU) (ph : Int32) (hi : IV f)  : KI l yX7_within cX7_within 3 (some .int) ({ frames := 5, cells := 0, slots := 0, locals := 99 } : Room) D a cI cZ [.ref (a 0), .int ph] f u (fun r f2 u2 => f = f2 ∧ u = u2) := by
  refine KX.of (by decide) (Nat.le_of_ble_eq_true rfl) ?_
  intro p e s m below meth c cx hw hr hk ls hl
  have cx : Cx p s m _ c cX7_within RX7 3 D cI cZ := cx
  have hl : lv_has ls 3 [(0, .ref (a 0)), (1, .int ph)] := hl
  have hx := cx.1.1
  have hb := cx.1.2.1
  refine lv_iload_n hx hb dX7_within_0 rfl (lv_at hl 1 rfl) ?_
  refine goI hw (runSW (As := [.int ph]) (rest := []) cx hw (c_X7_isPhase l D a cI cZ f u ph  ) lk_X7_141 ⟨Nat.le_of_ble_eq_true rfl, Nat.le_of_ble_eq_true rfl⟩ ⟨rfl, rfl⟩ ⟨Nat.zero_le _, Nat.zero_le _⟩ rfl rfl hl.1 (Nat.le_of_ble_eq_true rfl) dX7_within_1) (fun r_1 f_1 u_1 H locs hp_1 hw => ?_)
  obtain ⟨rfl, rfl, e_1⟩ := hp_1
  refine topc e_1 ?_
  refine lv_if_ne (tgt := 9) hx hb dX7_within_4 (by decide) (fun c_2 => ?_) (fun c_2 => ?_)
  · rcases rg_01 c_2 with et_2 | et_2
    · subst et_2
      refine lv_aload_n hx hb dX7_within_9 rfl (lv_at hl 0 rfl) ?_
      refine lv_iload_n hx hb dX7_within_10 rfl (lv_at hl 1 rfl) ?_
      refine goR hw (runVW (k := 0) (As := [.int 0]) (rest := []) cx hw (c_X7_limitsOf_4 l D a cI cZ f u   ) lk_X7_144 rfl rfl ⟨Nat.le_of_ble_eq_true rfl, Nat.le_of_ble_eq_true rfl⟩ ⟨rfl, rfl⟩ ⟨Nat.zero_le _, Nat.zero_le _⟩ rfl rfl hl.1 (Nat.le_of_ble_eq_true rfl) dX7_within_11) (fun r_3 f_3 u_3 H locs hp_3 hw => ?_)
      obtain ⟨rfl, rfl, rfl⟩ := hp_3
      refine lv_astore_n (lv' := [(2, .ref (a 4)), (0, .ref (a 0)), (1, .int 0)]) hx hb dX7_within_14 rfl hl (by decide) rfl (fun ls hl => ?_)
      refine lv_aload_n hx hb dX7_within_15 rfl (lv_at hl 0 rfl) ?_
      refine gf_X7_156_4 cx hw dX7_within_16 ?_
      obtain ⟨n_4, hn_4, en_4⟩ := IV.s_4_3 hi
      refine topc (y := (nI n_4)) en_4 ?_
      refine lv_if_ne (tgt := 25) hx hb dX7_within_19 (by decide) (fun c_5 => ?_) (fun c_5 => ?_)
      · have c_5 : ¬ n_4 = 0 := fun z => c_5 ((nI_eq (a := n_4) (b := 0) (by omega) (by omega)).mpr z)
        refine lv_aload_n hx hb dX7_within_25 rfl (lv_at hl 0 rfl) ?_
        refine lv_aload_n hx hb dX7_within_26 rfl (lv_at hl 1 rfl) ?_
        refine lv_iload_n hx hb dX7_within_27 rfl (lv_at hl 2 rfl) ?_
        refine goI hw (runVW (k := 0) (As := [.int 0]) (rest := [.ref (a 4)]) cx hw (k_X7_weight l D a cI cZ f u 0  hi) lk_X7_217 rfl rfl ⟨Nat.le_of_ble_eq_true rfl, Nat.le_of_ble_eq_true rfl⟩ ⟨rfl, rfl⟩ ⟨Nat.zero_le _, Nat.zero_le _⟩ rfl rfl hl.1 (Nat.le_of_ble_eq_true rfl) dX7_within_28) (fun r_6 f_6 u_6 H locs hp_6 hw => ?_)
        obtain ⟨rfl, rfl⟩ := hp_6
        refine lv_aload_n hx hb dX7_within_31 rfl (lv_at hl 1 rfl) ?_
        refine lv_iload_n hx hb dX7_within_32 rfl (lv_at hl 2 rfl) ?_
        refine goL hw (runVW (k := 0) (As := [.int 0]) (rest := [.int r_6, .ref (a 4)]) cx hw (k_X7_moment l D a cI cZ f u 0  hi) lk_X7_220 rfl rfl ⟨Nat.le_of_ble_eq_true rfl, Nat.le_of_ble_eq_true rfl⟩ ⟨rfl, rfl⟩ ⟨Nat.zero_le _, Nat.zero_le _⟩ rfl rfl hl.1 (Nat.le_of_ble_eq_true rfl) dX7_within_33) (fun r_7 f_7 u_7 H locs hp_7 hw => ?_)
        obtain ⟨rfl, rfl⟩ := hp_7
        refine goI hw (runVW (k := 4) (As := [.int r_6, .long r_7]) (rest := []) cx hw (k_X3_judge_4 l D a cI cZ f u r_6 r_7  hi) lk_X7_223 rfl rfl ⟨Nat.le_of_ble_eq_true rfl, Nat.le_of_ble_eq_true rfl⟩ ⟨rfl, rfl⟩ ⟨Nat.zero_le _, Nat.zero_le _⟩ rfl rfl hl.1 (Nat.le_of_ble_eq_true rfl) dX7_within_36) (fun r_8 f_8 u_8 H locs hp_8 hw => ?_)
        obtain ⟨rfl, rfl⟩ := hp_8
        exact retI cx hw hr hk dX7_within_39 ⟨rfl, rfl⟩
      · have c_5 : n_4 = 0 := (nI_eq (a := n_4) (b := 0) (by omega) (by omega)).mp c_5
        refine lv_bipush (v := (-3)) hx hb dX7_within_22 (by decide) ?_
        exact retI cx hw hr hk dX7_within_24 ⟨rfl, rfl⟩
    · subst et_2
      refine lv_aload_n hx hb dX7_within_9 rfl (lv_at hl 0 rfl) ?_
      refine lv_iload_n hx hb dX7_within_10 rfl (lv_at hl 1 rfl) ?_
      refine goR hw (runVW (k := 0) (As := [.int 1]) (rest := []) cx hw (c_X7_limitsOf_5 l D a cI cZ f u   ) lk_X7_144 rfl rfl ⟨Nat.le_of_ble_eq_true rfl, Nat.le_of_ble_eq_true rfl⟩ ⟨rfl, rfl⟩ ⟨Nat.zero_le _, Nat.zero_le _⟩ rfl rfl hl.1 (Nat.le_of_ble_eq_true rfl) dX7_within_11) (fun r_9 f_9 u_9 H locs hp_9 hw => ?_)
      obtain ⟨rfl, rfl, rfl⟩ := hp_9
      refine lv_astore_n (lv' := [(2, .ref (a 5)), (0, .ref (a 0)), (1, .int 1)]) hx hb dX7_within_14 rfl hl (by decide) rfl (fun ls hl => ?_)
      refine lv_aload_n hx hb dX7_within_15 rfl (lv_at hl 0 rfl) ?_
      refine gf_X7_156_5 cx hw dX7_within_16 ?_
      obtain ⟨n_10, hn_10, en_10⟩ := IV.s_5_3 hi
      refine topc (y := (nI n_10)) en_10 ?_
      refine lv_if_ne (tgt := 25) hx hb dX7_within_19 (by decide) (fun c_11 => ?_) (fun c_11 => ?_)
      · have c_11 : ¬ n_10 = 0 := fun z => c_11 ((nI_eq (a := n_10) (b := 0) (by omega) (by omega)).mpr z)
        refine lv_aload_n hx hb dX7_within_25 rfl (lv_at hl 0 rfl) ?_
        refine lv_aload_n hx hb dX7_within_26 rfl (lv_at hl 1 rfl) ?_
        refine lv_iload_n hx hb dX7_within_27 rfl (lv_at hl 2 rfl) ?_
        refine goI hw (runVW (k := 0) (As := [.int 1]) (rest := [.ref (a 5)]) cx hw (k_X7_weight l D a cI cZ f u 1  hi) lk_X7_217 rfl rfl ⟨Nat.le_of_ble_eq_true rfl, Nat.le_of_ble_eq_true rfl⟩ ⟨rfl, rfl⟩ ⟨Nat.zero_le _, Nat.zero_le _⟩ rfl rfl hl.1 (Nat.le_of_ble_eq_true rfl) dX7_within_28) (fun r_12 f_12 u_12 H locs hp_12 hw => ?_)
        obtain ⟨rfl, rfl⟩ := hp_12
        refine lv_aload_n hx hb dX7_within_31 rfl (lv_at hl 1 rfl) ?_
        refine lv_iload_n hx hb dX7_within_32 rfl (lv_at hl 2 rfl) ?_
        refine goL hw (runVW (k := 0) (As := [.int 1]) (rest := [.int r_12, .ref (a 5)]) cx hw (k_X7_moment l D a cI cZ f u 1  hi) lk_X7_220 rfl rfl ⟨Nat.le_of_ble_eq_true rfl, Nat.le_of_ble_eq_true rfl⟩ ⟨rfl, rfl⟩ ⟨Nat.zero_le _, Nat.zero_le _⟩ rfl rfl hl.1 (Nat.le_of_ble_eq_true rfl) dX7_within_33) (fun r_13 f_13 u_13 H locs hp_13 hw => ?_)
        obtain ⟨rfl, rfl⟩ := hp_13
        refine goI hw (runVW (k := 5) (As := [.int r_12, .long r_13]) (rest := []) cx hw (k_X3_judge_5 l D a cI cZ f u r_12 r_13  hi) lk_X7_223 rfl rfl ⟨Nat.le_of_ble_eq_true rfl, Nat.le_of_ble_eq_true rfl⟩ ⟨rfl, rfl⟩ ⟨Nat.zero_le _, Nat.zero_le _⟩ rfl rfl hl.1 (Nat.le_of_ble_eq_true rfl) dX7_within_36) (fun r_14 f_14 u_14 H locs hp_14 hw => ?_)
        obtain ⟨rfl, rfl⟩ := hp_14
        exact retI cx hw hr hk dX7_within_39 ⟨rfl, rfl⟩
      · have c_11 : n_10 = 0 := (nI_eq (a := n_10) (b := 0) (by omega) (by omega)).mp c_11
        refine lv_bipush (v := (-3)) hx hb dX7_within_22 (by decide) ?_
        exact retI cx hw hr hk dX7_within_24 ⟨rfl, rfl⟩
  · refine lv_iconst (v := (-1)) hx hb dX7_within_7 (by decide) ?_
    exact retI cx hw hr hk dX7_within_8 ⟨rfl, rfl⟩

set_option maxHeartbeats 4000000 in
set_option maxRecDepth 100000 in
theorem k_X7_safe (l : Launch) (D : va_G) (a : Nat → Nat) (cI cZ : ClassId) (f : FF) (u : UU) (fu : Int32) (hi : IV f)  : KI l yX7_safe cX7_safe 2 (some .int) ({ frames := 8, cells := 0, slots := 0, locals := 206 } : Room) D a cI cZ [.ref (a 0), .int fu] f u (fun r f2 u2 => IV f2 ∧ KK [6] f f2) := by
  refine KX.of (by decide) (Nat.le_of_ble_eq_true rfl) ?_
  intro p e s m below meth c cx hw hr hk ls hl
  have cx : Cx p s m _ c cX7_safe RX7 2 D cI cZ := cx
  have hl : lv_has ls 2 [(0, .ref (a 0)), (1, .int fu)] := hl
  have hx := cx.1.1
  have hb := cx.1.2.1
  refine lv_iload_n hx hb dX7_safe_0 rfl (lv_at hl 1 rfl) ?_
  refine lv_if_ge (tgt := 7) hx hb dX7_safe_1 (by decide) (fun c_1 => ?_) (fun c_1 => ?_)
  · obtain ⟨t_1, ht_1, et_1⟩ := nI_of (Int32.not_lt.mpr c_1)
    subst et_1
    refine lv_aload_n hx hb dX7_safe_7 rfl (lv_at hl 0 rfl) ?_
    refine gf_X7_42 cx hw dX7_safe_8 ?_
    refine gf_X7_156_4 cx hw dX7_safe_11 ?_
    obtain ⟨n_2, hn_2, en_2⟩ := IV.s_4_3 hi
    refine topc (y := (nI n_2)) en_2 ?_
    refine lv_if_eq (tgt := 27) hx hb dX7_safe_14 (by decide) (fun c_3 => ?_) (fun c_3 => ?_)
    · have c_3 : n_2 = 0 := (nI_eq (a := n_2) (b := 0) (by omega) (by omega)).mp c_3
      refine lv_bipush (v := (-3)) hx hb dX7_safe_27 (by decide) ?_
      exact retI cx hw hr hk dX7_safe_29 ⟨hi, KK.rf⟩
    · have c_3 : ¬ n_2 = 0 := fun z => c_3 ((nI_eq (a := n_2) (b := 0) (by omega) (by omega)).mpr z)
      refine lv_aload_n hx hb dX7_safe_17 rfl (lv_at hl 0 rfl) ?_
      refine gf_X7_46 cx hw dX7_safe_18 ?_
      refine gf_X7_156_5 cx hw dX7_safe_21 ?_
      obtain ⟨n_4, hn_4, en_4⟩ := IV.s_5_3 hi
      refine topc (y := (nI n_4)) en_4 ?_
      refine lv_if_ne (tgt := 30) hx hb dX7_safe_24 (by decide) (fun c_5 => ?_) (fun c_5 => ?_)
      · have c_5 : ¬ n_4 = 0 := fun z => c_5 ((nI_eq (a := n_4) (b := 0) (by omega) (by omega)).mpr z)
        refine lv_aload_n hx hb dX7_safe_30 rfl (lv_at hl 0 rfl) ?_
        refine gf_X7_42 cx hw dX7_safe_31 ?_
        refine lv_aload_n hx hb dX7_safe_34 rfl (lv_at hl 0 rfl) ?_
        refine goI hw (runVW (k := 0) (As := []) (rest := [.ref (a 4)]) cx hw (k_X7_dryWeight l D a cI cZ f u   hi) lk_X7_201 rfl rfl ⟨Nat.le_of_ble_eq_true rfl, Nat.le_of_ble_eq_true rfl⟩ ⟨rfl, rfl⟩ ⟨Nat.zero_le _, Nat.zero_le _⟩ rfl rfl hl.1 (Nat.le_of_ble_eq_true rfl) dX7_safe_35) (fun r_6 f_6 u_6 H locs hp_6 hw => ?_)
        obtain ⟨rfl, rfl⟩ := hp_6
        refine lv_aload_n hx hb dX7_safe_38 rfl (lv_at hl 0 rfl) ?_
        refine goL hw (runVW (k := 0) (As := []) (rest := [.int r_6, .ref (a 4)]) cx hw (k_X7_dryMoment l D a cI cZ f u   hi) lk_X7_207 rfl rfl ⟨Nat.le_of_ble_eq_true rfl, Nat.le_of_ble_eq_true rfl⟩ ⟨rfl, rfl⟩ ⟨Nat.zero_le _, Nat.zero_le _⟩ rfl rfl hl.1 (Nat.le_of_ble_eq_true rfl) dX7_safe_39) (fun r_7 f_7 u_7 H locs hp_7 hw => ?_)
        obtain ⟨rfl, rfl⟩ := hp_7
        refine goI hw (runVW (k := 4) (As := [.int r_6, .long r_7]) (rest := []) cx hw (k_X3_judge_4 l D a cI cZ f u r_6 r_7  hi) lk_X7_223 rfl rfl ⟨Nat.le_of_ble_eq_true rfl, Nat.le_of_ble_eq_true rfl⟩ ⟨rfl, rfl⟩ ⟨Nat.zero_le _, Nat.zero_le _⟩ rfl rfl hl.1 (Nat.le_of_ble_eq_true rfl) dX7_safe_42) (fun r_8 f_8 u_8 H locs hp_8 hw => ?_)
        obtain ⟨rfl, rfl⟩ := hp_8
        refine lv_if_eq (tgt := 50) hx hb dX7_safe_45 (by decide) (fun _ => ?_) (fun _ => ?_)
        · refine lv_aload_n hx hb dX7_safe_50 rfl (lv_at hl 0 rfl) ?_
          refine gf_X7_54 cx hw dX7_safe_51 ?_
          refine lv_aload_n hx hb dX7_safe_54 rfl (lv_at hl 0 rfl) ?_
          refine goI hw (runVW (k := 0) (As := []) (rest := [.ref (a 6)]) cx hw (k_X7_dryWeight l D a cI cZ f u   hi) lk_X7_201 rfl rfl ⟨Nat.le_of_ble_eq_true rfl, Nat.le_of_ble_eq_true rfl⟩ ⟨rfl, rfl⟩ ⟨Nat.zero_le _, Nat.zero_le _⟩ rfl rfl hl.1 (Nat.le_of_ble_eq_true rfl) dX7_safe_55) (fun r_10 f_10 u_10 H locs hp_10 hw => ?_)
          obtain ⟨rfl, rfl⟩ := hp_10
          refine lv_aload_n hx hb dX7_safe_58 rfl (lv_at hl 0 rfl) ?_
          refine goL hw (runVW (k := 0) (As := []) (rest := [.int r_10, .ref (a 6)]) cx hw (k_X7_dryMoment l D a cI cZ f u   hi) lk_X7_207 rfl rfl ⟨Nat.le_of_ble_eq_true rfl, Nat.le_of_ble_eq_true rfl⟩ ⟨rfl, rfl⟩ ⟨Nat.zero_le _, Nat.zero_le _⟩ rfl rfl hl.1 (Nat.le_of_ble_eq_true rfl) dX7_safe_59) (fun r_11 f_11 u_11 H locs hp_11 hw => ?_)
          obtain ⟨rfl, rfl⟩ := hp_11
          refine lv_iload_n hx hb dX7_safe_62 rfl (lv_at hl 1 rfl) ?_
          refine goI hw (runVW (k := 6) (As := [.int r_10, .long r_11, .int (nI t_1)]) (rest := []) cx hw (k_X2_firstWrong l D a cI cZ f u r_10 r_11 (nI t_1)  hi) lk_X7_227 rfl rfl ⟨Nat.le_of_ble_eq_true rfl, Nat.le_of_ble_eq_true rfl⟩ ⟨rfl, rfl⟩ ⟨Nat.zero_le _, Nat.zero_le _⟩ rfl rfl hl.1 (Nat.le_of_ble_eq_true rfl) dX7_safe_63) (fun r_12 f_12 u_12 H locs hp_12 hw => ?_)
          obtain ⟨hi_12, kk_12⟩ := hp_12
          refine lv_iconst (v := (-1)) hx hb dX7_safe_66 (by decide) ?_
          refine lv_icmp_ne (tgt := 74) hx hb dX7_safe_67 (by decide) (fun _ => ?_) (fun _ => ?_)
          · refine lv_iconst (v := 0) hx hb dX7_safe_74 (by decide) ?_
            exact retI cx hw hr hk dX7_safe_75 ⟨hi_12, (KK.tr KK.rf (kk_12.mono (by decide)))⟩
          · refine lv_iconst (v := 1) hx hb dX7_safe_70 (by decide) ?_
            refine lv_goto (tgt := 75) hx hb dX7_safe_71 (by decide) ?_
            exact retI cx hw hr hk dX7_safe_75 ⟨hi_12, (KK.tr KK.rf (kk_12.mono (by decide)))⟩
        · refine lv_iconst (v := 0) hx hb dX7_safe_48 (by decide) ?_
          exact retI cx hw hr hk dX7_safe_49 ⟨hi, KK.rf⟩
      · have c_5 : n_4 = 0 := (nI_eq (a := n_4) (b := 0) (by omega) (by omega)).mp c_5
        refine lv_bipush (v := (-3)) hx hb dX7_safe_27 (by decide) ?_
        exact retI cx hw hr hk dX7_safe_29 ⟨hi, KK.rf⟩
  · refine lv_bipush (v := (-2)) hx hb dX7_safe_4 (by decide) ?_
    exact retI cx hw hr hk dX7_safe_6 ⟨hi, KK.rf⟩

set_option maxHeartbeats 4000000 in
set_option maxRecDepth 100000 in
theorem k_X7_wrong (l : Launch) (D : va_G) (a : Nat → Nat) (cI cZ : ClassId) (f : FF) (u : UU) (fu : Int32) (hi : IV f)  : KI l yX7_wrong cX7_wrong 2 (some .int) ({ frames := 8, cells := 0, slots := 0, locals := 206 } : Room) D a cI cZ [.ref (a 0), .int fu] f u (fun r f2 u2 => IV f2 ∧ KK [6] f f2) := by
  refine KX.of (by decide) (Nat.le_of_ble_eq_true rfl) ?_
  intro p e s m below meth c cx hw hr hk ls hl
  have cx : Cx p s m _ c cX7_wrong RX7 2 D cI cZ := cx
  have hl : lv_has ls 2 [(0, .ref (a 0)), (1, .int fu)] := hl
  have hx := cx.1.1
  have hb := cx.1.2.1
  refine lv_iload_n hx hb dX7_wrong_0 rfl (lv_at hl 1 rfl) ?_
  refine lv_if_ge (tgt := 7) hx hb dX7_wrong_1 (by decide) (fun c_1 => ?_) (fun c_1 => ?_)
  · obtain ⟨t_1, ht_1, et_1⟩ := nI_of (Int32.not_lt.mpr c_1)
    subst et_1
    refine lv_aload_n hx hb dX7_wrong_7 rfl (lv_at hl 0 rfl) ?_
    refine gf_X7_46 cx hw dX7_wrong_8 ?_
    refine gf_X7_156_5 cx hw dX7_wrong_11 ?_
    obtain ⟨n_2, hn_2, en_2⟩ := IV.s_5_3 hi
    refine topc (y := (nI n_2)) en_2 ?_
    refine lv_if_ne (tgt := 20) hx hb dX7_wrong_14 (by decide) (fun c_3 => ?_) (fun c_3 => ?_)
    · have c_3 : ¬ n_2 = 0 := fun z => c_3 ((nI_eq (a := n_2) (b := 0) (by omega) (by omega)).mpr z)
      refine lv_aload_n hx hb dX7_wrong_20 rfl (lv_at hl 0 rfl) ?_
      refine gf_X7_54 cx hw dX7_wrong_21 ?_
      refine lv_aload_n hx hb dX7_wrong_24 rfl (lv_at hl 0 rfl) ?_
      refine goI hw (runVW (k := 0) (As := []) (rest := [.ref (a 6)]) cx hw (k_X7_dryWeight l D a cI cZ f u   hi) lk_X7_201 rfl rfl ⟨Nat.le_of_ble_eq_true rfl, Nat.le_of_ble_eq_true rfl⟩ ⟨rfl, rfl⟩ ⟨Nat.zero_le _, Nat.zero_le _⟩ rfl rfl hl.1 (Nat.le_of_ble_eq_true rfl) dX7_wrong_25) (fun r_4 f_4 u_4 H locs hp_4 hw => ?_)
      obtain ⟨rfl, rfl⟩ := hp_4
      refine lv_aload_n hx hb dX7_wrong_28 rfl (lv_at hl 0 rfl) ?_
      refine goL hw (runVW (k := 0) (As := []) (rest := [.int r_4, .ref (a 6)]) cx hw (k_X7_dryMoment l D a cI cZ f u   hi) lk_X7_207 rfl rfl ⟨Nat.le_of_ble_eq_true rfl, Nat.le_of_ble_eq_true rfl⟩ ⟨rfl, rfl⟩ ⟨Nat.zero_le _, Nat.zero_le _⟩ rfl rfl hl.1 (Nat.le_of_ble_eq_true rfl) dX7_wrong_29) (fun r_5 f_5 u_5 H locs hp_5 hw => ?_)
      obtain ⟨rfl, rfl⟩ := hp_5
      refine lv_iload_n hx hb dX7_wrong_32 rfl (lv_at hl 1 rfl) ?_
      refine goI hw (runVW (k := 6) (As := [.int r_4, .long r_5, .int (nI t_1)]) (rest := []) cx hw (k_X2_firstWrong l D a cI cZ f u r_4 r_5 (nI t_1)  hi) lk_X7_227 rfl rfl ⟨Nat.le_of_ble_eq_true rfl, Nat.le_of_ble_eq_true rfl⟩ ⟨rfl, rfl⟩ ⟨Nat.zero_le _, Nat.zero_le _⟩ rfl rfl hl.1 (Nat.le_of_ble_eq_true rfl) dX7_wrong_33) (fun r_6 f_6 u_6 H locs hp_6 hw => ?_)
      obtain ⟨hi_6, kk_6⟩ := hp_6
      exact retI cx hw hr hk dX7_wrong_36 ⟨hi_6, (KK.tr KK.rf (kk_6.mono (by decide)))⟩
    · have c_3 : n_2 = 0 := (nI_eq (a := n_2) (b := 0) (by omega) (by omega)).mp c_3
      refine lv_bipush (v := (-3)) hx hb dX7_wrong_17 (by decide) ?_
      exact retI cx hw hr hk dX7_wrong_19 ⟨hi, KK.rf⟩
  · refine lv_bipush (v := (-2)) hx hb dX7_wrong_4 (by decide) ?_
    exact retI cx hw hr hk dX7_wrong_6 ⟨hi, KK.rf⟩

set_option maxHeartbeats 4000000 in
set_option maxRecDepth 100000 in
theorem k_X7_pushed (l : Launch) (D : va_G) (a : Nat → Nat) (cI cZ : ClassId) (f : FF) (u : UU) (sp : Int32) (hi : IV f)  : KI l yX7_pushed cX7_pushed 2 (some .int) ({ frames := 4, cells := 0, slots := 0, locals := 83 } : Room) D a cI cZ [.ref (a 0), .int sp] f u (fun r f2 u2 => f = f2 ∧ u = u2) := by
  refine KX.of (by decide) (Nat.le_of_ble_eq_true rfl) ?_
  intro p e s m below meth c cx hw hr hk ls hl
  have cx : Cx p s m _ c cX7_pushed RX7 2 D cI cZ := cx
  have hl : lv_has ls 2 [(0, .ref (a 0)), (1, .int sp)] := hl
  have hx := cx.1.1
  have hb := cx.1.2.1
  refine lv_iload_n hx hb dX7_pushed_0 rfl (lv_at hl 1 rfl) ?_
  refine lv_if_ne (tgt := 14) hx hb dX7_pushed_1 (by decide) (fun _ => ?_) (fun _ => ?_)
  · refine lv_iload_n hx hb dX7_pushed_14 rfl (lv_at hl 1 rfl) ?_
    refine goI hw (runSW (As := [.int sp]) (rest := []) cx hw (c_X7_isStop l D a cI cZ f u sp  ) lk_X7_107 ⟨Nat.le_of_ble_eq_true rfl, Nat.le_of_ble_eq_true rfl⟩ ⟨rfl, rfl⟩ ⟨Nat.zero_le _, Nat.zero_le _⟩ rfl rfl hl.1 (Nat.le_of_ble_eq_true rfl) dX7_pushed_15) (fun r_2 f_2 u_2 H locs hp_2 hw => ?_)
    obtain ⟨rfl, rfl, e_2⟩ := hp_2
    refine topc e_2 ?_
    refine lv_if_eq (tgt := 34) hx hb dX7_pushed_18 (by decide) (fun c_3 => ?_) (fun c_3 => ?_)
    · refine lv_iconst (v := (-1)) hx hb dX7_pushed_34 (by decide) ?_
      exact retI cx hw hr hk dX7_pushed_35 ⟨rfl, rfl⟩
    · obtain ⟨t_3, hs_3, ht_3, et_3⟩ := rg_nat2 (a := 1) (n := 4) (by omega) rfl c_3
      subst et_3
      refine lv_aload_n hx hb dX7_pushed_21 rfl (lv_at hl 0 rfl) ?_
      refine gf_X7_21 cx hw dX7_pushed_22 ?_
      refine lv_iconst (v := 1) hx hb dX7_pushed_25 (by decide) ?_
      refine lv_iload_n hx hb dX7_pushed_26 rfl (lv_at hl 1 rfl) ?_
      refine lv_ishl hx hb dX7_pushed_27 ?_
      refine lv_topi (fun x_4 _ => ?_)
      refine goI hw (runVW (k := 1) (As := [.int x_4]) (rest := []) cx hw (k_X1_pushedInAll l D a cI cZ f u x_4  hi) lk_X7_231 rfl rfl ⟨Nat.le_of_ble_eq_true rfl, Nat.le_of_ble_eq_true rfl⟩ ⟨rfl, rfl⟩ ⟨Nat.zero_le _, Nat.zero_le _⟩ rfl rfl hl.1 (Nat.le_of_ble_eq_true rfl) dX7_pushed_28) (fun r_5 f_5 u_5 H locs hp_5 hw => ?_)
      obtain ⟨rfl, rfl⟩ := hp_5
      refine lv_goto (tgt := 35) hx hb dX7_pushed_31 (by decide) ?_
      exact retI cx hw hr hk dX7_pushed_35 ⟨rfl, rfl⟩
  · refine lv_aload_n hx hb dX7_pushed_4 rfl (lv_at hl 0 rfl) ?_
    refine gf_X7_21 cx hw dX7_pushed_5 ?_
    refine lv_bipush (v := 30) hx hb dX7_pushed_8 (by decide) ?_
    refine goI hw (runVW (k := 1) (As := [.int 30]) (rest := []) cx hw (k_X1_pushedInAll l D a cI cZ f u 30  hi) lk_X7_231 rfl rfl ⟨Nat.le_of_ble_eq_true rfl, Nat.le_of_ble_eq_true rfl⟩ ⟨rfl, rfl⟩ ⟨Nat.zero_le _, Nat.zero_le _⟩ rfl rfl hl.1 (Nat.le_of_ble_eq_true rfl) dX7_pushed_10) (fun r_6 f_6 u_6 H locs hp_6 hw => ?_)
    obtain ⟨rfl, rfl⟩ := hp_6
    exact retI cx hw hr hk dX7_pushed_13 ⟨rfl, rfl⟩

set_option maxHeartbeats 4000000 in
set_option maxRecDepth 100000 in
theorem k_X7_arrive (l : Launch) (D : va_G) (a : Nat → Nat) (cI cZ : ClassId) (f : FF) (u : UU) (sp : Int32) (hi : IV f)  : KI l yX7_arrive cX7_arrive 2 (some .int) ({ frames := 3, cells := 0, slots := 0, locals := 57 } : Room) D a cI cZ [.ref (a 0), .int sp] f u (fun r f2 u2 => IV f2 ∧ KK [14, 18] f f2) := by
  refine KX.of (by decide) (Nat.le_of_ble_eq_true rfl) ?_
  intro p e s m below meth c cx hw hr hk ls hl
  have cx : Cx p s m _ c cX7_arrive RX7 2 D cI cZ := cx
  have hl : lv_has ls 2 [(0, .ref (a 0)), (1, .int sp)] := hl
  have hx := cx.1.1
  have hb := cx.1.2.1
  refine lv_iload_n hx hb dX7_arrive_0 rfl (lv_at hl 1 rfl) ?_
  refine goI hw (runSW (As := [.int sp]) (rest := []) cx hw (c_X7_isStop l D a cI cZ f u sp  ) lk_X7_107 ⟨Nat.le_of_ble_eq_true rfl, Nat.le_of_ble_eq_true rfl⟩ ⟨rfl, rfl⟩ ⟨Nat.zero_le _, Nat.zero_le _⟩ rfl rfl hl.1 (Nat.le_of_ble_eq_true rfl) dX7_arrive_1) (fun r_1 f_1 u_1 H locs hp_1 hw => ?_)
  obtain ⟨rfl, rfl, e_1⟩ := hp_1
  refine topc e_1 ?_
  refine lv_if_eq (tgt := 18) hx hb dX7_arrive_4 (by decide) (fun c_2 => ?_) (fun c_2 => ?_)
  · refine lv_iconst (v := (-1)) hx hb dX7_arrive_18 (by decide) ?_
    exact retI cx hw hr hk dX7_arrive_19 ⟨hi, KK.rf⟩
  · obtain ⟨t_2, hs_2, ht_2, et_2⟩ := rg_nat2 (a := 1) (n := 4) (by omega) rfl c_2
    subst et_2
    refine lv_aload_n hx hb dX7_arrive_7 rfl (lv_at hl 0 rfl) ?_
    refine gf_X7_21 cx hw dX7_arrive_8 ?_
    refine lv_iload_n hx hb dX7_arrive_11 rfl (lv_at hl 1 rfl) ?_
    refine goI hw (runVW (k := 1) (As := [.int (nI t_2)]) (rest := []) cx hw (k_X1_takeOutAllOf l D a cI cZ f u (nI t_2)  hi) lk_X7_234 rfl rfl ⟨Nat.le_of_ble_eq_true rfl, Nat.le_of_ble_eq_true rfl⟩ ⟨rfl, rfl⟩ ⟨Nat.zero_le _, Nat.zero_le _⟩ rfl rfl hl.1 (Nat.le_of_ble_eq_true rfl) dX7_arrive_12) (fun r_3 f_3 u_3 H locs hp_3 hw => ?_)
    obtain ⟨hi_3, kk_3⟩ := hp_3
    refine lv_goto (tgt := 19) hx hb dX7_arrive_15 (by decide) ?_
    exact retI cx hw hr hk dX7_arrive_19 ⟨hi_3, (KK.tr KK.rf (kk_3.mono (by decide)))⟩

set_option maxHeartbeats 4000000 in
set_option maxRecDepth 100000 in
theorem k_X7_loadAll (l : Launch) (D : va_G) (a : Nat → Nat) (cI cZ : ClassId) (f : FF) (u : UU) (ar : Int32) (hi : IV f)  : KI l yX7_loadAll cX7_loadAll 2 (some .int) ({ frames := 6, cells := 0, slots := 0, locals := 147 } : Room) D a cI cZ [.ref (a 0), .int ar] f u (fun r f2 u2 => IV f2 ∧ KK [14, 18] f f2) := by
  refine KX.of (by decide) (Nat.le_of_ble_eq_true rfl) ?_
  intro p e s m below meth c cx hw hr hk ls hl
  have cx : Cx p s m _ c cX7_loadAll RX7 2 D cI cZ := cx
  have hl : lv_has ls 2 [(0, .ref (a 0)), (1, .int ar)] := hl
  have hx := cx.1.1
  have hb := cx.1.2.1
  refine lv_iload_n hx hb dX7_loadAll_0 rfl (lv_at hl 1 rfl) ?_
  refine goI hw (runSW (As := [.int ar]) (rest := []) cx hw (c_X7_isArm l D a cI cZ f u ar  ) lk_X7_79 ⟨Nat.le_of_ble_eq_true rfl, Nat.le_of_ble_eq_true rfl⟩ ⟨rfl, rfl⟩ ⟨Nat.zero_le _, Nat.zero_le _⟩ rfl rfl hl.1 (Nat.le_of_ble_eq_true rfl) dX7_loadAll_1) (fun r_1 f_1 u_1 H locs hp_1 hw => ?_)
  obtain ⟨rfl, rfl, e_1⟩ := hp_1
  refine topc e_1 ?_
  refine lv_if_eq (tgt := 23) hx hb dX7_loadAll_4 (by decide) (fun c_2 => ?_) (fun c_2 => ?_)
  · refine lv_bipush (v := (-2)) hx hb dX7_loadAll_23 (by decide) ?_
    exact retI cx hw hr hk dX7_loadAll_25 ⟨hi, KK.rf⟩
  · obtain ⟨t_2, ht_2, et_2⟩ := rg_nat (n := 5000) rfl c_2
    subst et_2
    refine lv_aload_n hx hb dX7_loadAll_7 rfl (lv_at hl 0 rfl) ?_
    refine gf_X7_21 cx hw dX7_loadAll_8 ?_
    refine lv_iload_n hx hb dX7_loadAll_11 rfl (lv_at hl 1 rfl) ?_
    refine lv_aload_n hx hb dX7_loadAll_12 rfl (lv_at hl 0 rfl) ?_
    refine lv_iload_n hx hb dX7_loadAll_13 rfl (lv_at hl 1 rfl) ?_
    refine goL hw (runVW (k := 0) (As := [.int (nI t_2)]) (rest := [.int (nI t_2), .ref (a 1)]) cx hw (k_X7_lean l D a cI cZ f u (nI t_2)  hi) lk_X7_237 rfl rfl ⟨Nat.le_of_ble_eq_true rfl, Nat.le_of_ble_eq_true rfl⟩ ⟨rfl, rfl⟩ ⟨Nat.zero_le _, Nat.zero_le _⟩ rfl rfl hl.1 (Nat.le_of_ble_eq_true rfl) dX7_loadAll_14) (fun r_3 f_3 u_3 H locs hp_3 hw => ?_)
    obtain ⟨rfl, rfl⟩ := hp_3
    refine goI hw (runVW (k := 1) (As := [.int (nI t_2), .long r_3]) (rest := []) cx hw (k_X1_loadHeaviestFirst l D a cI cZ f u (nI t_2) r_3  hi) lk_X7_240 rfl rfl ⟨Nat.le_of_ble_eq_true rfl, Nat.le_of_ble_eq_true rfl⟩ ⟨rfl, rfl⟩ ⟨Nat.zero_le _, Nat.zero_le _⟩ rfl rfl hl.1 (Nat.le_of_ble_eq_true rfl) dX7_loadAll_17) (fun r_4 f_4 u_4 H locs hp_4 hw => ?_)
    obtain ⟨hi_4, kk_4⟩ := hp_4
    refine lv_goto (tgt := 25) hx hb dX7_loadAll_20 (by decide) ?_
    exact retI cx hw hr hk dX7_loadAll_25 ⟨hi_4, (KK.tr KK.rf (kk_4.mono (by decide)))⟩

set_option maxHeartbeats 4000000 in
set_option maxRecDepth 100000 in
theorem k_X7_better (l : Launch) (D : va_G) (a : Nat → Nat) (cI cZ : ClassId) (f : FF) (u : UU) (ar : Int32) (hi : IV f)  : KI l yX7_better cX7_better 5 (some .int) ({ frames := 7, cells := 0, slots := 0, locals := 166 } : Room) D a cI cZ [.ref (a 0), .int ar] f u (fun r f2 u2 => IV f2 ∧ KK [14, 18] f f2) := by
  refine KX.of (by decide) (Nat.le_of_ble_eq_true rfl) ?_
  intro p e s m below meth c cx hw hr hk ls hl
  have cx : Cx p s m _ c cX7_better RX7 5 D cI cZ := cx
  have hl : lv_has ls 5 [(0, .ref (a 0)), (1, .int ar)] := hl
  have hx := cx.1.1
  have hb := cx.1.2.1
  refine lv_iload_n hx hb dX7_better_0 rfl (lv_at hl 1 rfl) ?_
  refine goI hw (runSW (As := [.int ar]) (rest := []) cx hw (c_X7_isArm l D a cI cZ f u ar  ) lk_X7_79 ⟨Nat.le_of_ble_eq_true rfl, Nat.le_of_ble_eq_true rfl⟩ ⟨rfl, rfl⟩ ⟨Nat.zero_le _, Nat.zero_le _⟩ rfl rfl hl.1 (Nat.le_of_ble_eq_true rfl) dX7_better_1) (fun r_1 f_1 u_1 H locs hp_1 hw => ?_)
  obtain ⟨rfl, rfl, e_1⟩ := hp_1
  refine topc e_1 ?_
  refine lv_if_ne (tgt := 10) hx hb dX7_better_4 (by decide) (fun c_2 => ?_) (fun c_2 => ?_)
  · obtain ⟨t_2, ht_2, et_2⟩ := rg_nat (n := 5000) rfl c_2
    subst et_2
    refine lv_iconst (v := 0) hx hb dX7_better_10 (by decide) ?_
    refine lv_istore_n (lv' := [(2, .int 0), (0, .ref (a 0)), (1, .int (nI t_2))]) hx hb dX7_better_11 rfl hl (by decide) rfl (fun ls hl => ?_)
    have loop_3 : ∀ (k_3 : Nat) (v2_3 : Nat), v2_3 ≤ 50 → 50 + 1 - v2_3 < k_3 → ∀ (f_3 : FF) (u_3 : UU), IV f_3 → KK [14, 18] f f_3 → ∀ (H : Heap) (locs : List Loc) (ls : Array Slot), Wd D a cI cZ s f_3 u_3 H locs → lv_has ls 5 [(2, .int (nI v2_3)), (0, .ref (a 0)), (1, .int (nI t_2))] → W p l e ({ frames := 7, cells := 0, slots := 0, locals := 166 } : Room) s m ([.ref (a 0), .int (nI t_2)] : List Value).toArray below meth c H locs 0 0 (MQ below (QI D a cI cZ (fun r f2 u2 => IV f2 ∧ KK [14, 18] f f2)) ([.ref (a 0), .int (nI t_2)] : List Value).toArray s 0 0 (AA a)) (F0 m 12 ls []) := by
      intro k_3
      induction k_3 with
      | zero => intros; omega
      | succ k_3 ih_3 =>
        intro v2_3  hb0_3  hm_3 f_3 u_3 hi_3 kk_3  H locs ls hw hl
        refine lv_iload_n hx hb dX7_better_12 rfl (lv_at hl 0 rfl) ?_
        refine lv_bipush (v := 50) hx hb dX7_better_13 (by decide) ?_
        refine lv_icmp_ge (tgt := 55) hx hb dX7_better_15 (by decide) (fun c_4 => ?_) (fun c_4 => ?_)
        · have c_4 : 50 ≤ v2_3 := (nI_leI (a := 50) (b := v2_3) (by omega) (by omega)).mp c_4
          refine lv_bipush (v := 50) hx hb dX7_better_55 (by decide) ?_
          exact retI cx hw hr hk dX7_better_57 ⟨hi_3, kk_3⟩
        · have c_4 : ¬ 50 ≤ v2_3 := fun z => c_4 ((nI_leI (a := 50) (b := v2_3) (by omega) (by omega)).mpr z)
          refine lv_aload_n hx hb dX7_better_18 rfl (lv_at hl 1 rfl) ?_
          refine lv_iload_n hx hb dX7_better_19 rfl (lv_at hl 2 rfl) ?_
          refine goL hw (runVW (k := 0) (As := [.int (nI t_2)]) (rest := []) cx hw (k_X7_lean l D a cI cZ f_3 u_3 (nI t_2)  hi_3) lk_X7_237 rfl rfl ⟨Nat.le_of_ble_eq_true rfl, Nat.le_of_ble_eq_true rfl⟩ ⟨rfl, rfl⟩ ⟨Nat.zero_le _, Nat.zero_le _⟩ rfl rfl hl.1 (Nat.le_of_ble_eq_true rfl) dX7_better_20) (fun r_5 f_5 u_5 H locs hp_5 hw => ?_)
          obtain ⟨rfl, rfl⟩ := hp_5
          refine lv_lstore_n (lv' := [(3, .long r_5), (2, .int (nI v2_3)), (0, .ref (a 0)), (1, .int (nI t_2))]) hx hb dX7_better_23 rfl hl (by decide) rfl (fun ls hl => ?_)
          refine lv_aload_n hx hb dX7_better_24 rfl (lv_at hl 2 rfl) ?_
          refine gf_X7_63 cx hw dX7_better_25 ?_
          refine lv_lload_n hx hb dX7_better_28 rfl (lv_at hl 0 rfl) ?_
          refine goI hw (runVW (k := 7) (As := [.long r_5]) (rest := []) cx hw (k_X5_doFirstGoodSwap l D a cI cZ f_3 u_3 r_5  hi_3) lk_X7_243 rfl rfl ⟨Nat.le_of_ble_eq_true rfl, Nat.le_of_ble_eq_true rfl⟩ ⟨rfl, rfl⟩ ⟨Nat.zero_le _, Nat.zero_le _⟩ rfl rfl hl.1 (Nat.le_of_ble_eq_true rfl) dX7_better_29) (fun r_6 f_6 u_6 H locs hp_6 hw => ?_)
          obtain ⟨hi_6, kk_6⟩ := hp_6
          refine lv_if_ne (tgt := 49) hx hb dX7_better_32 (by decide) (fun _ => ?_) (fun _ => ?_)
          · refine lv_iinc (v := (nI (v2_3 + 1))) (lv' := [(2, .int (nI (v2_3 + 1))), (3, .long r_5), (0, .ref (a 0)), (1, .int (nI t_2))]) hx hb dX7_better_49 hl (k := 1) rfl (nI_add v2_3 1) (by decide) rfl (fun ls hl => ?_)
            refine lv_goto (tgt := 12) hx hb dX7_better_52 (by decide) ?_
            exact ih_3 (v2_3 + 1)  (by omega) (by omega) f_6 u_6 hi_6 (KK.tr kk_3 (kk_6.mono (by decide)))  _ _ _ hw (lv_sub hl [0, 2, 3] rfl)
          · refine lv_aload_n hx hb dX7_better_35 rfl (lv_at hl 2 rfl) ?_
            refine gf_X7_63 cx hw dX7_better_36 ?_
            refine lv_iload_n hx hb dX7_better_39 rfl (lv_at hl 3 rfl) ?_
            refine lv_lload_n hx hb dX7_better_40 rfl (lv_at hl 0 rfl) ?_
            refine goI hw (runVW (k := 7) (As := [.int (nI t_2), .long r_5]) (rest := []) cx hw (k_X5_doFirstGoodMove l D a cI cZ f_6 u_6 (nI t_2) r_5  hi_6) lk_X7_247 rfl rfl ⟨Nat.le_of_ble_eq_true rfl, Nat.le_of_ble_eq_true rfl⟩ ⟨rfl, rfl⟩ ⟨Nat.zero_le _, Nat.zero_le _⟩ rfl rfl hl.1 (Nat.le_of_ble_eq_true rfl) dX7_better_41) (fun r_8 f_8 u_8 H locs hp_8 hw => ?_)
            obtain ⟨hi_8, kk_8⟩ := hp_8
            refine lv_if_ne (tgt := 49) hx hb dX7_better_44 (by decide) (fun _ => ?_) (fun _ => ?_)
            · refine lv_iinc (v := (nI (v2_3 + 1))) (lv' := [(2, .int (nI (v2_3 + 1))), (3, .long r_5), (0, .ref (a 0)), (1, .int (nI t_2))]) hx hb dX7_better_49 hl (k := 1) rfl (nI_add v2_3 1) (by decide) rfl (fun ls hl => ?_)
              refine lv_goto (tgt := 12) hx hb dX7_better_52 (by decide) ?_
              exact ih_3 (v2_3 + 1)  (by omega) (by omega) f_8 u_8 hi_8 (KK.tr (KK.tr kk_3 (kk_6.mono (by decide))) (kk_8.mono (by decide)))  _ _ _ hw (lv_sub hl [0, 2, 3] rfl)
            · refine lv_iload_n hx hb dX7_better_47 rfl (lv_at hl 1 rfl) ?_
              exact retI cx hw hr hk dX7_better_48 ⟨hi_8, (KK.tr (KK.tr kk_3 (kk_6.mono (by decide))) (kk_8.mono (by decide)))⟩
    exact loop_3 _ 0  (by omega)  (Nat.lt_succ_self _) f u hi KK.rf  _ _ _ hw (lv_sub hl [0, 1, 2] rfl)
  · refine lv_bipush (v := (-2)) hx hb dX7_better_7 (by decide) ?_
    exact retI cx hw hr hk dX7_better_9 ⟨hi, KK.rf⟩

set_option maxHeartbeats 4000000 in
set_option maxRecDepth 100000 in
theorem k_X7_late (l : Launch) (D : va_G) (a : Nat → Nat) (cI cZ : ClassId) (f : FF) (u : UU) (n : Int32) (ar : Int32) (hi : IV f)  : KI l yX7_late cX7_late 3 (some .int) ({ frames := 5, cells := 0, slots := 0, locals := 99 } : Room) D a cI cZ [.ref (a 0), .int n, .int ar] f u (fun r f2 u2 => IV f2 ∧ KK [23] f f2) := by
  refine KX.of (by decide) (Nat.le_of_ble_eq_true rfl) ?_
  intro p e s m below meth c cx hw hr hk ls hl
  have cx : Cx p s m _ c cX7_late RX7 3 D cI cZ := cx
  have hl : lv_has ls 3 [(0, .ref (a 0)), (1, .int n), (2, .int ar)] := hl
  have hx := cx.1.1
  have hb := cx.1.2.1
  refine lv_iload_n hx hb dX7_late_0 rfl (lv_at hl 1 rfl) ?_
  refine lv_iconst (v := 0) hx hb dX7_late_1 (by decide) ?_
  refine lv_bipush (v := 80) hx hb dX7_late_2 (by decide) ?_
  refine goI hw (runSW (As := [.int n, .int 0, .int 80]) (rest := []) cx hw (c_X7_isFromTo l D a cI cZ f u n 0 80  ) lk_X7_75 ⟨Nat.le_of_ble_eq_true rfl, Nat.le_of_ble_eq_true rfl⟩ ⟨rfl, rfl⟩ ⟨Nat.zero_le _, Nat.zero_le _⟩ rfl rfl hl.1 (Nat.le_of_ble_eq_true rfl) dX7_late_4) (fun r_1 f_1 u_1 H locs hp_1 hw => ?_)
  obtain ⟨rfl, rfl, e_1⟩ := hp_1
  refine topc e_1 ?_
  refine lv_if_eq (tgt := 17) hx hb dX7_late_7 (by decide) (fun c_2 => ?_) (fun c_2 => ?_)
  · refine lv_bipush (v := (-2)) hx hb dX7_late_17 (by decide) ?_
    exact retI cx hw hr hk dX7_late_19 ⟨hi, KK.rf⟩
  · obtain ⟨t_2, ht_2, et_2⟩ := rg_nat (n := 80) rfl c_2
    subst et_2
    refine lv_iload_n hx hb dX7_late_10 rfl (lv_at hl 2 rfl) ?_
    refine goI hw (runSW (As := [.int ar]) (rest := []) cx hw (c_X7_isArm l D a cI cZ f u ar  ) lk_X7_79 ⟨Nat.le_of_ble_eq_true rfl, Nat.le_of_ble_eq_true rfl⟩ ⟨rfl, rfl⟩ ⟨Nat.zero_le _, Nat.zero_le _⟩ rfl rfl hl.1 (Nat.le_of_ble_eq_true rfl) dX7_late_11) (fun r_3 f_3 u_3 H locs hp_3 hw => ?_)
    obtain ⟨rfl, rfl, e_3⟩ := hp_3
    refine topc e_3 ?_
    refine lv_if_ne (tgt := 20) hx hb dX7_late_14 (by decide) (fun c_4 => ?_) (fun c_4 => ?_)
    · obtain ⟨t_4, ht_4, et_4⟩ := rg_nat (n := 5000) rfl c_4
      subst et_4
      refine lv_aload_n hx hb dX7_late_20 rfl (lv_at hl 0 rfl) ?_
      refine gf_X7_28 cx hw dX7_late_21 ?_
      refine lv_iload_n hx hb dX7_late_24 rfl (lv_at hl 1 rfl) ?_
      refine lv_iload_n hx hb dX7_late_25 rfl (lv_at hl 2 rfl) ?_
      refine lv_aload_n hx hb dX7_late_26 rfl (lv_at hl 0 rfl) ?_
      refine lv_iload_n hx hb dX7_late_27 rfl (lv_at hl 2 rfl) ?_
      refine goL hw (runVW (k := 0) (As := [.int (nI t_4)]) (rest := [.int (nI t_4), .int (nI t_2), .ref (a 2)]) cx hw (k_X7_lean l D a cI cZ f u (nI t_4)  hi) lk_X7_237 rfl rfl ⟨Nat.le_of_ble_eq_true rfl, Nat.le_of_ble_eq_true rfl⟩ ⟨rfl, rfl⟩ ⟨Nat.zero_le _, Nat.zero_le _⟩ rfl rfl hl.1 (Nat.le_of_ble_eq_true rfl) dX7_late_28) (fun r_5 f_5 u_5 H locs hp_5 hw => ?_)
      obtain ⟨rfl, rfl⟩ := hp_5
      refine goI hw (runVW (k := 2) (As := [.int (nI t_2), .int (nI t_4), .long r_5]) (rest := []) cx hw (k_X0_seatLate l D a cI cZ f u t_2 (nI t_4) r_5  hi (by omega)) lk_X7_258 rfl rfl ⟨Nat.le_of_ble_eq_true rfl, Nat.le_of_ble_eq_true rfl⟩ ⟨rfl, rfl⟩ ⟨Nat.zero_le _, Nat.zero_le _⟩ rfl rfl hl.1 (Nat.le_of_ble_eq_true rfl) dX7_late_31) (fun r_6 f_6 u_6 H locs hp_6 hw => ?_)
      obtain ⟨hi_6, kk_6⟩ := hp_6
      exact retI cx hw hr hk dX7_late_34 ⟨hi_6, (KK.tr KK.rf (kk_6.mono (by decide)))⟩
    · refine lv_bipush (v := (-2)) hx hb dX7_late_17 (by decide) ?_
      exact retI cx hw hr hk dX7_late_19 ⟨hi, KK.rf⟩

set_option maxHeartbeats 4000000 in
set_option maxRecDepth 100000 in
theorem k_X7_count (l : Launch) (D : va_G) (a : Nat → Nat) (cI cZ : ClassId) (f : FF) (u : UU) (wh : Int32) (hi : IV f)  : KI l yX7_count cX7_count 2 (some .int) ({ frames := 3, cells := 0, slots := 0, locals := 55 } : Room) D a cI cZ [.ref (a 0), .int wh] f u (fun r f2 u2 => f = f2 ∧ u = u2) := by
  refine KX.of (by decide) (Nat.le_of_ble_eq_true rfl) ?_
  intro p e s m below meth c cx hw hr hk ls hl
  have cx : Cx p s m _ c cX7_count RX7 2 D cI cZ := cx
  have hl : lv_has ls 2 [(0, .ref (a 0)), (1, .int wh)] := hl
  have hx := cx.1.1
  have hb := cx.1.2.1
  refine lv_iload_n hx hb dX7_count_0 rfl (lv_at hl 1 rfl) ?_
  rcases Decidable.em (wh = 0) with c_1 | c_1
  · refine lv_tableIn (off := 47) (tgt := 48) hx hb dX7_count_1 (by rw [c_1]; decide) (by rw [c_1]; decide) (by rw [c_1]; rfl) (by decide) ?_
    refine lv_aload_n hx hb dX7_count_48 rfl (lv_at hl 0 rfl) ?_
    refine gf_X7_21 cx hw dX7_count_49 ?_
    refine gf_X7_262 cx hw dX7_count_52 ?_
    obtain ⟨n_2, hn_2, en_2⟩ := IV.s_1_3 hi
    refine topc (y := (nI n_2)) en_2 ?_
    exact retI cx hw hr hk dX7_count_55 ⟨rfl, rfl⟩
  rcases Decidable.em (wh = 1) with c_3 | c_3
  · refine lv_tableIn (off := 55) (tgt := 56) hx hb dX7_count_1 (by rw [c_3]; decide) (by rw [c_3]; decide) (by rw [c_3]; rfl) (by decide) ?_
    refine lv_aload_n hx hb dX7_count_56 rfl (lv_at hl 0 rfl) ?_
    refine gf_X7_21 cx hw dX7_count_57 ?_
    refine goI hw (runVW (k := 1) (As := []) (rest := []) cx hw (k_X1_slotsInAll l D a cI cZ f u   hi) lk_X7_265 rfl rfl ⟨Nat.le_of_ble_eq_true rfl, Nat.le_of_ble_eq_true rfl⟩ ⟨rfl, rfl⟩ ⟨Nat.zero_le _, Nat.zero_le _⟩ rfl rfl hl.1 (Nat.le_of_ble_eq_true rfl) dX7_count_60) (fun r_4 f_4 u_4 H locs hp_4 hw => ?_)
    obtain ⟨rfl, rfl⟩ := hp_4
    exact retI cx hw hr hk dX7_count_63 ⟨rfl, rfl⟩
  rcases Decidable.em (wh = 2) with c_5 | c_5
  · refine lv_tableIn (off := 63) (tgt := 64) hx hb dX7_count_1 (by rw [c_5]; decide) (by rw [c_5]; decide) (by rw [c_5]; rfl) (by decide) ?_
    refine lv_aload_n hx hb dX7_count_64 rfl (lv_at hl 0 rfl) ?_
    refine gf_X7_21 cx hw dX7_count_65 ?_
    refine gf_X7_268 cx hw dX7_count_68 ?_
    obtain ⟨n_6, hn_6, en_6⟩ := IV.s_1_12 hi
    refine topc (y := (nI n_6)) en_6 ?_
    exact retI cx hw hr hk dX7_count_71 ⟨rfl, rfl⟩
  rcases Decidable.em (wh = 3) with c_7 | c_7
  · refine lv_tableIn (off := 71) (tgt := 72) hx hb dX7_count_1 (by rw [c_7]; decide) (by rw [c_7]; decide) (by rw [c_7]; rfl) (by decide) ?_
    refine lv_aload_n hx hb dX7_count_72 rfl (lv_at hl 0 rfl) ?_
    refine gf_X7_21 cx hw dX7_count_73 ?_
    refine goI hw (runVW (k := 1) (As := []) (rest := []) cx hw (k_X1_loadedInAll l D a cI cZ f u   hi) lk_X7_271 rfl rfl ⟨Nat.le_of_ble_eq_true rfl, Nat.le_of_ble_eq_true rfl⟩ ⟨rfl, rfl⟩ ⟨Nat.zero_le _, Nat.zero_le _⟩ rfl rfl hl.1 (Nat.le_of_ble_eq_true rfl) dX7_count_76) (fun r_8 f_8 u_8 H locs hp_8 hw => ?_)
    obtain ⟨rfl, rfl⟩ := hp_8
    exact retI cx hw hr hk dX7_count_79 ⟨rfl, rfl⟩
  rcases Decidable.em (wh = 4) with c_9 | c_9
  · refine lv_tableIn (off := 79) (tgt := 80) hx hb dX7_count_1 (by rw [c_9]; decide) (by rw [c_9]; decide) (by rw [c_9]; rfl) (by decide) ?_
    refine lv_aload_n hx hb dX7_count_80 rfl (lv_at hl 0 rfl) ?_
    refine gf_X7_28 cx hw dX7_count_81 ?_
    refine gf_X7_122 cx hw dX7_count_84 ?_
    obtain ⟨n_10, hn_10, en_10⟩ := IV.s_2_3 hi
    refine topc (y := (nI n_10)) en_10 ?_
    exact retI cx hw hr hk dX7_count_87 ⟨rfl, rfl⟩
  rcases Decidable.em (wh = 5) with c_11 | c_11
  · refine lv_tableIn (off := 87) (tgt := 88) hx hb dX7_count_1 (by rw [c_11]; decide) (by rw [c_11]; decide) (by rw [c_11]; rfl) (by decide) ?_
    refine lv_aload_n hx hb dX7_count_88 rfl (lv_at hl 0 rfl) ?_
    refine gf_X7_28 cx hw dX7_count_89 ?_
    refine goI hw (runVW (k := 2) (As := []) (rest := []) cx hw (k_X0_passengers l D a cI cZ f u   hi) lk_X7_274 rfl rfl ⟨Nat.le_of_ble_eq_true rfl, Nat.le_of_ble_eq_true rfl⟩ ⟨rfl, rfl⟩ ⟨Nat.zero_le _, Nat.zero_le _⟩ rfl rfl hl.1 (Nat.le_of_ble_eq_true rfl) dX7_count_92) (fun r_12 f_12 u_12 H locs hp_12 hw => ?_)
    obtain ⟨rfl, rfl⟩ := hp_12
    exact retI cx hw hr hk dX7_count_95 ⟨rfl, rfl⟩
  rcases Decidable.em (wh = 6) with c_13 | c_13
  · refine lv_tableIn (off := 95) (tgt := 96) hx hb dX7_count_1 (by rw [c_13]; decide) (by rw [c_13]; decide) (by rw [c_13]; rfl) (by decide) ?_
    refine lv_aload_n hx hb dX7_count_96 rfl (lv_at hl 0 rfl) ?_
    refine gf_X7_35 cx hw dX7_count_97 ?_
    refine gf_X7_132 cx hw dX7_count_100 ?_
    obtain ⟨n_14, hn_14, en_14⟩ := IV.s_3_3 hi
    refine topc (y := (nI n_14)) en_14 ?_
    exact retI cx hw hr hk dX7_count_103 ⟨rfl, rfl⟩
  rcases Decidable.em (wh = 7) with c_15 | c_15
  · refine lv_tableIn (off := 103) (tgt := 104) hx hb dX7_count_1 (by rw [c_15]; decide) (by rw [c_15]; decide) (by rw [c_15]; rfl) (by decide) ?_
    refine lv_aload_n hx hb dX7_count_104 rfl (lv_at hl 0 rfl) ?_
    refine gf_X7_28 cx hw dX7_count_105 ?_
    refine gf_X7_119 cx hw dX7_count_108 ?_
    refine lv_topi (fun x_16 _ => ?_)
    exact retI cx hw hr hk dX7_count_111 ⟨rfl, rfl⟩
  refine lv_tableOut (tgt := 112) hx hb dX7_count_1 (by have z0 := lv_neT (a := 0) c_1 rfl; have z1 := lv_neT (a := 1) c_3 rfl; have z2 := lv_neT (a := 2) c_5 rfl; have z3 := lv_neT (a := 3) c_7 rfl; have z4 := lv_neT (a := 4) c_9 rfl; have z5 := lv_neT (a := 5) c_11 rfl; have z6 := lv_neT (a := 6) c_13 rfl; have z7 := lv_neT (a := 7) c_15 rfl; omega) (by decide) ?_
  refine lv_iconst (v := (-1)) hx hb dX7_count_112 (by decide) ?_
  exact retI cx hw hr hk dX7_count_113 ⟨rfl, rfl⟩
