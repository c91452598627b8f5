set_option maxHeartbeats 4000000 in
set_option maxRecDepth 100000 in
theorem k_X8_isHold (l : Launch) (D : va_G) (a : Nat → Nat) (cI cZ : ClassId) (f : FF) (u : UU) (h : Int32) (hi : IV f)  : KI l yX8_isHold cX8_isHold 2 (some .boolean) ({ frames := 2, cells := 0, slots := 0, locals := 34 } : Room) D a cI cZ [.ref (a 36), .int h] f u (fun r f2 u2 => f = f2 ∧ u = u2 ∧ ((r = 0 ∧ rg h 0 (f 36 3 - 1) = 0) ∨ (r = 1 ∧ ∃ j c, j < c ∧ c ≤ 4 ∧ f 36 3 = nI c ∧ h = nI j))) := by
  refine KX.of (by decide) (Nat.le_of_ble_eq_true rfl) ?_
  intro p e s m below meth c cx hw hr hk ls hl
  have cx : Cx p s m _ c cX8_isHold RX8 2 D cI cZ := cx
  have hl : lv_has ls 2 [(0, .ref (a 36)), (1, .int h)] := hl
  have hx := cx.1.1
  have hb := cx.1.2.1
  refine lv_iload_n hx hb dX8_isHold_0 rfl (lv_at hl 1 rfl) ?_
  refine lv_iconst (v := 0) hx hb dX8_isHold_1 (by decide) ?_
  refine lv_aload_n hx hb dX8_isHold_2 rfl (lv_at hl 0 rfl) ?_
  refine gf_X8_99 cx hw dX8_isHold_3 ?_
  obtain ⟨n_1, hn_1, en_1⟩ := IV.s_36_3 hi
  refine topc (y := (nI n_1)) en_1 ?_
  refine lv_iconst (v := 1) hx hb dX8_isHold_6 (by decide) ?_
  refine lv_isub hx hb dX8_isHold_7 ?_
  refine goI hw (runSW (As := [.int h, .int 0, .int (nI n_1 - 1)]) (rest := []) cx hw (c_X8_isIn l D a cI cZ f u h 0 (nI n_1 - 1)  ) lk_X8_95 ⟨Nat.le_of_ble_eq_true rfl, Nat.le_of_ble_eq_true rfl⟩ ⟨rfl, rfl⟩ ⟨Nat.zero_le _, Nat.zero_le _⟩ rfl rfl hl.1 (Nat.le_of_ble_eq_true rfl) dX8_isHold_8) (fun r_2 f_2 u_2 H locs hp_2 hw => ?_)
  obtain ⟨rfl, rfl, e_2⟩ := hp_2
  refine topc e_2 ?_
  exact retZ cx hw hr hk (nar_rg _ _ _) dX8_isHold_11 ⟨rfl, rfl, by rcases rg_cases h (c := n_1) (by omega) with q | ⟨q, j, hj, e⟩; exact Or.inl ⟨q, by rw [en_1]; exact q⟩; exact Or.inr ⟨q, j, n_1, hj, by omega, en_1, e⟩⟩

set_option maxHeartbeats 4000000 in
set_option maxRecDepth 100000 in
theorem k_X8_isItem (l : Launch) (D : va_G) (a : Nat → Nat) (cI cZ : ClassId) (f : FF) (u : UU) (h : Int32) (hi : IV f)  : KI l yX8_isItem cX8_isItem 2 (some .boolean) ({ frames := 2, cells := 0, slots := 0, locals := 34 } : Room) D a cI cZ [.ref (a 36), .int h] f u (fun r f2 u2 => f = f2 ∧ u = u2 ∧ ((r = 0) ∨ (r = 1 ∧ ∃ j c, j < c ∧ c ≤ 40 ∧ f 36 11 = nI c ∧ h = nI j))) := by
  refine KX.of (by decide) (Nat.le_of_ble_eq_true rfl) ?_
  intro p e s m below meth c cx hw hr hk ls hl
  have cx : Cx p s m _ c cX8_isItem RX8 2 D cI cZ := cx
  have hl : lv_has ls 2 [(0, .ref (a 36)), (1, .int h)] := hl
  have hx := cx.1.1
  have hb := cx.1.2.1
  refine lv_iload_n hx hb dX8_isItem_0 rfl (lv_at hl 1 rfl) ?_
  refine lv_iconst (v := 0) hx hb dX8_isItem_1 (by decide) ?_
  refine lv_aload_n hx hb dX8_isItem_2 rfl (lv_at hl 0 rfl) ?_
  refine gf_X8_106 cx hw dX8_isItem_3 ?_
  obtain ⟨n_1, hn_1, en_1⟩ := IV.s_36_11 hi
  refine topc (y := (nI n_1)) en_1 ?_
  refine lv_iconst (v := 1) hx hb dX8_isItem_6 (by decide) ?_
  refine lv_isub hx hb dX8_isItem_7 ?_
  refine goI hw (runSW (As := [.int h, .int 0, .int (nI n_1 - 1)]) (rest := []) cx hw (c_X8_isIn l D a cI cZ f u h 0 (nI n_1 - 1)  ) lk_X8_95 ⟨Nat.le_of_ble_eq_true rfl, Nat.le_of_ble_eq_true rfl⟩ ⟨rfl, rfl⟩ ⟨Nat.zero_le _, Nat.zero_le _⟩ rfl rfl hl.1 (Nat.le_of_ble_eq_true rfl) dX8_isItem_8) (fun r_2 f_2 u_2 H locs hp_2 hw => ?_)
  obtain ⟨rfl, rfl, e_2⟩ := hp_2
  refine topc e_2 ?_
  exact retZ cx hw hr hk (nar_rg _ _ _) dX8_isItem_11 ⟨rfl, rfl, by rcases rg_cases h (c := n_1) (by omega) with q | ⟨q, j, hj, e⟩; exact Or.inl q; exact Or.inr ⟨q, j, n_1, hj, by omega, en_1, e⟩⟩

set_option maxHeartbeats 4000000 in
set_option maxRecDepth 100000 in
theorem k_X8_isSlot (l : Launch) (D : va_G) (a : Nat → Nat) (cI cZ : ClassId) (f : FF) (u : UU) (h : Int32) (k : Int32) (hi : IV f)  : KI l yX8_isSlot cX8_isSlot 3 (some .boolean) ({ frames := 3, cells := 0, slots := 0, locals := 55 } : Room) D a cI cZ [.ref (a 36), .int h, .int k] f u (fun r f2 u2 => f = f2 ∧ u = u2 ∧ ((r = 0) ∨ (r = 1 ∧ ∃ j k1 c d, j < c ∧ c ≤ 4 ∧ f 36 3 = nI c ∧ k1 < d ∧ d ≤ 8 ∧ f 39 j = nI d ∧ h = nI j ∧ k = nI k1))) := by
  refine KX.of (by decide) (Nat.le_of_ble_eq_true rfl) ?_
  intro p e s m below meth c cx hw hr hk ls hl
  have cx : Cx p s m _ c cX8_isSlot RX8 3 D cI cZ := cx
  have hl : lv_has ls 3 [(0, .ref (a 36)), (1, .int h), (2, .int k)] := hl
  have hx := cx.1.1
  have hb := cx.1.2.1
  refine lv_aload_n hx hb dX8_isSlot_0 rfl (lv_at hl 0 rfl) ?_
  refine lv_iload_n hx hb dX8_isSlot_1 rfl (lv_at hl 1 rfl) ?_
  refine goI hw (runVW (k := 36) (As := [.int h]) (rest := []) cx hw (k_X8_isHold l D a cI cZ f u h  hi) lk_X8_102 rfl rfl ⟨Nat.le_of_ble_eq_true rfl, Nat.le_of_ble_eq_true rfl⟩ ⟨rfl, rfl⟩ ⟨Nat.zero_le _, Nat.zero_le _⟩ rfl rfl hl.1 (Nat.le_of_ble_eq_true rfl) dX8_isSlot_2) (fun r_1 f_1 u_1 H locs hp_1 hw => ?_)
  obtain ⟨rfl, rfl, ha_1⟩ := hp_1
  rcases ha_1 with ⟨er_1, q0_1_0⟩ | ⟨er_1, b1_1_j, b1_1_c, q1_1_0, q1_1_1, q1_1_2, q1_1_3⟩
  · subst er_1
    refine lv_if_eq (tgt := 28) hx hb dX8_isSlot_5 (by decide) (fun _ => ?_) (fun q => absurd (by decide) q)
    refine lv_iconst (v := 0) hx hb dX8_isSlot_28 (by decide) ?_
    exact retZ cx hw hr hk rfl dX8_isSlot_29 ⟨rfl, rfl, Or.inl rfl⟩
  · subst er_1
    subst q1_1_3
    refine lv_if_eq (tgt := 28) hx hb dX8_isSlot_5 (by decide) (fun q => absurd q (by decide)) (fun _ => ?_)
    refine lv_iload_n hx hb dX8_isSlot_8 rfl (lv_at hl 2 rfl) ?_
    refine lv_iconst (v := 0) hx hb dX8_isSlot_9 (by decide) ?_
    refine lv_aload_n hx hb dX8_isSlot_10 rfl (lv_at hl 0 rfl) ?_
    refine gf_X8_25 cx hw dX8_isSlot_11 ?_
    refine lv_iload_n hx hb dX8_isSlot_14 rfl (lv_at hl 1 rfl) ?_
    refine aldN 39 b1_1_j cx hw rfl (by omega) (by decide) dX8_isSlot_15 ?_
    obtain ⟨n_4, hn_4, en_4⟩ := IV.a_39 hi (i := b1_1_j) (by omega)
    refine topc (y := (nI n_4)) en_4 ?_
    refine lv_iconst (v := 1) hx hb dX8_isSlot_16 (by decide) ?_
    refine lv_isub hx hb dX8_isSlot_17 ?_
    refine goI hw (runSW (As := [.int k, .int 0, .int (nI n_4 - 1)]) (rest := []) cx hw (c_X8_isIn l D a cI cZ f u k 0 (nI n_4 - 1)  ) lk_X8_95 ⟨Nat.le_of_ble_eq_true rfl, Nat.le_of_ble_eq_true rfl⟩ ⟨rfl, rfl⟩ ⟨Nat.zero_le _, Nat.zero_le _⟩ rfl rfl hl.1 (Nat.le_of_ble_eq_true rfl) dX8_isSlot_18) (fun r_5 f_5 u_5 H locs hp_5 hw => ?_)
    obtain ⟨rfl, rfl, e_5⟩ := hp_5
    refine topc e_5 ?_
    refine lv_if_eq (tgt := 28) hx hb dX8_isSlot_21 (by decide) (fun c_6 => ?_) (fun c_6 => ?_)
    · refine lv_iconst (v := 0) hx hb dX8_isSlot_28 (by decide) ?_
      exact retZ cx hw hr hk rfl dX8_isSlot_29 ⟨rfl, rfl, Or.inl rfl⟩
    · obtain ⟨t_6, ht_6, et_6⟩ := rg_idx (c := n_4) (by omega) c_6
      subst et_6
      refine lv_iconst (v := 1) hx hb dX8_isSlot_24 (by decide) ?_
      refine lv_goto (tgt := 29) hx hb dX8_isSlot_25 (by decide) ?_
      exact retZ cx hw hr hk rfl dX8_isSlot_29 ⟨rfl, rfl, Or.inr ⟨rfl, b1_1_j, t_6, b1_1_c, n_4, by omega, by omega, q1_1_2, by omega, by omega, en_4, rfl, rfl⟩⟩

set_option maxHeartbeats 4000000 in
set_option maxRecDepth 100000 in
theorem k_X8_empty (l : Launch) (D : va_G) (a : Nat → Nat) (cI cZ : ClassId) (f : FF) (u : UU) (we : Int32) (ar : Int32) (hi : IV f)  : KI l yX8_empty cX8_empty 3 (some .int) ({ frames := 3, cells := 0, slots := 0, locals := 54 } : Room) D a cI cZ [.ref (a 36), .int we, .int ar] f u (fun r f2 u2 => IV f2 ∧ KK [36] f f2 ∧ r = an_empty we ar) := by
  refine KX.of (by decide) (Nat.le_of_ble_eq_true rfl) ?_
  intro p e s m below meth c cx hw hr hk ls hl
  have cx : Cx p s m _ c cX8_empty RX8 3 D cI cZ := cx
  have hl : lv_has ls 3 [(0, .ref (a 36)), (1, .int we), (2, .int ar)] := hl
  have hx := cx.1.1
  have hb := cx.1.2.1
  refine lv_iload_n hx hb dX8_empty_0 rfl (lv_at hl 1 rfl) ?_
  refine lv_sipush (v := 1000) hx hb dX8_empty_1 (by decide) ?_
  refine lv_ldc (v := 100000) hx hb cx.1.2.2.2.1 (cx.1.2.2.2.2 _ mm_4_146) dX8_empty_4 ?_
  refine goI hw (runSW (As := [.int we, .int 1000, .int 100000]) (rest := []) cx hw (c_X8_isIn l D a cI cZ f u we 1000 100000  ) lk_X8_95 ⟨Nat.le_of_ble_eq_true rfl, Nat.le_of_ble_eq_true rfl⟩ ⟨rfl, rfl⟩ ⟨Nat.zero_le _, Nat.zero_le _⟩ rfl rfl hl.1 (Nat.le_of_ble_eq_true rfl) dX8_empty_6) (fun r_1 f_1 u_1 H locs hp_1 hw => ?_)
  obtain ⟨rfl, rfl, e_1⟩ := hp_1
  refine topc e_1 ?_
  refine lv_if_eq (tgt := 19) hx hb dX8_empty_9 (by decide) (fun c_2 => ?_) (fun c_2 => ?_)
  · refine lv_bipush (v := (-2)) hx hb dX8_empty_19 (by decide) ?_
    exact retI cx hw hr hk dX8_empty_21 ⟨hi, KK.rf, by simp [an_empty, c_2]⟩
  · obtain ⟨t_2, hs_2, ht_2, et_2⟩ := rg_nat2 (a := 1000) (n := 100000) (by omega) rfl c_2
    subst et_2
    refine lv_iload_n hx hb dX8_empty_12 rfl (lv_at hl 2 rfl) ?_
    refine goI hw (runSW (As := [.int ar]) (rest := []) cx hw (c_X8_isArm l D a cI cZ f u ar  ) lk_X8_110 ⟨Nat.le_of_ble_eq_true rfl, Nat.le_of_ble_eq_true rfl⟩ ⟨rfl, rfl⟩ ⟨Nat.zero_le _, Nat.zero_le _⟩ rfl rfl hl.1 (Nat.le_of_ble_eq_true rfl) dX8_empty_13) (fun r_3 f_3 u_3 H locs hp_3 hw => ?_)
    obtain ⟨rfl, rfl, e_3⟩ := hp_3
    refine topc e_3 ?_
    refine lv_if_ne (tgt := 22) hx hb dX8_empty_16 (by decide) (fun c_4 => ?_) (fun c_4 => ?_)
    · obtain ⟨t_4, ht_4, et_4⟩ := rg_nat (n := 5000) rfl c_4
      subst et_4
      refine lv_aload_n hx hb dX8_empty_22 rfl (lv_at hl 0 rfl) ?_
      refine lv_iload_n hx hb dX8_empty_23 rfl (lv_at hl 1 rfl) ?_
      refine pf_X8_15 cx hw dX8_empty_24 (fun H locs hw => ?_)
      have hi_5 : IV (up f 36 (upd (f 36) 1 (nI t_2))) := IV.u_36_1 hi
      refine lv_aload_n hx hb dX8_empty_27 rfl (lv_at hl 0 rfl) ?_
      refine lv_iload_n hx hb dX8_empty_28 rfl (lv_at hl 2 rfl) ?_
      refine pf_X8_113 cx hw dX8_empty_29 (fun H locs hw => ?_)
      have hi_6 : IV (up (up f 36 (upd (f 36) 1 (nI t_2))) 36 (upd ((up f 36 (upd (f 36) 1 (nI t_2))) 36) 2 (nI t_4))) := IV.u_36_2 hi_5
      refine lv_iconst (v := 0) hx hb dX8_empty_32 (by decide) ?_
      exact retI cx hw hr hk dX8_empty_33 ⟨hi_6, (KK.um (by decide) (by decide) (KK.um (by decide) (by decide) KK.rf)), by simp [an_empty, c_2, c_4]⟩
    · refine lv_bipush (v := (-2)) hx hb dX8_empty_19 (by decide) ?_
      exact retI cx hw hr hk dX8_empty_21 ⟨hi, KK.rf, by simp [an_empty, c_2, c_4]⟩

set_option maxHeartbeats 4000000 in
set_option maxRecDepth 100000 in
theorem k_X8_hold (l : Launch) (D : va_G) (a : Nat → Nat) (cI cZ : ClassId) (f : FF) (u : UU) (mo : Int32) (fl : Int32) (hi : IV f)  : KI l yX8_hold cX8_hold 3 (some .int) ({ frames := 2, cells := 0, slots := 0, locals := 34 } : Room) D a cI cZ [.ref (a 36), .int mo, .int fl] f u (fun r f2 u2 => IV f2 ∧ (r, vM f2) = S_hold mo fl (vM f) ∧ KQ f f2) := by
  refine KX.of (by decide) (Nat.le_of_ble_eq_true rfl) ?_
  intro p e s m below meth c cx hw hr hk ls hl
  have cx : Cx p s m _ c cX8_hold RX8 3 D cI cZ := cx
  have hl : lv_has ls 3 [(0, .ref (a 36)), (1, .int mo), (2, .int fl)] := hl
  have hx := cx.1.1
  have hb := cx.1.2.1
  refine lv_iload_n hx hb dX8_hold_0 rfl (lv_at hl 1 rfl) ?_
  refine lv_iconst (v := 0) hx hb dX8_hold_1 (by decide) ?_
  refine lv_sipush (v := 20000) hx hb dX8_hold_2 (by decide) ?_
  refine goI hw (runSW (As := [.int mo, .int 0, .int 20000]) (rest := []) cx hw (c_X8_isIn l D a cI cZ f u mo 0 20000  ) lk_X8_95 ⟨Nat.le_of_ble_eq_true rfl, Nat.le_of_ble_eq_true rfl⟩ ⟨rfl, rfl⟩ ⟨Nat.zero_le _, Nat.zero_le _⟩ rfl rfl hl.1 (Nat.le_of_ble_eq_true rfl) dX8_hold_5) (fun r_1 f_1 u_1 H locs hp_1 hw => ?_)
  obtain ⟨rfl, rfl, e_1⟩ := hp_1
  refine topc e_1 ?_
  refine lv_if_eq (tgt := 22) hx hb dX8_hold_8 (by decide) (fun c_2 => ?_) (fun c_2 => ?_)
  · refine lv_bipush (v := (-2)) hx hb dX8_hold_22 (by decide) ?_
    exact retI cx hw hr hk dX8_hold_24 ⟨hi, ((congrArg (Prod.mk (-2)) (rfl : vM f = (vM f))).trans (show _ = S_hold mo fl (vM f) from (if_pos c_2).symm)), KQ.rf⟩
  · obtain ⟨t_2, ht_2, et_2⟩ := rg_nat (n := 20000) rfl c_2
    subst et_2
    refine lv_iload_n hx hb dX8_hold_11 rfl (lv_at hl 2 rfl) ?_
    refine lv_iconst (v := 0) hx hb dX8_hold_12 (by decide) ?_
    refine lv_sipush (v := 20000) hx hb dX8_hold_13 (by decide) ?_
    refine goI hw (runSW (As := [.int fl, .int 0, .int 20000]) (rest := []) cx hw (c_X8_isIn l D a cI cZ f u fl 0 20000  ) lk_X8_95 ⟨Nat.le_of_ble_eq_true rfl, Nat.le_of_ble_eq_true rfl⟩ ⟨rfl, rfl⟩ ⟨Nat.zero_le _, Nat.zero_le _⟩ rfl rfl hl.1 (Nat.le_of_ble_eq_true rfl) dX8_hold_16) (fun r_3 f_3 u_3 H locs hp_3 hw => ?_)
    obtain ⟨rfl, rfl, e_3⟩ := hp_3
    refine topc e_3 ?_
    refine lv_if_ne (tgt := 25) hx hb dX8_hold_19 (by decide) (fun c_4 => ?_) (fun c_4 => ?_)
    · obtain ⟨t_4, ht_4, et_4⟩ := rg_nat (n := 20000) rfl c_4
      subst et_4
      refine lv_aload_n hx hb dX8_hold_25 rfl (lv_at hl 0 rfl) ?_
      refine gf_X8_99 cx hw dX8_hold_26 ?_
      obtain ⟨n_5, hn_5, en_5⟩ := IV.s_36_3 hi
      refine topc (y := (nI n_5)) en_5 ?_
      refine lv_iconst (v := 4) hx hb dX8_hold_29 (by decide) ?_
      refine lv_icmp_ne (tgt := 36) hx hb dX8_hold_30 (by decide) (fun c_6 => ?_) (fun c_6 => ?_)
      · have c_6 : ¬ n_5 = 4 := fun z => c_6 ((nI_eq (a := n_5) (b := 4) (by omega) (by omega)).mpr z)
        refine lv_aload_n hx hb dX8_hold_36 rfl (lv_at hl 0 rfl) ?_
        refine gf_X8_18 cx hw dX8_hold_37 ?_
        refine lv_aload_n hx hb dX8_hold_40 rfl (lv_at hl 0 rfl) ?_
        refine gf_X8_99 cx hw dX8_hold_41 ?_
        refine topc (y := (nI n_5)) en_5 ?_
        refine lv_iload_n hx hb dX8_hold_44 rfl (lv_at hl 1 rfl) ?_
        refine astN 37 n_5 cx hw rfl ws_37 (by omega) (by decide) dX8_hold_45 (fun H locs hw => ?_)
        have hi_7 : IV (up f 37 (upd (f 37) n_5 (nI t_2))) := IV.wr hi 37 trivial
        refine lv_aload_n hx hb dX8_hold_46 rfl (lv_at hl 0 rfl) ?_
        refine gf_X8_22 cx hw dX8_hold_47 ?_
        refine lv_aload_n hx hb dX8_hold_50 rfl (lv_at hl 0 rfl) ?_
        refine gf_X8_99 cx hw dX8_hold_51 ?_
        refine topc (y := (nI n_5)) en_5 ?_
        refine lv_iload_n hx hb dX8_hold_54 rfl (lv_at hl 2 rfl) ?_
        refine astN 38 n_5 cx hw rfl ws_38 (by omega) (by decide) dX8_hold_55 (fun H locs hw => ?_)
        have hi_8 : IV (up (up f 37 (upd (f 37) n_5 (nI t_2))) 38 (upd ((up f 37 (upd (f 37) n_5 (nI t_2))) 38) n_5 (nI t_4))) := IV.wr hi_7 38 trivial
        refine lv_aload_n hx hb dX8_hold_56 rfl (lv_at hl 0 rfl) ?_
        refine lv_dup hx hb dX8_hold_57 rfl ?_
        refine gf_X8_99 cx hw dX8_hold_58 ?_
        refine topc (y := (nI n_5)) en_5 ?_
        refine lv_iconst (v := 1) hx hb dX8_hold_61 (by decide) ?_
        refine lv_iadd hx hb dX8_hold_62 ?_
        refine topc (y := (nI (n_5 + 1))) (nI_add n_5 1) ?_
        refine pf_X8_99 cx hw dX8_hold_63 (fun H locs hw => ?_)
        have hi_9 : IV (up (up (up f 37 (upd (f 37) n_5 (nI t_2))) 38 (upd ((up f 37 (upd (f 37) n_5 (nI t_2))) 38) n_5 (nI t_4))) 36 (upd ((up (up f 37 (upd (f 37) n_5 (nI t_2))) 38 (upd ((up f 37 (upd (f 37) n_5 (nI t_2))) 38) n_5 (nI t_4))) 36) 3 (nI (n_5 + 1)))) := IV.t_36_3 hi_8 (okc_n (j := (n_5 + 1)) (by omega))
        have vp_10 : vM (up (up (up f 37 (upd (f 37) n_5 (nI t_2))) 38 (upd ((up f 37 (upd (f 37) n_5 (nI t_2))) 38) n_5 (nI t_4))) 36 (upd ((up (up f 37 (upd (f 37) n_5 (nI t_2))) 38 (upd ((up f 37 (upd (f 37) n_5 (nI t_2))) 38) n_5 (nI t_4))) 36) 3 (nI (n_5 + 1)))) = (up (vM f) 0 (upd ((vM f) 0) 0 (nI (n_5 + 1)))) := (vM_s_36_3).trans (congrArg (fun z : FF => up z 0 (upd (z 0) 0 (nI (n_5 + 1)))) (rfl : vM (up (up f 37 (upd (f 37) n_5 (nI t_2))) 38 (upd ((up f 37 (upd (f 37) n_5 (nI t_2))) 38) n_5 (nI t_4))) = (vM f)))
        refine lv_aload_n hx hb dX8_hold_66 rfl (lv_at hl 0 rfl) ?_
        refine gf_X8_99 cx hw dX8_hold_67 ?_
        refine topc (y := (nI (n_5 + 1))) rfl ?_
        refine lv_iconst (v := 1) hx hb dX8_hold_70 (by decide) ?_
        refine lv_isub hx hb dX8_hold_71 ?_
        refine topc (y := (nI n_5)) (nI_pred n_5) ?_
        exact retI cx hw hr hk dX8_hold_72 ⟨hi_9, ((congrArg (Prod.mk (nI n_5)) (vp_10 : vM (up (up (up f 37 (upd (f 37) n_5 (nI t_2))) 38 (upd ((up f 37 (upd (f 37) n_5 (nI t_2))) 38) n_5 (nI t_4))) 36 (upd ((up (up f 37 (upd (f 37) n_5 (nI t_2))) 38 (upd ((up f 37 (upd (f 37) n_5 (nI t_2))) 38) n_5 (nI t_4))) 36) 3 (nI (n_5 + 1)))) = (up (vM f) 0 (upd ((vM f) 0) 0 (nI (n_5 + 1)))))).trans (show _ = S_hold (nI t_2) (nI t_4) (vM f) from ((if_neg c_2).trans ((if_neg c_4).trans (S_cnt_n (k := n_5) (n := 4) en_5 (by omega) (by omega) rfl (by omega)))).symm)), (KQ.wr (by decide) (KQ.wr (by decide) (KQ.wr (by decide) KQ.rf)))⟩
      · have c_6 : n_5 = 4 := (nI_eq (a := n_5) (b := 4) (by omega) (by omega)).mp c_6
        refine lv_bipush (v := (-4)) hx hb dX8_hold_33 (by decide) ?_
        exact retI cx hw hr hk dX8_hold_35 ⟨hi, ((congrArg (Prod.mk (-4)) (rfl : vM f = (vM f))).trans (show _ = S_hold (nI t_2) (nI t_4) (vM f) from ((if_neg c_2).trans ((if_neg c_4).trans (S_cnt_f (k := n_5) (n := 4) en_5 (by omega) rfl (by omega)))).symm)), KQ.rf⟩
    · refine lv_bipush (v := (-2)) hx hb dX8_hold_22 (by decide) ?_
      exact retI cx hw hr hk dX8_hold_24 ⟨hi, ((congrArg (Prod.mk (-2)) (rfl : vM f = (vM f))).trans (show _ = S_hold (nI t_2) fl (vM f) from ((if_neg c_2).trans (if_pos c_4)).symm)), KQ.rf⟩

set_option maxHeartbeats 4000000 in
set_option maxRecDepth 100000 in
theorem k_X8_slot (l : Launch) (D : va_G) (a : Nat → Nat) (cI cZ : ClassId) (f : FF) (u : UU) (h : Int32) (ar : Int32) (mo : Int32) (hi : IV f)  : KI l yX8_slot cX8_slot 5 (some .int) ({ frames := 3, cells := 0, slots := 0, locals := 55 } : Room) D a cI cZ [.ref (a 36), .int h, .int ar, .int mo] f u (fun r f2 u2 => IV f2 ∧ (r, vM f2) = S_slot h ar mo (vM f) ∧ KQ f f2) := by
  refine KX.of (by decide) (Nat.le_of_ble_eq_true rfl) ?_
  intro p e s m below meth c cx hw hr hk ls hl
  have cx : Cx p s m _ c cX8_slot RX8 5 D cI cZ := cx
  have hl : lv_has ls 5 [(0, .ref (a 36)), (1, .int h), (2, .int ar), (3, .int mo)] := hl
  have hx := cx.1.1
  have hb := cx.1.2.1
  refine lv_aload_n hx hb dX8_slot_0 rfl (lv_at hl 0 rfl) ?_
  refine lv_iload_n hx hb dX8_slot_1 rfl (lv_at hl 1 rfl) ?_
  refine goI hw (runVW (k := 36) (As := [.int h]) (rest := []) cx hw (k_X8_isHold l D a cI cZ f u h  hi) lk_X8_102 rfl rfl ⟨Nat.le_of_ble_eq_true rfl, Nat.le_of_ble_eq_true rfl⟩ ⟨rfl, rfl⟩ ⟨Nat.zero_le _, Nat.zero_le _⟩ rfl rfl hl.1 (Nat.le_of_ble_eq_true rfl) dX8_slot_2) (fun r_1 f_1 u_1 H locs hp_1 hw => ?_)
  obtain ⟨rfl, rfl, ha_1⟩ := hp_1
  rcases ha_1 with ⟨er_1, q0_1_0⟩ | ⟨er_1, b1_1_j, b1_1_c, q1_1_0, q1_1_1, q1_1_2, q1_1_3⟩
  · subst er_1
    refine lv_if_ne (tgt := 10) hx hb dX8_slot_5 (by decide) (fun q => absurd (by decide) q) (fun _ => ?_)
    refine lv_iconst (v := (-1)) hx hb dX8_slot_8 (by decide) ?_
    exact retI cx hw hr hk dX8_slot_9 ⟨hi, ((congrArg (Prod.mk (-1)) (rfl : vM f = (vM f))).trans (show _ = S_slot h ar mo (vM f) from (if_pos q0_1_0).symm)), KQ.rf⟩
  · subst er_1
    subst q1_1_3
    refine lv_if_ne (tgt := 10) hx hb dX8_slot_5 (by decide) (fun _ => ?_) (fun q => absurd q (by decide))
    refine lv_aload_n hx hb dX8_slot_10 rfl (lv_at hl 0 rfl) ?_
    refine gf_X8_25 cx hw dX8_slot_11 ?_
    refine lv_iload_n hx hb dX8_slot_14 rfl (lv_at hl 1 rfl) ?_
    refine aldN 39 b1_1_j cx hw rfl (by omega) (by decide) dX8_slot_15 ?_
    obtain ⟨n_4, hn_4, en_4⟩ := IV.a_39 hi (i := b1_1_j) (by omega)
    refine topc (y := (nI n_4)) en_4 ?_
    refine lv_istore (lv' := [(4, .int (nI n_4)), (0, .ref (a 36)), (1, .int (nI b1_1_j)), (2, .int ar), (3, .int mo)]) hx hb dX8_slot_16 hl (by decide) rfl (fun ls hl => ?_)
    refine lv_iload_n hx hb dX8_slot_18 rfl (lv_at hl 3 rfl) ?_
    refine goI hw (runSW (As := [.int ar]) (rest := []) cx hw (c_X8_isArm l D a cI cZ f u ar  ) lk_X8_110 ⟨Nat.le_of_ble_eq_true rfl, Nat.le_of_ble_eq_true rfl⟩ ⟨rfl, rfl⟩ ⟨Nat.zero_le _, Nat.zero_le _⟩ rfl rfl hl.1 (Nat.le_of_ble_eq_true rfl) dX8_slot_19) (fun r_5 f_5 u_5 H locs hp_5 hw => ?_)
    obtain ⟨rfl, rfl, e_5⟩ := hp_5
    refine topc e_5 ?_
    refine lv_if_eq (tgt := 59) hx hb dX8_slot_22 (by decide) (fun c_6 => ?_) (fun c_6 => ?_)
    · refine lv_bipush (v := (-2)) hx hb dX8_slot_59 (by decide) ?_
      exact retI cx hw hr hk dX8_slot_61 ⟨hi, ((congrArg (Prod.mk (-2)) (rfl : vM f = (vM f))).trans (show _ = S_slot (nI b1_1_j) ar mo (vM f) from ((if_neg (by rw [show vM f 0 0 = nI b1_1_c from q1_1_2]; exact rg_yes (by omega) (by omega))).trans ((show S_sl (nI b1_1_j).toNatClampNeg ar mo (vM f) = S_sl b1_1_j ar mo (vM f) by rw [nI_clamp (by omega)]).trans (S_sl_a c_6))).symm)), KQ.rf⟩
    · obtain ⟨t_6, ht_6, et_6⟩ := rg_nat (n := 5000) rfl c_6
      subst et_6
      refine lv_iload_n hx hb dX8_slot_25 rfl (lv_at hl 4 rfl) ?_
      refine lv_iconst (v := 0) hx hb dX8_slot_26 (by decide) ?_
      refine lv_sipush (v := 20000) hx hb dX8_slot_27 (by decide) ?_
      refine goI hw (runSW (As := [.int mo, .int 0, .int 20000]) (rest := []) cx hw (c_X8_isIn l D a cI cZ f u mo 0 20000  ) lk_X8_95 ⟨Nat.le_of_ble_eq_true rfl, Nat.le_of_ble_eq_true rfl⟩ ⟨rfl, rfl⟩ ⟨Nat.zero_le _, Nat.zero_le _⟩ rfl rfl hl.1 (Nat.le_of_ble_eq_true rfl) dX8_slot_30) (fun r_7 f_7 u_7 H locs hp_7 hw => ?_)
      obtain ⟨rfl, rfl, e_7⟩ := hp_7
      refine topc e_7 ?_
      refine lv_if_eq (tgt := 59) hx hb dX8_slot_33 (by decide) (fun c_8 => ?_) (fun c_8 => ?_)
      · refine lv_bipush (v := (-2)) hx hb dX8_slot_59 (by decide) ?_
        exact retI cx hw hr hk dX8_slot_61 ⟨hi, ((congrArg (Prod.mk (-2)) (rfl : vM f = (vM f))).trans (show _ = S_slot (nI b1_1_j) (nI t_6) mo (vM f) from ((if_neg (by rw [show vM f 0 0 = nI b1_1_c from q1_1_2]; exact rg_yes (by omega) (by omega))).trans ((show S_sl (nI b1_1_j).toNatClampNeg (nI t_6) mo (vM f) = S_sl b1_1_j (nI t_6) mo (vM f) by rw [nI_clamp (by omega)]).trans (S_sl_m c_8))).symm)), KQ.rf⟩
      · obtain ⟨t_8, ht_8, et_8⟩ := rg_nat (n := 20000) rfl c_8
        subst et_8
        refine lv_iload hx hb dX8_slot_36 (lv_at hl 0 rfl) ?_
        refine lv_if_le (tgt := 62) hx hb dX8_slot_38 (by decide) (fun c_9 => ?_) (fun c_9 => ?_)
        · have c_9 : n_4 ≤ 0 := (nI_leI (a := n_4) (b := 0) (by omega) (by omega)).mp c_9
          refine lv_iload hx hb dX8_slot_62 (lv_at hl 0 rfl) ?_
          refine lv_bipush (v := 8) hx hb dX8_slot_64 (by decide) ?_
          refine lv_icmp_ne (tgt := 72) hx hb dX8_slot_66 (by decide) (fun c_10 => ?_) (fun c_10 => ?_)
          · have c_10 : ¬ n_4 = 8 := fun z => c_10 ((nI_eq (a := n_4) (b := 8) (by omega) (by omega)).mpr z)
            refine lv_aload_n hx hb dX8_slot_72 rfl (lv_at hl 1 rfl) ?_
            refine gf_X8_28 cx hw dX8_slot_73 ?_
            refine lv_bipush (v := 8) hx hb dX8_slot_76 (by decide) ?_
            refine lv_iload_n hx hb dX8_slot_78 rfl (lv_at hl 2 rfl) ?_
            refine lv_imul hx hb dX8_slot_79 ?_
            refine topc (y := (nI (8 * b1_1_j))) (pk_mul 8 b1_1_j) ?_
            refine lv_iload hx hb dX8_slot_80 (lv_at hl 0 rfl) ?_
            refine lv_iadd hx hb dX8_slot_82 ?_
            refine topc (y := (nI ((8 * b1_1_j) + n_4))) (nI_add (8 * b1_1_j) n_4) ?_
            refine lv_iload_n hx hb dX8_slot_83 rfl (lv_at hl 3 rfl) ?_
            refine astN 40 ((8 * b1_1_j) + n_4) cx hw rfl ws_40 (by omega) (by decide) dX8_slot_84 (fun H locs hw => ?_)
            have hi_11 : IV (up f 40 (upd (f 40) ((8 * b1_1_j) + n_4) (nI t_6))) := IV.wr hi 40 trivial
            have vp_12 : vM (up f 40 (upd (f 40) ((8 * b1_1_j) + n_4) (nI t_6))) = (up (vM f) 8 (upd ((vM f) 8) ((8 * b1_1_j) + n_4) (nI t_6))) := (vM_a_40).trans (congrArg (fun z : FF => up z 8 (upd (z 8) ((8 * b1_1_j) + n_4) (nI t_6))) (rfl : vM f = (vM f)))
            refine lv_aload_n hx hb dX8_slot_85 rfl (lv_at hl 1 rfl) ?_
            refine gf_X8_31 cx hw dX8_slot_86 ?_
            refine lv_bipush (v := 8) hx hb dX8_slot_89 (by decide) ?_
            refine lv_iload_n hx hb dX8_slot_91 rfl (lv_at hl 2 rfl) ?_
            refine lv_imul hx hb dX8_slot_92 ?_
            refine topc (y := (nI (8 * b1_1_j))) (pk_mul 8 b1_1_j) ?_
            refine lv_iload hx hb dX8_slot_93 (lv_at hl 0 rfl) ?_
            refine lv_iadd hx hb dX8_slot_95 ?_
            refine topc (y := (nI ((8 * b1_1_j) + n_4))) (nI_add (8 * b1_1_j) n_4) ?_
            refine lv_iload_n hx hb dX8_slot_96 rfl (lv_at hl 4 rfl) ?_
            refine astN 41 ((8 * b1_1_j) + n_4) cx hw rfl ws_41 (by omega) (by decide) dX8_slot_97 (fun H locs hw => ?_)
            have hi_13 : IV (up (up f 40 (upd (f 40) ((8 * b1_1_j) + n_4) (nI t_6))) 41 (upd ((up f 40 (upd (f 40) ((8 * b1_1_j) + n_4) (nI t_6))) 41) ((8 * b1_1_j) + n_4) (nI t_8))) := IV.wr hi_11 41 trivial
            refine lv_aload_n hx hb dX8_slot_98 rfl (lv_at hl 1 rfl) ?_
            refine gf_X8_25 cx hw dX8_slot_99 ?_
            refine lv_iload_n hx hb dX8_slot_102 rfl (lv_at hl 2 rfl) ?_
            refine lv_dup2_11 hx hb dX8_slot_103 rfl rfl ?_
            refine aldN 39 b1_1_j cx hw rfl (by omega) (by decide) dX8_slot_104 ?_
            refine topc (y := (nI n_4)) en_4 ?_
            refine lv_iconst (v := 1) hx hb dX8_slot_105 (by decide) ?_
            refine lv_iadd hx hb dX8_slot_106 ?_
            refine topc (y := (nI (n_4 + 1))) (nI_add n_4 1) ?_
            refine astN 39 b1_1_j cx hw rfl ws_39 (by omega) (by decide) dX8_slot_107 (fun H locs hw => ?_)
            have hi_14 : IV (up (up (up f 40 (upd (f 40) ((8 * b1_1_j) + n_4) (nI t_6))) 41 (upd ((up f 40 (upd (f 40) ((8 * b1_1_j) + n_4) (nI t_6))) 41) ((8 * b1_1_j) + n_4) (nI t_8))) 39 (upd ((up (up f 40 (upd (f 40) ((8 * b1_1_j) + n_4) (nI t_6))) 41 (upd ((up f 40 (upd (f 40) ((8 * b1_1_j) + n_4) (nI t_6))) 41) ((8 * b1_1_j) + n_4) (nI t_8))) 39) b1_1_j (nI (n_4 + 1)))) := IV.b_39 hi_13 (okc_n (j := (n_4 + 1)) (by omega))
            have vp_15 : vM (up (up (up f 40 (upd (f 40) ((8 * b1_1_j) + n_4) (nI t_6))) 41 (upd ((up f 40 (upd (f 40) ((8 * b1_1_j) + n_4) (nI t_6))) 41) ((8 * b1_1_j) + n_4) (nI t_8))) 39 (upd ((up (up f 40 (upd (f 40) ((8 * b1_1_j) + n_4) (nI t_6))) 41 (upd ((up f 40 (upd (f 40) ((8 * b1_1_j) + n_4) (nI t_6))) 41) ((8 * b1_1_j) + n_4) (nI t_8))) 39) b1_1_j (nI (n_4 + 1)))) = (up (up (vM f) 8 (upd ((vM f) 8) ((8 * b1_1_j) + n_4) (nI t_6))) 7 (upd ((up (vM f) 8 (upd ((vM f) 8) ((8 * b1_1_j) + n_4) (nI t_6))) 7) b1_1_j (nI (n_4 + 1)))) := (vM_a_39).trans (congrArg (fun z : FF => up z 7 (upd (z 7) b1_1_j (nI (n_4 + 1)))) (vp_12 : vM (up (up f 40 (upd (f 40) ((8 * b1_1_j) + n_4) (nI t_6))) 41 (upd ((up f 40 (upd (f 40) ((8 * b1_1_j) + n_4) (nI t_6))) 41) ((8 * b1_1_j) + n_4) (nI t_8))) = (up (vM f) 8 (upd ((vM f) 8) ((8 * b1_1_j) + n_4) (nI t_6)))))
            refine lv_iload hx hb dX8_slot_108 (lv_at hl 0 rfl) ?_
            exact retI cx hw hr hk dX8_slot_110 ⟨hi_14, ((congrArg (Prod.mk (nI n_4)) (vp_15 : vM (up (up (up f 40 (upd (f 40) ((8 * b1_1_j) + n_4) (nI t_6))) 41 (upd ((up f 40 (upd (f 40) ((8 * b1_1_j) + n_4) (nI t_6))) 41) ((8 * b1_1_j) + n_4) (nI t_8))) 39 (upd ((up (up f 40 (upd (f 40) ((8 * b1_1_j) + n_4) (nI t_6))) 41 (upd ((up f 40 (upd (f 40) ((8 * b1_1_j) + n_4) (nI t_6))) 41) ((8 * b1_1_j) + n_4) (nI t_8))) 39) b1_1_j (nI (n_4 + 1)))) = (up (up (vM f) 8 (upd ((vM f) 8) ((8 * b1_1_j) + n_4) (nI t_6))) 7 (upd ((up (vM f) 8 (upd ((vM f) 8) ((8 * b1_1_j) + n_4) (nI t_6))) 7) b1_1_j (nI (n_4 + 1)))))).trans (show _ = S_slot (nI b1_1_j) (nI t_6) (nI t_8) (vM f) from ((if_neg (by rw [show vM f 0 0 = nI b1_1_c from q1_1_2]; exact rg_yes (by omega) (by omega))).trans ((show S_sl (nI b1_1_j).toNatClampNeg (nI t_6) (nI t_8) (vM f) = S_sl b1_1_j (nI t_6) (nI t_8) (vM f) by rw [nI_clamp (by omega)]).trans ((S_sl_ok (n := n_4) en_4 (by omega) c_6 c_8 (Or.inl (by omega))).trans (((S_add_n (k := n_4) en_4 (by omega) (by omega)).trans (by rw [Nat.mul_comm b1_1_j 8]; first | done | rfl)))))).symm)), (KQ.wr (by decide) (KQ.wr (by decide) (KQ.wr (by decide) KQ.rf)))⟩
          · have c_10 : n_4 = 8 := (nI_eq (a := n_4) (b := 8) (by omega) (by omega)).mp c_10
            refine lv_bipush (v := (-4)) hx hb dX8_slot_69 (by decide) ?_
            exact retI cx hw hr hk dX8_slot_71 ⟨hi, ((congrArg (Prod.mk (-4)) (rfl : vM f = (vM f))).trans (show _ = S_slot (nI b1_1_j) (nI t_6) (nI t_8) (vM f) from ((if_neg (by rw [show vM f 0 0 = nI b1_1_c from q1_1_2]; exact rg_yes (by omega) (by omega))).trans ((show S_sl (nI b1_1_j).toNatClampNeg (nI t_6) (nI t_8) (vM f) = S_sl b1_1_j (nI t_6) (nI t_8) (vM f) by rw [nI_clamp (by omega)]).trans ((S_sl_ok (n := n_4) en_4 (by omega) c_6 c_8 (Or.inl (by omega))).trans (S_add_f (k := n_4) en_4 (by omega))))).symm)), KQ.rf⟩
        · have c_9 : ¬ n_4 ≤ 0 := fun z => c_9 ((nI_leI (a := n_4) (b := 0) (by omega) (by omega)).mpr z)
          refine lv_iload_n hx hb dX8_slot_41 rfl (lv_at hl 3 rfl) ?_
          refine lv_aload_n hx hb dX8_slot_42 rfl (lv_at hl 1 rfl) ?_
          refine gf_X8_28 cx hw dX8_slot_43 ?_
          refine lv_bipush (v := 8) hx hb dX8_slot_46 (by decide) ?_
          refine lv_iload_n hx hb dX8_slot_48 rfl (lv_at hl 2 rfl) ?_
          refine lv_imul hx hb dX8_slot_49 ?_
          refine topc (y := (nI (8 * b1_1_j))) (pk_mul 8 b1_1_j) ?_
          refine lv_iload hx hb dX8_slot_50 (lv_at hl 0 rfl) ?_
          refine lv_iadd hx hb dX8_slot_52 ?_
          refine topc (y := (nI ((8 * b1_1_j) + n_4))) (nI_add (8 * b1_1_j) n_4) ?_
          refine lv_iconst (v := 1) hx hb dX8_slot_53 (by decide) ?_
          refine lv_isub hx hb dX8_slot_54 ?_
          refine topc (y := (nI (((8 * b1_1_j) + n_4) - 1))) (pk_sub (a := ((8 * b1_1_j) + n_4)) (b := 1) (by omega)) ?_
          refine aldN 40 (((8 * b1_1_j) + n_4) - 1) cx hw rfl (by omega) (by decide) dX8_slot_55 ?_
          refine lv_icmp_gt (tgt := 62) hx hb dX8_slot_56 (by decide) (fun c_16 => ?_) (fun c_16 => ?_)
          · refine lv_iload hx hb dX8_slot_62 (lv_at hl 0 rfl) ?_
            refine lv_bipush (v := 8) hx hb dX8_slot_64 (by decide) ?_
            refine lv_icmp_ne (tgt := 72) hx hb dX8_slot_66 (by decide) (fun c_17 => ?_) (fun c_17 => ?_)
            · have c_17 : ¬ n_4 = 8 := fun z => c_17 ((nI_eq (a := n_4) (b := 8) (by omega) (by omega)).mpr z)
              refine lv_aload_n hx hb dX8_slot_72 rfl (lv_at hl 1 rfl) ?_
              refine gf_X8_28 cx hw dX8_slot_73 ?_
              refine lv_bipush (v := 8) hx hb dX8_slot_76 (by decide) ?_
              refine lv_iload_n hx hb dX8_slot_78 rfl (lv_at hl 2 rfl) ?_
              refine lv_imul hx hb dX8_slot_79 ?_
              refine topc (y := (nI (8 * b1_1_j))) (pk_mul 8 b1_1_j) ?_
              refine lv_iload hx hb dX8_slot_80 (lv_at hl 0 rfl) ?_
              refine lv_iadd hx hb dX8_slot_82 ?_
              refine topc (y := (nI ((8 * b1_1_j) + n_4))) (nI_add (8 * b1_1_j) n_4) ?_
              refine lv_iload_n hx hb dX8_slot_83 rfl (lv_at hl 3 rfl) ?_
              refine astN 40 ((8 * b1_1_j) + n_4) cx hw rfl ws_40 (by omega) (by decide) dX8_slot_84 (fun H locs hw => ?_)
              have hi_18 : IV (up f 40 (upd (f 40) ((8 * b1_1_j) + n_4) (nI t_6))) := IV.wr hi 40 trivial
              have vp_19 : vM (up f 40 (upd (f 40) ((8 * b1_1_j) + n_4) (nI t_6))) = (up (vM f) 8 (upd ((vM f) 8) ((8 * b1_1_j) + n_4) (nI t_6))) := (vM_a_40).trans (congrArg (fun z : FF => up z 8 (upd (z 8) ((8 * b1_1_j) + n_4) (nI t_6))) (rfl : vM f = (vM f)))
              refine lv_aload_n hx hb dX8_slot_85 rfl (lv_at hl 1 rfl) ?_
              refine gf_X8_31 cx hw dX8_slot_86 ?_
              refine lv_bipush (v := 8) hx hb dX8_slot_89 (by decide) ?_
              refine lv_iload_n hx hb dX8_slot_91 rfl (lv_at hl 2 rfl) ?_
              refine lv_imul hx hb dX8_slot_92 ?_
              refine topc (y := (nI (8 * b1_1_j))) (pk_mul 8 b1_1_j) ?_
              refine lv_iload hx hb dX8_slot_93 (lv_at hl 0 rfl) ?_
              refine lv_iadd hx hb dX8_slot_95 ?_
              refine topc (y := (nI ((8 * b1_1_j) + n_4))) (nI_add (8 * b1_1_j) n_4) ?_
              refine lv_iload_n hx hb dX8_slot_96 rfl (lv_at hl 4 rfl) ?_
              refine astN 41 ((8 * b1_1_j) + n_4) cx hw rfl ws_41 (by omega) (by decide) dX8_slot_97 (fun H locs hw => ?_)
              have hi_20 : IV (up (up f 40 (upd (f 40) ((8 * b1_1_j) + n_4) (nI t_6))) 41 (upd ((up f 40 (upd (f 40) ((8 * b1_1_j) + n_4) (nI t_6))) 41) ((8 * b1_1_j) + n_4) (nI t_8))) := IV.wr hi_18 41 trivial
              refine lv_aload_n hx hb dX8_slot_98 rfl (lv_at hl 1 rfl) ?_
              refine gf_X8_25 cx hw dX8_slot_99 ?_
              refine lv_iload_n hx hb dX8_slot_102 rfl (lv_at hl 2 rfl) ?_
              refine lv_dup2_11 hx hb dX8_slot_103 rfl rfl ?_
              refine aldN 39 b1_1_j cx hw rfl (by omega) (by decide) dX8_slot_104 ?_
              refine topc (y := (nI n_4)) en_4 ?_
              refine lv_iconst (v := 1) hx hb dX8_slot_105 (by decide) ?_
              refine lv_iadd hx hb dX8_slot_106 ?_
              refine topc (y := (nI (n_4 + 1))) (nI_add n_4 1) ?_
              refine astN 39 b1_1_j cx hw rfl ws_39 (by omega) (by decide) dX8_slot_107 (fun H locs hw => ?_)
              have hi_21 : IV (up (up (up f 40 (upd (f 40) ((8 * b1_1_j) + n_4) (nI t_6))) 41 (upd ((up f 40 (upd (f 40) ((8 * b1_1_j) + n_4) (nI t_6))) 41) ((8 * b1_1_j) + n_4) (nI t_8))) 39 (upd ((up (up f 40 (upd (f 40) ((8 * b1_1_j) + n_4) (nI t_6))) 41 (upd ((up f 40 (upd (f 40) ((8 * b1_1_j) + n_4) (nI t_6))) 41) ((8 * b1_1_j) + n_4) (nI t_8))) 39) b1_1_j (nI (n_4 + 1)))) := IV.b_39 hi_20 (okc_n (j := (n_4 + 1)) (by omega))
              have vp_22 : vM (up (up (up f 40 (upd (f 40) ((8 * b1_1_j) + n_4) (nI t_6))) 41 (upd ((up f 40 (upd (f 40) ((8 * b1_1_j) + n_4) (nI t_6))) 41) ((8 * b1_1_j) + n_4) (nI t_8))) 39 (upd ((up (up f 40 (upd (f 40) ((8 * b1_1_j) + n_4) (nI t_6))) 41 (upd ((up f 40 (upd (f 40) ((8 * b1_1_j) + n_4) (nI t_6))) 41) ((8 * b1_1_j) + n_4) (nI t_8))) 39) b1_1_j (nI (n_4 + 1)))) = (up (up (vM f) 8 (upd ((vM f) 8) ((8 * b1_1_j) + n_4) (nI t_6))) 7 (upd ((up (vM f) 8 (upd ((vM f) 8) ((8 * b1_1_j) + n_4) (nI t_6))) 7) b1_1_j (nI (n_4 + 1)))) := (vM_a_39).trans (congrArg (fun z : FF => up z 7 (upd (z 7) b1_1_j (nI (n_4 + 1)))) (vp_19 : vM (up (up f 40 (upd (f 40) ((8 * b1_1_j) + n_4) (nI t_6))) 41 (upd ((up f 40 (upd (f 40) ((8 * b1_1_j) + n_4) (nI t_6))) 41) ((8 * b1_1_j) + n_4) (nI t_8))) = (up (vM f) 8 (upd ((vM f) 8) ((8 * b1_1_j) + n_4) (nI t_6)))))
              refine lv_iload hx hb dX8_slot_108 (lv_at hl 0 rfl) ?_
              exact retI cx hw hr hk dX8_slot_110 ⟨hi_21, ((congrArg (Prod.mk (nI n_4)) (vp_22 : vM (up (up (up f 40 (upd (f 40) ((8 * b1_1_j) + n_4) (nI t_6))) 41 (upd ((up f 40 (upd (f 40) ((8 * b1_1_j) + n_4) (nI t_6))) 41) ((8 * b1_1_j) + n_4) (nI t_8))) 39 (upd ((up (up f 40 (upd (f 40) ((8 * b1_1_j) + n_4) (nI t_6))) 41 (upd ((up f 40 (upd (f 40) ((8 * b1_1_j) + n_4) (nI t_6))) 41) ((8 * b1_1_j) + n_4) (nI t_8))) 39) b1_1_j (nI (n_4 + 1)))) = (up (up (vM f) 8 (upd ((vM f) 8) ((8 * b1_1_j) + n_4) (nI t_6))) 7 (upd ((up (vM f) 8 (upd ((vM f) 8) ((8 * b1_1_j) + n_4) (nI t_6))) 7) b1_1_j (nI (n_4 + 1)))))).trans (show _ = S_slot (nI b1_1_j) (nI t_6) (nI t_8) (vM f) from ((if_neg (by rw [show vM f 0 0 = nI b1_1_c from q1_1_2]; exact rg_yes (by omega) (by omega))).trans ((show S_sl (nI b1_1_j).toNatClampNeg (nI t_6) (nI t_8) (vM f) = S_sl b1_1_j (nI t_6) (nI t_8) (vM f) by rw [nI_clamp (by omega)]).trans ((S_sl_ok (n := n_4) en_4 (by omega) c_6 c_8 (Or.inr (fun z => (Int32.not_le.mpr c_16) (by rw [show 8 * b1_1_j + n_4 - 1 = b1_1_j * 8 + (n_4 - 1) by omega]; exact z)))).trans (((S_add_n (k := n_4) en_4 (by omega) (by omega)).trans (by rw [Nat.mul_comm b1_1_j 8]; first | done | rfl)))))).symm)), (KQ.wr (by decide) (KQ.wr (by decide) (KQ.wr (by decide) KQ.rf)))⟩
            · have c_17 : n_4 = 8 := (nI_eq (a := n_4) (b := 8) (by omega) (by omega)).mp c_17
              refine lv_bipush (v := (-4)) hx hb dX8_slot_69 (by decide) ?_
              exact retI cx hw hr hk dX8_slot_71 ⟨hi, ((congrArg (Prod.mk (-4)) (rfl : vM f = (vM f))).trans (show _ = S_slot (nI b1_1_j) (nI t_6) (nI t_8) (vM f) from ((if_neg (by rw [show vM f 0 0 = nI b1_1_c from q1_1_2]; exact rg_yes (by omega) (by omega))).trans ((show S_sl (nI b1_1_j).toNatClampNeg (nI t_6) (nI t_8) (vM f) = S_sl b1_1_j (nI t_6) (nI t_8) (vM f) by rw [nI_clamp (by omega)]).trans ((S_sl_ok (n := n_4) en_4 (by omega) c_6 c_8 (Or.inr (fun z => (Int32.not_le.mpr c_16) (by rw [show 8 * b1_1_j + n_4 - 1 = b1_1_j * 8 + (n_4 - 1) by omega]; exact z)))).trans (S_add_f (k := n_4) en_4 (by omega))))).symm)), KQ.rf⟩
          · refine lv_bipush (v := (-2)) hx hb dX8_slot_59 (by decide) ?_
            exact retI cx hw hr hk dX8_slot_61 ⟨hi, ((congrArg (Prod.mk (-2)) (rfl : vM f = (vM f))).trans (show _ = S_slot (nI b1_1_j) (nI t_6) (nI t_8) (vM f) from ((if_neg (by rw [show vM f 0 0 = nI b1_1_c from q1_1_2]; exact rg_yes (by omega) (by omega))).trans ((show S_sl (nI b1_1_j).toNatClampNeg (nI t_6) (nI t_8) (vM f) = S_sl b1_1_j (nI t_6) (nI t_8) (vM f) by rw [nI_clamp (by omega)]).trans (S_sl_l (n := n_4) en_4 (by omega) (by omega) rfl (by have z := Int32.not_lt.mp c_16; rw [show 8 * b1_1_j + n_4 - 1 = b1_1_j * 8 + (n_4 - 1) by omega] at z; exact z)))).symm)), KQ.rf⟩

set_option maxHeartbeats 4000000 in
set_option maxRecDepth 100000 in
theorem k_X8_apart (l : Launch) (D : va_G) (a : Nat → Nat) (cI cZ : ClassId) (f : FF) (u : UU) (x : Int32) (y : Int32) (d : Int32) (hi : IV f)  : KI l yX8_apart cX8_apart 5 (some .int) ({ frames := 2, cells := 0, slots := 0, locals := 34 } : Room) D a cI cZ [.ref (a 36), .int x, .int y, .int d] f u (fun r f2 u2 => IV f2 ∧ (r, vM f2) = S_apart x y d (vM f) ∧ KQ f f2) := by
  refine KX.of (by decide) (Nat.le_of_ble_eq_true rfl) ?_
  intro p e s m below meth c cx hw hr hk ls hl
  have cx : Cx p s m _ c cX8_apart RX8 5 D cI cZ := cx
  have hl : lv_has ls 5 [(0, .ref (a 36)), (1, .int x), (2, .int y), (3, .int d)] := hl
  have hx := cx.1.1
  have hb := cx.1.2.1
  refine lv_iload_n hx hb dX8_apart_0 rfl (lv_at hl 1 rfl) ?_
  refine lv_iconst (v := 0) hx hb dX8_apart_1 (by decide) ?_
  refine lv_bipush (v := 7) hx hb dX8_apart_2 (by decide) ?_
  refine goI hw (runSW (As := [.int x, .int 0, .int 7]) (rest := []) cx hw (c_X8_isIn l D a cI cZ f u x 0 7  ) lk_X8_95 ⟨Nat.le_of_ble_eq_true rfl, Nat.le_of_ble_eq_true rfl⟩ ⟨rfl, rfl⟩ ⟨Nat.zero_le _, Nat.zero_le _⟩ rfl rfl hl.1 (Nat.le_of_ble_eq_true rfl) dX8_apart_4) (fun r_1 f_1 u_1 H locs hp_1 hw => ?_)
  obtain ⟨rfl, rfl, e_1⟩ := hp_1
  refine topc e_1 ?_
  refine lv_if_eq (tgt := 20) hx hb dX8_apart_7 (by decide) (fun c_2 => ?_) (fun c_2 => ?_)
  · refine lv_iconst (v := (-1)) hx hb dX8_apart_20 (by decide) ?_
    exact retI cx hw hr hk dX8_apart_21 ⟨hi, ((congrArg (Prod.mk (-1)) (rfl : vM f = (vM f))).trans (show _ = S_apart x y d (vM f) from (if_pos c_2).symm)), KQ.rf⟩
  · obtain ⟨t_2, ht_2, et_2⟩ := rg_nat (n := 7) rfl c_2
    subst et_2
    refine lv_iload_n hx hb dX8_apart_10 rfl (lv_at hl 2 rfl) ?_
    refine lv_iconst (v := 0) hx hb dX8_apart_11 (by decide) ?_
    refine lv_bipush (v := 7) hx hb dX8_apart_12 (by decide) ?_
    refine goI hw (runSW (As := [.int y, .int 0, .int 7]) (rest := []) cx hw (c_X8_isIn l D a cI cZ f u y 0 7  ) lk_X8_95 ⟨Nat.le_of_ble_eq_true rfl, Nat.le_of_ble_eq_true rfl⟩ ⟨rfl, rfl⟩ ⟨Nat.zero_le _, Nat.zero_le _⟩ rfl rfl hl.1 (Nat.le_of_ble_eq_true rfl) dX8_apart_14) (fun r_3 f_3 u_3 H locs hp_3 hw => ?_)
    obtain ⟨rfl, rfl, e_3⟩ := hp_3
    refine topc e_3 ?_
    refine lv_if_ne (tgt := 22) hx hb dX8_apart_17 (by decide) (fun c_4 => ?_) (fun c_4 => ?_)
    · obtain ⟨t_4, ht_4, et_4⟩ := rg_nat (n := 7) rfl c_4
      subst et_4
      refine lv_iload_n hx hb dX8_apart_22 rfl (lv_at hl 3 rfl) ?_
      refine lv_iconst (v := 0) hx hb dX8_apart_23 (by decide) ?_
      refine lv_bipush (v := 8) hx hb dX8_apart_24 (by decide) ?_
      refine goI hw (runSW (As := [.int d, .int 0, .int 8]) (rest := []) cx hw (c_X8_isIn l D a cI cZ f u d 0 8  ) lk_X8_95 ⟨Nat.le_of_ble_eq_true rfl, Nat.le_of_ble_eq_true rfl⟩ ⟨rfl, rfl⟩ ⟨Nat.zero_le _, Nat.zero_le _⟩ rfl rfl hl.1 (Nat.le_of_ble_eq_true rfl) dX8_apart_26) (fun r_5 f_5 u_5 H locs hp_5 hw => ?_)
      obtain ⟨rfl, rfl, e_5⟩ := hp_5
      refine topc e_5 ?_
      refine lv_if_ne (tgt := 35) hx hb dX8_apart_29 (by decide) (fun c_6 => ?_) (fun c_6 => ?_)
      · obtain ⟨t_6, ht_6, et_6⟩ := rg_nat (n := 8) rfl c_6
        subst et_6
        refine lv_aload_n hx hb dX8_apart_35 rfl (lv_at hl 0 rfl) ?_
        refine gf_X8_37 cx hw dX8_apart_36 ?_
        refine lv_bipush (v := 8) hx hb dX8_apart_39 (by decide) ?_
        refine lv_iload_n hx hb dX8_apart_41 rfl (lv_at hl 1 rfl) ?_
        refine lv_imul hx hb dX8_apart_42 ?_
        refine topc (y := (nI (8 * t_2))) (pk_mul 8 t_2) ?_
        refine lv_iload_n hx hb dX8_apart_43 rfl (lv_at hl 2 rfl) ?_
        refine lv_iadd hx hb dX8_apart_44 ?_
        refine topc (y := (nI ((8 * t_2) + t_4))) (nI_add (8 * t_2) t_4) ?_
        refine aldN 43 ((8 * t_2) + t_4) cx hw rfl (by omega) (by decide) dX8_apart_45 ?_
        refine lv_istore (lv' := [(4, .int (f 43 ((8 * t_2) + t_4))), (0, .ref (a 36)), (1, .int (nI t_2)), (2, .int (nI t_4)), (3, .int (nI t_6))]) hx hb dX8_apart_46 hl (by decide) rfl (fun ls hl => ?_)
        refine lv_aload_n hx hb dX8_apart_48 rfl (lv_at hl 1 rfl) ?_
        refine gf_X8_37 cx hw dX8_apart_49 ?_
        refine lv_bipush (v := 8) hx hb dX8_apart_52 (by decide) ?_
        refine lv_iload_n hx hb dX8_apart_54 rfl (lv_at hl 2 rfl) ?_
        refine lv_imul hx hb dX8_apart_55 ?_
        refine topc (y := (nI (8 * t_2))) (pk_mul 8 t_2) ?_
        refine lv_iload_n hx hb dX8_apart_56 rfl (lv_at hl 3 rfl) ?_
        refine lv_iadd hx hb dX8_apart_57 ?_
        refine topc (y := (nI ((8 * t_2) + t_4))) (nI_add (8 * t_2) t_4) ?_
        refine lv_iload_n hx hb dX8_apart_58 rfl (lv_at hl 4 rfl) ?_
        refine astN 43 ((8 * t_2) + t_4) cx hw rfl ws_43 (by omega) (by decide) dX8_apart_59 (fun H locs hw => ?_)
        have hi_7 : IV (up f 43 (upd (f 43) ((8 * t_2) + t_4) (nI t_6))) := IV.wr hi 43 trivial
        have vp_8 : vM (up f 43 (upd (f 43) ((8 * t_2) + t_4) (nI t_6))) = (up (vM f) 1 (upd ((vM f) 1) ((8 * t_2) + t_4) (nI t_6))) := (vM_a_43).trans (congrArg (fun z : FF => up z 1 (upd (z 1) ((8 * t_2) + t_4) (nI t_6))) (rfl : vM f = (vM f)))
        refine lv_aload_n hx hb dX8_apart_60 rfl (lv_at hl 1 rfl) ?_
        refine gf_X8_37 cx hw dX8_apart_61 ?_
        refine lv_bipush (v := 8) hx hb dX8_apart_64 (by decide) ?_
        refine lv_iload_n hx hb dX8_apart_66 rfl (lv_at hl 3 rfl) ?_
        refine lv_imul hx hb dX8_apart_67 ?_
        refine topc (y := (nI (8 * t_4))) (pk_mul 8 t_4) ?_
        refine lv_iload_n hx hb dX8_apart_68 rfl (lv_at hl 2 rfl) ?_
        refine lv_iadd hx hb dX8_apart_69 ?_
        refine topc (y := (nI ((8 * t_4) + t_2))) (nI_add (8 * t_4) t_2) ?_
        refine lv_iload_n hx hb dX8_apart_70 rfl (lv_at hl 4 rfl) ?_
        refine astN 43 ((8 * t_4) + t_2) cx hw rfl ws_43 (by omega) (by decide) dX8_apart_71 (fun H locs hw => ?_)
        have hi_9 : IV (up (up f 43 (upd (f 43) ((8 * t_2) + t_4) (nI t_6))) 43 (upd ((up f 43 (upd (f 43) ((8 * t_2) + t_4) (nI t_6))) 43) ((8 * t_4) + t_2) (nI t_6))) := IV.wr hi_7 43 trivial
        have vp_10 : vM (up (up f 43 (upd (f 43) ((8 * t_2) + t_4) (nI t_6))) 43 (upd ((up f 43 (upd (f 43) ((8 * t_2) + t_4) (nI t_6))) 43) ((8 * t_4) + t_2) (nI t_6))) = (up (up (vM f) 1 (upd ((vM f) 1) ((8 * t_2) + t_4) (nI t_6))) 1 (upd ((up (vM f) 1 (upd ((vM f) 1) ((8 * t_2) + t_4) (nI t_6))) 1) ((8 * t_4) + t_2) (nI t_6))) := (vM_a_43).trans (congrArg (fun z : FF => up z 1 (upd (z 1) ((8 * t_4) + t_2) (nI t_6))) (vp_8 : vM (up f 43 (upd (f 43) ((8 * t_2) + t_4) (nI t_6))) = (up (vM f) 1 (upd ((vM f) 1) ((8 * t_2) + t_4) (nI t_6)))))
        refine lv_iload hx hb dX8_apart_72 (lv_at hl 0 rfl) ?_
        exact retI cx hw hr hk dX8_apart_74 ⟨hi_9, ((congrArg (Prod.mk (f 43 ((8 * t_2) + t_4))) (vp_10 : vM (up (up f 43 (upd (f 43) ((8 * t_2) + t_4) (nI t_6))) 43 (upd ((up f 43 (upd (f 43) ((8 * t_2) + t_4) (nI t_6))) 43) ((8 * t_4) + t_2) (nI t_6))) = (up (up (vM f) 1 (upd ((vM f) 1) ((8 * t_2) + t_4) (nI t_6))) 1 (upd ((up (vM f) 1 (upd ((vM f) 1) ((8 * t_2) + t_4) (nI t_6))) 1) ((8 * t_4) + t_2) (nI t_6))))).trans (show _ = S_apart (nI t_2) (nI t_4) (nI t_6) (vM f) from ((if_neg c_2).trans ((if_neg c_4).trans ((if_neg c_6).trans (by rw [nI_clamp (by omega), nI_clamp (by omega), S_ap, Nat.mul_comm t_2 8, Nat.mul_comm t_4 8]; first | done | rfl)))).symm)), (KQ.wr (by decide) (KQ.wr (by decide) KQ.rf))⟩
      · refine lv_bipush (v := (-2)) hx hb dX8_apart_32 (by decide) ?_
        exact retI cx hw hr hk dX8_apart_34 ⟨hi, ((congrArg (Prod.mk (-2)) (rfl : vM f = (vM f))).trans (show _ = S_apart (nI t_2) (nI t_4) d (vM f) from ((if_neg c_2).trans ((if_neg c_4).trans (if_pos c_6))).symm)), KQ.rf⟩
    · refine lv_iconst (v := (-1)) hx hb dX8_apart_20 (by decide) ?_
      exact retI cx hw hr hk dX8_apart_21 ⟨hi, ((congrArg (Prod.mk (-1)) (rfl : vM f = (vM f))).trans (show _ = S_apart (nI t_2) y d (vM f) from ((if_neg c_2).trans (if_pos c_4)).symm)), KQ.rf⟩

set_option maxHeartbeats 4000000 in
set_option maxRecDepth 100000 in
theorem k_X8_item (l : Launch) (D : va_G) (a : Nat → Nat) (cI cZ : ClassId) (f : FF) (u : UU) (we : Int32) (ki : Int32) (sp : Int32) (hi : IV f)  : KI l yX8_item cX8_item 4 (some .int) ({ frames := 2, cells := 0, slots := 0, locals := 34 } : Room) D a cI cZ [.ref (a 36), .int we, .int ki, .int sp] f u (fun r f2 u2 => IV f2 ∧ (r, vM f2) = S_item we ki sp (vM f) ∧ KQ f f2) := by
  refine KX.of (by decide) (Nat.le_of_ble_eq_true rfl) ?_
  intro p e s m below meth c cx hw hr hk ls hl
  have cx : Cx p s m _ c cX8_item RX8 4 D cI cZ := cx
  have hl : lv_has ls 4 [(0, .ref (a 36)), (1, .int we), (2, .int ki), (3, .int sp)] := hl
  have hx := cx.1.1
  have hb := cx.1.2.1
  refine lv_iload_n hx hb dX8_item_0 rfl (lv_at hl 1 rfl) ?_
  refine lv_iconst (v := 1) hx hb dX8_item_1 (by decide) ?_
  refine lv_sipush (v := 5000) hx hb dX8_item_2 (by decide) ?_
  refine goI hw (runSW (As := [.int we, .int 1, .int 5000]) (rest := []) cx hw (c_X8_isIn l D a cI cZ f u we 1 5000  ) lk_X8_95 ⟨Nat.le_of_ble_eq_true rfl, Nat.le_of_ble_eq_true rfl⟩ ⟨rfl, rfl⟩ ⟨Nat.zero_le _, Nat.zero_le _⟩ rfl rfl hl.1 (Nat.le_of_ble_eq_true rfl) dX8_item_5) (fun r_1 f_1 u_1 H locs hp_1 hw => ?_)
  obtain ⟨rfl, rfl, e_1⟩ := hp_1
  refine topc e_1 ?_
  refine lv_if_ne (tgt := 14) hx hb dX8_item_8 (by decide) (fun c_2 => ?_) (fun c_2 => ?_)
  · obtain ⟨t_2, hs_2, ht_2, et_2⟩ := rg_nat2 (a := 1) (n := 5000) (by omega) rfl c_2
    subst et_2
    refine lv_iload_n hx hb dX8_item_14 rfl (lv_at hl 2 rfl) ?_
    refine lv_iconst (v := 0) hx hb dX8_item_15 (by decide) ?_
    refine lv_bipush (v := 7) hx hb dX8_item_16 (by decide) ?_
    refine goI hw (runSW (As := [.int ki, .int 0, .int 7]) (rest := []) cx hw (c_X8_isIn l D a cI cZ f u ki 0 7  ) lk_X8_95 ⟨Nat.le_of_ble_eq_true rfl, Nat.le_of_ble_eq_true rfl⟩ ⟨rfl, rfl⟩ ⟨Nat.zero_le _, Nat.zero_le _⟩ rfl rfl hl.1 (Nat.le_of_ble_eq_true rfl) dX8_item_18) (fun r_3 f_3 u_3 H locs hp_3 hw => ?_)
    obtain ⟨rfl, rfl, e_3⟩ := hp_3
    refine topc e_3 ?_
    refine lv_if_eq (tgt := 33) hx hb dX8_item_21 (by decide) (fun c_4 => ?_) (fun c_4 => ?_)
    · refine lv_iconst (v := (-1)) hx hb dX8_item_33 (by decide) ?_
      exact retI cx hw hr hk dX8_item_34 ⟨hi, ((congrArg (Prod.mk (-1)) (rfl : vM f = (vM f))).trans (show _ = S_item (nI t_2) ki sp (vM f) from ((if_neg c_2).trans (if_pos c_4)).symm)), KQ.rf⟩
    · obtain ⟨t_4, ht_4, et_4⟩ := rg_nat (n := 7) rfl c_4
      subst et_4
      refine lv_iload_n hx hb dX8_item_24 rfl (lv_at hl 3 rfl) ?_
      refine lv_iconst (v := 1) hx hb dX8_item_25 (by decide) ?_
      refine lv_iconst (v := 4) hx hb dX8_item_26 (by decide) ?_
      refine goI hw (runSW (As := [.int sp, .int 1, .int 4]) (rest := []) cx hw (c_X8_isIn l D a cI cZ f u sp 1 4  ) lk_X8_95 ⟨Nat.le_of_ble_eq_true rfl, Nat.le_of_ble_eq_true rfl⟩ ⟨rfl, rfl⟩ ⟨Nat.zero_le _, Nat.zero_le _⟩ rfl rfl hl.1 (Nat.le_of_ble_eq_true rfl) dX8_item_27) (fun r_5 f_5 u_5 H locs hp_5 hw => ?_)
      obtain ⟨rfl, rfl, e_5⟩ := hp_5
      refine topc e_5 ?_
      refine lv_if_ne (tgt := 35) hx hb dX8_item_30 (by decide) (fun c_6 => ?_) (fun c_6 => ?_)
      · obtain ⟨t_6, hs_6, ht_6, et_6⟩ := rg_nat2 (a := 1) (n := 4) (by omega) rfl c_6
        subst et_6
        refine lv_aload_n hx hb dX8_item_35 rfl (lv_at hl 0 rfl) ?_
        refine gf_X8_106 cx hw dX8_item_36 ?_
        obtain ⟨n_7, hn_7, en_7⟩ := IV.s_36_11 hi
        refine topc (y := (nI n_7)) en_7 ?_
        refine lv_bipush (v := 40) hx hb dX8_item_39 (by decide) ?_
        refine lv_icmp_ne (tgt := 47) hx hb dX8_item_41 (by decide) (fun c_8 => ?_) (fun c_8 => ?_)
        · have c_8 : ¬ n_7 = 40 := fun z => c_8 ((nI_eq (a := n_7) (b := 40) (by omega) (by omega)).mpr z)
          refine lv_aload_n hx hb dX8_item_47 rfl (lv_at hl 0 rfl) ?_
          refine gf_X8_40 cx hw dX8_item_48 ?_
          refine lv_aload_n hx hb dX8_item_51 rfl (lv_at hl 0 rfl) ?_
          refine gf_X8_106 cx hw dX8_item_52 ?_
          refine topc (y := (nI n_7)) en_7 ?_
          refine lv_iload_n hx hb dX8_item_55 rfl (lv_at hl 1 rfl) ?_
          refine astN 44 n_7 cx hw rfl ws_44 (by omega) (by decide) dX8_item_56 (fun H locs hw => ?_)
          have hi_9 : IV (up f 44 (upd (f 44) n_7 (nI t_2))) := IV.wr hi 44 trivial
          refine lv_aload_n hx hb dX8_item_57 rfl (lv_at hl 0 rfl) ?_
          refine gf_X8_43 cx hw dX8_item_58 ?_
          refine lv_aload_n hx hb dX8_item_61 rfl (lv_at hl 0 rfl) ?_
          refine gf_X8_106 cx hw dX8_item_62 ?_
          refine topc (y := (nI n_7)) en_7 ?_
          refine lv_iload_n hx hb dX8_item_65 rfl (lv_at hl 2 rfl) ?_
          refine astN 45 n_7 cx hw rfl ws_45 (by omega) (by decide) dX8_item_66 (fun H locs hw => ?_)
          have hi_10 : IV (up (up f 44 (upd (f 44) n_7 (nI t_2))) 45 (upd ((up f 44 (upd (f 44) n_7 (nI t_2))) 45) n_7 (nI t_4))) := IV.b_45 hi_9 (oki_n (j := t_4) (by omega))
          refine lv_aload_n hx hb dX8_item_67 rfl (lv_at hl 0 rfl) ?_
          refine gf_X8_46 cx hw dX8_item_68 ?_
          refine lv_aload_n hx hb dX8_item_71 rfl (lv_at hl 0 rfl) ?_
          refine gf_X8_106 cx hw dX8_item_72 ?_
          refine topc (y := (nI n_7)) en_7 ?_
          refine lv_iload_n hx hb dX8_item_75 rfl (lv_at hl 3 rfl) ?_
          refine astN 46 n_7 cx hw rfl ws_46 (by omega) (by decide) dX8_item_76 (fun H locs hw => ?_)
          have hi_11 : IV (up (up (up f 44 (upd (f 44) n_7 (nI t_2))) 45 (upd ((up f 44 (upd (f 44) n_7 (nI t_2))) 45) n_7 (nI t_4))) 46 (upd ((up (up f 44 (upd (f 44) n_7 (nI t_2))) 45 (upd ((up f 44 (upd (f 44) n_7 (nI t_2))) 45) n_7 (nI t_4))) 46) n_7 (nI t_6))) := IV.wr hi_10 46 trivial
          refine lv_aload_n hx hb dX8_item_77 rfl (lv_at hl 0 rfl) ?_
          refine gf_X8_49 cx hw dX8_item_78 ?_
          refine lv_aload_n hx hb dX8_item_81 rfl (lv_at hl 0 rfl) ?_
          refine gf_X8_106 cx hw dX8_item_82 ?_
          refine topc (y := (nI n_7)) en_7 ?_
          refine lv_iconst (v := (-1)) hx hb dX8_item_85 (by decide) ?_
          refine astN 47 n_7 cx hw rfl ws_47 (by omega) (by decide) dX8_item_86 (fun H locs hw => ?_)
          have hi_12 : IV (up (up (up (up f 44 (upd (f 44) n_7 (nI t_2))) 45 (upd ((up f 44 (upd (f 44) n_7 (nI t_2))) 45) n_7 (nI t_4))) 46 (upd ((up (up f 44 (upd (f 44) n_7 (nI t_2))) 45 (upd ((up f 44 (upd (f 44) n_7 (nI t_2))) 45) n_7 (nI t_4))) 46) n_7 (nI t_6))) 47 (upd ((up (up (up f 44 (upd (f 44) n_7 (nI t_2))) 45 (upd ((up f 44 (upd (f 44) n_7 (nI t_2))) 45) n_7 (nI t_4))) 46 (upd ((up (up f 44 (upd (f 44) n_7 (nI t_2))) 45 (upd ((up f 44 (upd (f 44) n_7 (nI t_2))) 45) n_7 (nI t_4))) 46) n_7 (nI t_6))) 47) n_7 (-1))) := IV.b_47 hi_11 okx_m
          refine lv_aload_n hx hb dX8_item_87 rfl (lv_at hl 0 rfl) ?_
          refine lv_dup hx hb dX8_item_88 rfl ?_
          refine gf_X8_106 cx hw dX8_item_89 ?_
          refine topc (y := (nI n_7)) en_7 ?_
          refine lv_iconst (v := 1) hx hb dX8_item_92 (by decide) ?_
          refine lv_iadd hx hb dX8_item_93 ?_
          refine topc (y := (nI (n_7 + 1))) (nI_add n_7 1) ?_
          refine pf_X8_106 cx hw dX8_item_94 (fun H locs hw => ?_)
          have hi_13 : IV (up (up (up (up (up f 44 (upd (f 44) n_7 (nI t_2))) 45 (upd ((up f 44 (upd (f 44) n_7 (nI t_2))) 45) n_7 (nI t_4))) 46 (upd ((up (up f 44 (upd (f 44) n_7 (nI t_2))) 45 (upd ((up f 44 (upd (f 44) n_7 (nI t_2))) 45) n_7 (nI t_4))) 46) n_7 (nI t_6))) 47 (upd ((up (up (up f 44 (upd (f 44) n_7 (nI t_2))) 45 (upd ((up f 44 (upd (f 44) n_7 (nI t_2))) 45) n_7 (nI t_4))) 46 (upd ((up (up f 44 (upd (f 44) n_7 (nI t_2))) 45 (upd ((up f 44 (upd (f 44) n_7 (nI t_2))) 45) n_7 (nI t_4))) 46) n_7 (nI t_6))) 47) n_7 (-1))) 36 (upd ((up (up (up (up f 44 (upd (f 44) n_7 (nI t_2))) 45 (upd ((up f 44 (upd (f 44) n_7 (nI t_2))) 45) n_7 (nI t_4))) 46 (upd ((up (up f 44 (upd (f 44) n_7 (nI t_2))) 45 (upd ((up f 44 (upd (f 44) n_7 (nI t_2))) 45) n_7 (nI t_4))) 46) n_7 (nI t_6))) 47 (upd ((up (up (up f 44 (upd (f 44) n_7 (nI t_2))) 45 (upd ((up f 44 (upd (f 44) n_7 (nI t_2))) 45) n_7 (nI t_4))) 46 (upd ((up (up f 44 (upd (f 44) n_7 (nI t_2))) 45 (upd ((up f 44 (upd (f 44) n_7 (nI t_2))) 45) n_7 (nI t_4))) 46) n_7 (nI t_6))) 47) n_7 (-1))) 36) 11 (nI (n_7 + 1)))) := IV.t_36_11 hi_12 (okc_n (j := (n_7 + 1)) (by omega))
          have vp_14 : vM (up (up (up (up (up f 44 (upd (f 44) n_7 (nI t_2))) 45 (upd ((up f 44 (upd (f 44) n_7 (nI t_2))) 45) n_7 (nI t_4))) 46 (upd ((up (up f 44 (upd (f 44) n_7 (nI t_2))) 45 (upd ((up f 44 (upd (f 44) n_7 (nI t_2))) 45) n_7 (nI t_4))) 46) n_7 (nI t_6))) 47 (upd ((up (up (up f 44 (upd (f 44) n_7 (nI t_2))) 45 (upd ((up f 44 (upd (f 44) n_7 (nI t_2))) 45) n_7 (nI t_4))) 46 (upd ((up (up f 44 (upd (f 44) n_7 (nI t_2))) 45 (upd ((up f 44 (upd (f 44) n_7 (nI t_2))) 45) n_7 (nI t_4))) 46) n_7 (nI t_6))) 47) n_7 (-1))) 36 (upd ((up (up (up (up f 44 (upd (f 44) n_7 (nI t_2))) 45 (upd ((up f 44 (upd (f 44) n_7 (nI t_2))) 45) n_7 (nI t_4))) 46 (upd ((up (up f 44 (upd (f 44) n_7 (nI t_2))) 45 (upd ((up f 44 (upd (f 44) n_7 (nI t_2))) 45) n_7 (nI t_4))) 46) n_7 (nI t_6))) 47 (upd ((up (up (up f 44 (upd (f 44) n_7 (nI t_2))) 45 (upd ((up f 44 (upd (f 44) n_7 (nI t_2))) 45) n_7 (nI t_4))) 46 (upd ((up (up f 44 (upd (f 44) n_7 (nI t_2))) 45 (upd ((up f 44 (upd (f 44) n_7 (nI t_2))) 45) n_7 (nI t_4))) 46) n_7 (nI t_6))) 47) n_7 (-1))) 36) 11 (nI (n_7 + 1)))) = (up (vM f) 0 (upd ((vM f) 0) 1 (nI (n_7 + 1)))) := (vM_s_36_11).trans (congrArg (fun z : FF => up z 0 (upd (z 0) 1 (nI (n_7 + 1)))) (rfl : vM (up (up (up (up f 44 (upd (f 44) n_7 (nI t_2))) 45 (upd ((up f 44 (upd (f 44) n_7 (nI t_2))) 45) n_7 (nI t_4))) 46 (upd ((up (up f 44 (upd (f 44) n_7 (nI t_2))) 45 (upd ((up f 44 (upd (f 44) n_7 (nI t_2))) 45) n_7 (nI t_4))) 46) n_7 (nI t_6))) 47 (upd ((up (up (up f 44 (upd (f 44) n_7 (nI t_2))) 45 (upd ((up f 44 (upd (f 44) n_7 (nI t_2))) 45) n_7 (nI t_4))) 46 (upd ((up (up f 44 (upd (f 44) n_7 (nI t_2))) 45 (upd ((up f 44 (upd (f 44) n_7 (nI t_2))) 45) n_7 (nI t_4))) 46) n_7 (nI t_6))) 47) n_7 (-1))) = (vM f)))
          refine lv_aload_n hx hb dX8_item_97 rfl (lv_at hl 0 rfl) ?_
          refine gf_X8_106 cx hw dX8_item_98 ?_
          refine topc (y := (nI (n_7 + 1))) rfl ?_
          refine lv_iconst (v := 1) hx hb dX8_item_101 (by decide) ?_
          refine lv_isub hx hb dX8_item_102 ?_
          refine topc (y := (nI n_7)) (nI_pred n_7) ?_
          exact retI cx hw hr hk dX8_item_103 ⟨hi_13, ((congrArg (Prod.mk (nI n_7)) (vp_14 : vM (up (up (up (up (up f 44 (upd (f 44) n_7 (nI t_2))) 45 (upd ((up f 44 (upd (f 44) n_7 (nI t_2))) 45) n_7 (nI t_4))) 46 (upd ((up (up f 44 (upd (f 44) n_7 (nI t_2))) 45 (upd ((up f 44 (upd (f 44) n_7 (nI t_2))) 45) n_7 (nI t_4))) 46) n_7 (nI t_6))) 47 (upd ((up (up (up f 44 (upd (f 44) n_7 (nI t_2))) 45 (upd ((up f 44 (upd (f 44) n_7 (nI t_2))) 45) n_7 (nI t_4))) 46 (upd ((up (up f 44 (upd (f 44) n_7 (nI t_2))) 45 (upd ((up f 44 (upd (f 44) n_7 (nI t_2))) 45) n_7 (nI t_4))) 46) n_7 (nI t_6))) 47) n_7 (-1))) 36 (upd ((up (up (up (up f 44 (upd (f 44) n_7 (nI t_2))) 45 (upd ((up f 44 (upd (f 44) n_7 (nI t_2))) 45) n_7 (nI t_4))) 46 (upd ((up (up f 44 (upd (f 44) n_7 (nI t_2))) 45 (upd ((up f 44 (upd (f 44) n_7 (nI t_2))) 45) n_7 (nI t_4))) 46) n_7 (nI t_6))) 47 (upd ((up (up (up f 44 (upd (f 44) n_7 (nI t_2))) 45 (upd ((up f 44 (upd (f 44) n_7 (nI t_2))) 45) n_7 (nI t_4))) 46 (upd ((up (up f 44 (upd (f 44) n_7 (nI t_2))) 45 (upd ((up f 44 (upd (f 44) n_7 (nI t_2))) 45) n_7 (nI t_4))) 46) n_7 (nI t_6))) 47) n_7 (-1))) 36) 11 (nI (n_7 + 1)))) = (up (vM f) 0 (upd ((vM f) 0) 1 (nI (n_7 + 1)))))).trans (show _ = S_item (nI t_2) (nI t_4) (nI t_6) (vM f) from ((if_neg c_2).trans ((if_neg c_4).trans ((if_neg c_6).trans (S_cnt_n (k := n_7) (n := 40) en_7 (by omega) (by omega) rfl (by omega))))).symm)), (KQ.wr (by decide) (KQ.wr (by decide) (KQ.wr (by decide) (KQ.wr (by decide) (KQ.wr (by decide) KQ.rf)))))⟩
        · have c_8 : n_7 = 40 := (nI_eq (a := n_7) (b := 40) (by omega) (by omega)).mp c_8
          refine lv_bipush (v := (-4)) hx hb dX8_item_44 (by decide) ?_
          exact retI cx hw hr hk dX8_item_46 ⟨hi, ((congrArg (Prod.mk (-4)) (rfl : vM f = (vM f))).trans (show _ = S_item (nI t_2) (nI t_4) (nI t_6) (vM f) from ((if_neg c_2).trans ((if_neg c_4).trans ((if_neg c_6).trans (S_cnt_f (k := n_7) (n := 40) en_7 (by omega) rfl (by omega))))).symm)), KQ.rf⟩
      · refine lv_iconst (v := (-1)) hx hb dX8_item_33 (by decide) ?_
        exact retI cx hw hr hk dX8_item_34 ⟨hi, ((congrArg (Prod.mk (-1)) (rfl : vM f = (vM f))).trans (show _ = S_item (nI t_2) (nI t_4) sp (vM f) from ((if_neg c_2).trans ((if_neg c_4).trans (if_pos c_6))).symm)), KQ.rf⟩
  · refine lv_bipush (v := (-2)) hx hb dX8_item_11 (by decide) ?_
    exact retI cx hw hr hk dX8_item_13 ⟨hi, ((congrArg (Prod.mk (-2)) (rfl : vM f = (vM f))).trans (show _ = S_item we ki sp (vM f) from (if_pos c_2).symm)), KQ.rf⟩

set_option maxHeartbeats 4000000 in
set_option maxRecDepth 100000 in
theorem k_X8_row (l : Launch) (D : va_G) (a : Nat → Nat) (cI cZ : ClassId) (f : FF) (u : UU) (ar : Int32) (n : Int32) (hi : IV f)  : KI l yX8_row cX8_row 3 (some .int) ({ frames := 3, cells := 0, slots := 0, locals := 54 } : Room) D a cI cZ [.ref (a 36), .int ar, .int n] f u (fun r f2 u2 => IV f2 ∧ (r, vM f2) = S_row ar n (vM f) ∧ KQ f f2) := by
  refine KX.of (by decide) (Nat.le_of_ble_eq_true rfl) ?_
  intro p e s m below meth c cx hw hr hk ls hl
  have cx : Cx p s m _ c cX8_row RX8 3 D cI cZ := cx
  have hl : lv_has ls 3 [(0, .ref (a 36)), (1, .int ar), (2, .int n)] := hl
  have hx := cx.1.1
  have hb := cx.1.2.1
  refine lv_iload_n hx hb dX8_row_0 rfl (lv_at hl 1 rfl) ?_
  refine goI hw (runSW (As := [.int ar]) (rest := []) cx hw (c_X8_isArm l D a cI cZ f u ar  ) lk_X8_110 ⟨Nat.le_of_ble_eq_true rfl, Nat.le_of_ble_eq_true rfl⟩ ⟨rfl, rfl⟩ ⟨Nat.zero_le _, Nat.zero_le _⟩ rfl rfl hl.1 (Nat.le_of_ble_eq_true rfl) dX8_row_1) (fun r_1 f_1 u_1 H locs hp_1 hw => ?_)
  obtain ⟨rfl, rfl, e_1⟩ := hp_1
  refine topc e_1 ?_
  refine lv_if_eq (tgt := 17) hx hb dX8_row_4 (by decide) (fun c_2 => ?_) (fun c_2 => ?_)
  · refine lv_bipush (v := (-2)) hx hb dX8_row_17 (by decide) ?_
    exact retI cx hw hr hk dX8_row_19 ⟨hi, ((congrArg (Prod.mk (-2)) (rfl : vM f = (vM f))).trans (show _ = S_row ar n (vM f) from (if_pos c_2).symm)), KQ.rf⟩
  · obtain ⟨t_2, ht_2, et_2⟩ := rg_nat (n := 5000) rfl c_2
    subst et_2
    refine lv_iload_n hx hb dX8_row_7 rfl (lv_at hl 2 rfl) ?_
    refine lv_iconst (v := 1) hx hb dX8_row_8 (by decide) ?_
    refine lv_bipush (v := 8) hx hb dX8_row_9 (by decide) ?_
    refine goI hw (runSW (As := [.int n, .int 1, .int 8]) (rest := []) cx hw (c_X8_isIn l D a cI cZ f u n 1 8  ) lk_X8_95 ⟨Nat.le_of_ble_eq_true rfl, Nat.le_of_ble_eq_true rfl⟩ ⟨rfl, rfl⟩ ⟨Nat.zero_le _, Nat.zero_le _⟩ rfl rfl hl.1 (Nat.le_of_ble_eq_true rfl) dX8_row_11) (fun r_3 f_3 u_3 H locs hp_3 hw => ?_)
    obtain ⟨rfl, rfl, e_3⟩ := hp_3
    refine topc e_3 ?_
    refine lv_if_ne (tgt := 20) hx hb dX8_row_14 (by decide) (fun c_4 => ?_) (fun c_4 => ?_)
    · obtain ⟨t_4, hs_4, ht_4, et_4⟩ := rg_nat2 (a := 1) (n := 8) (by omega) rfl c_4
      subst et_4
      refine lv_aload_n hx hb dX8_row_20 rfl (lv_at hl 0 rfl) ?_
      refine gf_X8_116 cx hw dX8_row_21 ?_
      obtain ⟨n_5, hn_5, en_5⟩ := IV.s_36_16 hi
      refine topc (y := (nI n_5)) en_5 ?_
      refine lv_bipush (v := 10) hx hb dX8_row_24 (by decide) ?_
      refine lv_icmp_ne (tgt := 32) hx hb dX8_row_26 (by decide) (fun c_6 => ?_) (fun c_6 => ?_)
      · have c_6 : ¬ n_5 = 10 := fun z => c_6 ((nI_eq (a := n_5) (b := 10) (by omega) (by omega)).mpr z)
        refine lv_aload_n hx hb dX8_row_32 rfl (lv_at hl 0 rfl) ?_
        refine gf_X8_52 cx hw dX8_row_33 ?_
        refine lv_aload_n hx hb dX8_row_36 rfl (lv_at hl 0 rfl) ?_
        refine gf_X8_116 cx hw dX8_row_37 ?_
        refine topc (y := (nI n_5)) en_5 ?_
        refine lv_iload_n hx hb dX8_row_40 rfl (lv_at hl 1 rfl) ?_
        refine astN 48 n_5 cx hw rfl ws_48 (by omega) (by decide) dX8_row_41 (fun H locs hw => ?_)
        have hi_7 : IV (up f 48 (upd (f 48) n_5 (nI t_2))) := IV.wr hi 48 trivial
        refine lv_aload_n hx hb dX8_row_42 rfl (lv_at hl 0 rfl) ?_
        refine gf_X8_55 cx hw dX8_row_43 ?_
        refine lv_aload_n hx hb dX8_row_46 rfl (lv_at hl 0 rfl) ?_
        refine gf_X8_116 cx hw dX8_row_47 ?_
        refine topc (y := (nI n_5)) en_5 ?_
        refine lv_iload_n hx hb dX8_row_50 rfl (lv_at hl 2 rfl) ?_
        refine astN 49 n_5 cx hw rfl ws_49 (by omega) (by decide) dX8_row_51 (fun H locs hw => ?_)
        have hi_8 : IV (up (up f 48 (upd (f 48) n_5 (nI t_2))) 49 (upd ((up f 48 (upd (f 48) n_5 (nI t_2))) 49) n_5 (nI t_4))) := IV.wr hi_7 49 trivial
        refine lv_aload_n hx hb dX8_row_52 rfl (lv_at hl 0 rfl) ?_
        refine lv_dup hx hb dX8_row_53 rfl ?_
        refine gf_X8_116 cx hw dX8_row_54 ?_
        refine topc (y := (nI n_5)) en_5 ?_
        refine lv_iconst (v := 1) hx hb dX8_row_57 (by decide) ?_
        refine lv_iadd hx hb dX8_row_58 ?_
        refine topc (y := (nI (n_5 + 1))) (nI_add n_5 1) ?_
        refine pf_X8_116 cx hw dX8_row_59 (fun H locs hw => ?_)
        have hi_9 : IV (up (up (up f 48 (upd (f 48) n_5 (nI t_2))) 49 (upd ((up f 48 (upd (f 48) n_5 (nI t_2))) 49) n_5 (nI t_4))) 36 (upd ((up (up f 48 (upd (f 48) n_5 (nI t_2))) 49 (upd ((up f 48 (upd (f 48) n_5 (nI t_2))) 49) n_5 (nI t_4))) 36) 16 (nI (n_5 + 1)))) := IV.t_36_16 hi_8 (okc_n (j := (n_5 + 1)) (by omega))
        have vp_10 : vM (up (up (up f 48 (upd (f 48) n_5 (nI t_2))) 49 (upd ((up f 48 (upd (f 48) n_5 (nI t_2))) 49) n_5 (nI t_4))) 36 (upd ((up (up f 48 (upd (f 48) n_5 (nI t_2))) 49 (upd ((up f 48 (upd (f 48) n_5 (nI t_2))) 49) n_5 (nI t_4))) 36) 16 (nI (n_5 + 1)))) = (up (vM f) 0 (upd ((vM f) 0) 2 (nI (n_5 + 1)))) := (vM_s_36_16).trans (congrArg (fun z : FF => up z 0 (upd (z 0) 2 (nI (n_5 + 1)))) (rfl : vM (up (up f 48 (upd (f 48) n_5 (nI t_2))) 49 (upd ((up f 48 (upd (f 48) n_5 (nI t_2))) 49) n_5 (nI t_4))) = (vM f)))
        refine lv_aload_n hx hb dX8_row_62 rfl (lv_at hl 0 rfl) ?_
        refine gf_X8_116 cx hw dX8_row_63 ?_
        refine topc (y := (nI (n_5 + 1))) rfl ?_
        refine lv_iconst (v := 1) hx hb dX8_row_66 (by decide) ?_
        refine lv_isub hx hb dX8_row_67 ?_
        refine topc (y := (nI n_5)) (nI_pred n_5) ?_
        exact retI cx hw hr hk dX8_row_68 ⟨hi_9, ((congrArg (Prod.mk (nI n_5)) (vp_10 : vM (up (up (up f 48 (upd (f 48) n_5 (nI t_2))) 49 (upd ((up f 48 (upd (f 48) n_5 (nI t_2))) 49) n_5 (nI t_4))) 36 (upd ((up (up f 48 (upd (f 48) n_5 (nI t_2))) 49 (upd ((up f 48 (upd (f 48) n_5 (nI t_2))) 49) n_5 (nI t_4))) 36) 16 (nI (n_5 + 1)))) = (up (vM f) 0 (upd ((vM f) 0) 2 (nI (n_5 + 1)))))).trans (show _ = S_row (nI t_2) (nI t_4) (vM f) from ((if_neg c_2).trans ((if_neg c_4).trans (S_cnt_n (k := n_5) (n := 10) en_5 (by omega) (by omega) rfl (by omega)))).symm)), (KQ.wr (by decide) (KQ.wr (by decide) (KQ.wr (by decide) KQ.rf)))⟩
      · have c_6 : n_5 = 10 := (nI_eq (a := n_5) (b := 10) (by omega) (by omega)).mp c_6
        refine lv_bipush (v := (-4)) hx hb dX8_row_29 (by decide) ?_
        exact retI cx hw hr hk dX8_row_31 ⟨hi, ((congrArg (Prod.mk (-4)) (rfl : vM f = (vM f))).trans (show _ = S_row (nI t_2) (nI t_4) (vM f) from ((if_neg c_2).trans ((if_neg c_4).trans (S_cnt_f (k := n_5) (n := 10) en_5 (by omega) rfl (by omega)))).symm)), KQ.rf⟩
    · refine lv_bipush (v := (-2)) hx hb dX8_row_17 (by decide) ?_
      exact retI cx hw hr hk dX8_row_19 ⟨hi, ((congrArg (Prod.mk (-2)) (rfl : vM f = (vM f))).trans (show _ = S_row (nI t_2) n (vM f) from ((if_neg c_2).trans (if_pos c_4)).symm)), KQ.rf⟩

set_option maxHeartbeats 4000000 in
set_option maxRecDepth 100000 in
theorem k_X8_tank (l : Launch) (D : va_G) (a : Nat → Nat) (cI cZ : ClassId) (f : FF) (u : UU) (ar : Int32) (mo : Int32) (hi : IV f)  : KI l yX8_tank cX8_tank 3 (some .int) ({ frames := 3, cells := 0, slots := 0, locals := 54 } : Room) D a cI cZ [.ref (a 36), .int ar, .int mo] f u (fun r f2 u2 => IV f2 ∧ (r, vM f2) = S_tank ar mo (vM f) ∧ KQ f f2) := by
  refine KX.of (by decide) (Nat.le_of_ble_eq_true rfl) ?_
  intro p e s m below meth c cx hw hr hk ls hl
  have cx : Cx p s m _ c cX8_tank RX8 3 D cI cZ := cx
  have hl : lv_has ls 3 [(0, .ref (a 36)), (1, .int ar), (2, .int mo)] := hl
  have hx := cx.1.1
  have hb := cx.1.2.1
  refine lv_iload_n hx hb dX8_tank_0 rfl (lv_at hl 1 rfl) ?_
  refine goI hw (runSW (As := [.int ar]) (rest := []) cx hw (c_X8_isArm l D a cI cZ f u ar  ) lk_X8_110 ⟨Nat.le_of_ble_eq_true rfl, Nat.le_of_ble_eq_true rfl⟩ ⟨rfl, rfl⟩ ⟨Nat.zero_le _, Nat.zero_le _⟩ rfl rfl hl.1 (Nat.le_of_ble_eq_true rfl) dX8_tank_1) (fun r_1 f_1 u_1 H locs hp_1 hw => ?_)
  obtain ⟨rfl, rfl, e_1⟩ := hp_1
  refine topc e_1 ?_
  refine lv_if_eq (tgt := 18) hx hb dX8_tank_4 (by decide) (fun c_2 => ?_) (fun c_2 => ?_)
  · refine lv_bipush (v := (-2)) hx hb dX8_tank_18 (by decide) ?_
    exact retI cx hw hr hk dX8_tank_20 ⟨hi, ((congrArg (Prod.mk (-2)) (rfl : vM f = (vM f))).trans (show _ = S_tank ar mo (vM f) from (if_pos c_2).symm)), KQ.rf⟩
  · obtain ⟨t_2, ht_2, et_2⟩ := rg_nat (n := 5000) rfl c_2
    subst et_2
    refine lv_iload_n hx hb dX8_tank_7 rfl (lv_at hl 2 rfl) ?_
    refine lv_iconst (v := 0) hx hb dX8_tank_8 (by decide) ?_
    refine lv_sipush (v := 20000) hx hb dX8_tank_9 (by decide) ?_
    refine goI hw (runSW (As := [.int mo, .int 0, .int 20000]) (rest := []) cx hw (c_X8_isIn l D a cI cZ f u mo 0 20000  ) lk_X8_95 ⟨Nat.le_of_ble_eq_true rfl, Nat.le_of_ble_eq_true rfl⟩ ⟨rfl, rfl⟩ ⟨Nat.zero_le _, Nat.zero_le _⟩ rfl rfl hl.1 (Nat.le_of_ble_eq_true rfl) dX8_tank_12) (fun r_3 f_3 u_3 H locs hp_3 hw => ?_)
    obtain ⟨rfl, rfl, e_3⟩ := hp_3
    refine topc e_3 ?_
    refine lv_if_ne (tgt := 21) hx hb dX8_tank_15 (by decide) (fun c_4 => ?_) (fun c_4 => ?_)
    · obtain ⟨t_4, ht_4, et_4⟩ := rg_nat (n := 20000) rfl c_4
      subst et_4
      refine lv_aload_n hx hb dX8_tank_21 rfl (lv_at hl 0 rfl) ?_
      refine gf_X8_119 cx hw dX8_tank_22 ?_
      obtain ⟨n_5, hn_5, en_5⟩ := IV.s_36_20 hi
      refine topc (y := (nI n_5)) en_5 ?_
      refine lv_iconst (v := 4) hx hb dX8_tank_25 (by decide) ?_
      refine lv_icmp_ne (tgt := 32) hx hb dX8_tank_26 (by decide) (fun c_6 => ?_) (fun c_6 => ?_)
      · have c_6 : ¬ n_5 = 4 := fun z => c_6 ((nI_eq (a := n_5) (b := 4) (by omega) (by omega)).mpr z)
        refine lv_aload_n hx hb dX8_tank_32 rfl (lv_at hl 0 rfl) ?_
        refine gf_X8_61 cx hw dX8_tank_33 ?_
        refine lv_aload_n hx hb dX8_tank_36 rfl (lv_at hl 0 rfl) ?_
        refine gf_X8_119 cx hw dX8_tank_37 ?_
        refine topc (y := (nI n_5)) en_5 ?_
        refine lv_iload_n hx hb dX8_tank_40 rfl (lv_at hl 1 rfl) ?_
        refine astN 51 n_5 cx hw rfl ws_51 (by omega) (by decide) dX8_tank_41 (fun H locs hw => ?_)
        have hi_7 : IV (up f 51 (upd (f 51) n_5 (nI t_2))) := IV.wr hi 51 trivial
        refine lv_aload_n hx hb dX8_tank_42 rfl (lv_at hl 0 rfl) ?_
        refine gf_X8_64 cx hw dX8_tank_43 ?_
        refine lv_aload_n hx hb dX8_tank_46 rfl (lv_at hl 0 rfl) ?_
        refine gf_X8_119 cx hw dX8_tank_47 ?_
        refine topc (y := (nI n_5)) en_5 ?_
        refine lv_iload_n hx hb dX8_tank_50 rfl (lv_at hl 2 rfl) ?_
        refine astN 52 n_5 cx hw rfl ws_52 (by omega) (by decide) dX8_tank_51 (fun H locs hw => ?_)
        have hi_8 : IV (up (up f 51 (upd (f 51) n_5 (nI t_2))) 52 (upd ((up f 51 (upd (f 51) n_5 (nI t_2))) 52) n_5 (nI t_4))) := IV.b_52 hi_7 (okc_n (j := t_4) (by omega))
        have vp_9 : vM (up (up f 51 (upd (f 51) n_5 (nI t_2))) 52 (upd ((up f 51 (upd (f 51) n_5 (nI t_2))) 52) n_5 (nI t_4))) = (up (vM f) 2 (upd ((vM f) 2) n_5 (nI t_4))) := (vM_a_52).trans (congrArg (fun z : FF => up z 2 (upd (z 2) n_5 (nI t_4))) (rfl : vM (up f 51 (upd (f 51) n_5 (nI t_2))) = (vM f)))
        refine lv_aload_n hx hb dX8_tank_52 rfl (lv_at hl 0 rfl) ?_
        refine lv_dup hx hb dX8_tank_53 rfl ?_
        refine gf_X8_119 cx hw dX8_tank_54 ?_
        refine topc (y := (nI n_5)) en_5 ?_
        refine lv_iconst (v := 1) hx hb dX8_tank_57 (by decide) ?_
        refine lv_iadd hx hb dX8_tank_58 ?_
        refine topc (y := (nI (n_5 + 1))) (nI_add n_5 1) ?_
        refine pf_X8_119 cx hw dX8_tank_59 (fun H locs hw => ?_)
        have hi_10 : IV (up (up (up f 51 (upd (f 51) n_5 (nI t_2))) 52 (upd ((up f 51 (upd (f 51) n_5 (nI t_2))) 52) n_5 (nI t_4))) 36 (upd ((up (up f 51 (upd (f 51) n_5 (nI t_2))) 52 (upd ((up f 51 (upd (f 51) n_5 (nI t_2))) 52) n_5 (nI t_4))) 36) 20 (nI (n_5 + 1)))) := IV.t_36_20 hi_8 (okc_n (j := (n_5 + 1)) (by omega))
        have vp_11 : vM (up (up (up f 51 (upd (f 51) n_5 (nI t_2))) 52 (upd ((up f 51 (upd (f 51) n_5 (nI t_2))) 52) n_5 (nI t_4))) 36 (upd ((up (up f 51 (upd (f 51) n_5 (nI t_2))) 52 (upd ((up f 51 (upd (f 51) n_5 (nI t_2))) 52) n_5 (nI t_4))) 36) 20 (nI (n_5 + 1)))) = (up (up (vM f) 2 (upd ((vM f) 2) n_5 (nI t_4))) 0 (upd ((up (vM f) 2 (upd ((vM f) 2) n_5 (nI t_4))) 0) 3 (nI (n_5 + 1)))) := (vM_s_36_20).trans (congrArg (fun z : FF => up z 0 (upd (z 0) 3 (nI (n_5 + 1)))) (vp_9 : vM (up (up f 51 (upd (f 51) n_5 (nI t_2))) 52 (upd ((up f 51 (upd (f 51) n_5 (nI t_2))) 52) n_5 (nI t_4))) = (up (vM f) 2 (upd ((vM f) 2) n_5 (nI t_4)))))
        refine lv_aload_n hx hb dX8_tank_62 rfl (lv_at hl 0 rfl) ?_
        refine gf_X8_119 cx hw dX8_tank_63 ?_
        refine topc (y := (nI (n_5 + 1))) rfl ?_
        refine lv_iconst (v := 1) hx hb dX8_tank_66 (by decide) ?_
        refine lv_isub hx hb dX8_tank_67 ?_
        refine topc (y := (nI n_5)) (nI_pred n_5) ?_
        exact retI cx hw hr hk dX8_tank_68 ⟨hi_10, ((congrArg (Prod.mk (nI n_5)) (vp_11 : vM (up (up (up f 51 (upd (f 51) n_5 (nI t_2))) 52 (upd ((up f 51 (upd (f 51) n_5 (nI t_2))) 52) n_5 (nI t_4))) 36 (upd ((up (up f 51 (upd (f 51) n_5 (nI t_2))) 52 (upd ((up f 51 (upd (f 51) n_5 (nI t_2))) 52) n_5 (nI t_4))) 36) 20 (nI (n_5 + 1)))) = (up (up (vM f) 2 (upd ((vM f) 2) n_5 (nI t_4))) 0 (upd ((up (vM f) 2 (upd ((vM f) 2) n_5 (nI t_4))) 0) 3 (nI (n_5 + 1)))))).trans (show _ = S_tank (nI t_2) (nI t_4) (vM f) from ((if_neg c_2).trans ((if_neg c_4).trans (S_tk_n (k := n_5) en_5 (by omega) (by omega)))).symm)), (KQ.wr (by decide) (KQ.wr (by decide) (KQ.wr (by decide) KQ.rf)))⟩
      · have c_6 : n_5 = 4 := (nI_eq (a := n_5) (b := 4) (by omega) (by omega)).mp c_6
        refine lv_bipush (v := (-4)) hx hb dX8_tank_29 (by decide) ?_
        exact retI cx hw hr hk dX8_tank_31 ⟨hi, ((congrArg (Prod.mk (-4)) (rfl : vM f = (vM f))).trans (show _ = S_tank (nI t_2) (nI t_4) (vM f) from ((if_neg c_2).trans ((if_neg c_4).trans (S_tk_f (k := n_5) en_5 (by omega)))).symm)), KQ.rf⟩
    · refine lv_bipush (v := (-2)) hx hb dX8_tank_18 (by decide) ?_
      exact retI cx hw hr hk dX8_tank_20 ⟨hi, ((congrArg (Prod.mk (-2)) (rfl : vM f = (vM f))).trans (show _ = S_tank (nI t_2) mo (vM f) from ((if_neg c_2).trans (if_pos c_4)).symm)), KQ.rf⟩

set_option maxHeartbeats 4000000 in
set_option maxRecDepth 100000 in
theorem k_X8_person (l : Launch) (D : va_G) (a : Nat → Nat) (cI cZ : ClassId) (f : FF) (u : UU) (we : Int32) (hi : IV f)  : KI l yX8_person cX8_person 3 (some .int) ({ frames := 2, cells := 0, slots := 0, locals := 34 } : Room) D a cI cZ [.ref (a 36), .int we] f u (fun r f2 u2 => IV f2 ∧ (r, vM f2) = S_person we (vM f) ∧ KQ f f2) := by
  refine KX.of (by decide) (Nat.le_of_ble_eq_true rfl) ?_
  intro p e s m below meth c cx hw hr hk ls hl
  have cx : Cx p s m _ c cX8_person RX8 3 D cI cZ := cx
  have hl : lv_has ls 3 [(0, .ref (a 36)), (1, .int we)] := hl
  have hx := cx.1.1
  have hb := cx.1.2.1
  refine lv_iload_n hx hb dX8_person_0 rfl (lv_at hl 1 rfl) ?_
  refine lv_bipush (v := 50) hx hb dX8_person_1 (by decide) ?_
  refine lv_sipush (v := 150) hx hb dX8_person_3 (by decide) ?_
  refine goI hw (runSW (As := [.int we, .int 50, .int 150]) (rest := []) cx hw (c_X8_isIn l D a cI cZ f u we 50 150  ) lk_X8_95 ⟨Nat.le_of_ble_eq_true rfl, Nat.le_of_ble_eq_true rfl⟩ ⟨rfl, rfl⟩ ⟨Nat.zero_le _, Nat.zero_le _⟩ rfl rfl hl.1 (Nat.le_of_ble_eq_true rfl) dX8_person_6) (fun r_1 f_1 u_1 H locs hp_1 hw => ?_)
  obtain ⟨rfl, rfl, e_1⟩ := hp_1
  refine topc e_1 ?_
  refine lv_if_ne (tgt := 15) hx hb dX8_person_9 (by decide) (fun c_2 => ?_) (fun c_2 => ?_)
  · obtain ⟨t_2, hs_2, ht_2, et_2⟩ := rg_nat2 (a := 50) (n := 150) (by omega) rfl c_2
    subst et_2
    refine lv_aload_n hx hb dX8_person_15 rfl (lv_at hl 0 rfl) ?_
    refine gf_X8_70 cx hw dX8_person_16 ?_
    refine lv_istore_n (lv' := [(2, .int (f 36 24)), (0, .ref (a 36)), (1, .int (nI t_2))]) hx hb dX8_person_19 rfl hl (by decide) rfl (fun ls hl => ?_)
    refine lv_aload_n hx hb dX8_person_20 rfl (lv_at hl 1 rfl) ?_
    refine lv_iload_n hx hb dX8_person_21 rfl (lv_at hl 2 rfl) ?_
    refine pf_X8_70 cx hw dX8_person_22 (fun H locs hw => ?_)
    have hi_3 : IV (up f 36 (upd (f 36) 24 (nI t_2))) := IV.u_36_24 hi
    have vp_4 : vM (up f 36 (upd (f 36) 24 (nI t_2))) = (up (vM f) 0 (upd ((vM f) 0) 4 (nI t_2))) := (vM_s_36_24).trans (congrArg (fun z : FF => up z 0 (upd (z 0) 4 (nI t_2))) (rfl : vM f = (vM f)))
    refine lv_iload_n hx hb dX8_person_25 rfl (lv_at hl 0 rfl) ?_
    exact retI cx hw hr hk dX8_person_26 ⟨hi_3, ((congrArg (Prod.mk (f 36 24)) (vp_4 : vM (up f 36 (upd (f 36) 24 (nI t_2))) = (up (vM f) 0 (upd ((vM f) 0) 4 (nI t_2))))).trans (show _ = S_person (nI t_2) (vM f) from ((if_neg c_2).trans rfl).symm)), (KQ.wr (by decide) KQ.rf)⟩
  · refine lv_bipush (v := (-2)) hx hb dX8_person_12 (by decide) ?_
    exact retI cx hw hr hk dX8_person_14 ⟨hi, ((congrArg (Prod.mk (-2)) (rfl : vM f = (vM f))).trans (show _ = S_person we (vM f) from (if_pos c_2).symm)), KQ.rf⟩

set_option maxHeartbeats 4000000 in
set_option maxRecDepth 100000 in
theorem k_X8_seat (l : Launch) (D : va_G) (a : Nat → Nat) (cI cZ : ClassId) (f : FF) (u : UU) (ro : Int32) (n : Int32) (hi : IV f)  : KI l yX8_seat cX8_seat 4 (some .int) ({ frames := 2, cells := 0, slots := 0, locals := 34 } : Room) D a cI cZ [.ref (a 36), .int ro, .int n] f u (fun r f2 u2 => IV f2 ∧ KK [50] f f2) := by
  refine KX.of (by decide) (Nat.le_of_ble_eq_true rfl) ?_
  intro p e s m below meth c cx hw hr hk ls hl
  have cx : Cx p s m _ c cX8_seat RX8 4 D cI cZ := cx
  have hl : lv_has ls 4 [(0, .ref (a 36)), (1, .int ro), (2, .int n)] := hl
  have hx := cx.1.1
  have hb := cx.1.2.1
  refine lv_iload_n hx hb dX8_seat_0 rfl (lv_at hl 1 rfl) ?_
  refine lv_iconst (v := 0) hx hb dX8_seat_1 (by decide) ?_
  refine lv_aload_n hx hb dX8_seat_2 rfl (lv_at hl 0 rfl) ?_
  refine gf_X8_116 cx hw dX8_seat_3 ?_
  obtain ⟨n_1, hn_1, en_1⟩ := IV.s_36_16 hi
  refine topc (y := (nI n_1)) en_1 ?_
  refine lv_iconst (v := 1) hx hb dX8_seat_6 (by decide) ?_
  refine lv_isub hx hb dX8_seat_7 ?_
  refine goI hw (runSW (As := [.int ro, .int 0, .int (nI n_1 - 1)]) (rest := []) cx hw (c_X8_isIn l D a cI cZ f u ro 0 (nI n_1 - 1)  ) lk_X8_95 ⟨Nat.le_of_ble_eq_true rfl, Nat.le_of_ble_eq_true rfl⟩ ⟨rfl, rfl⟩ ⟨Nat.zero_le _, Nat.zero_le _⟩ rfl rfl hl.1 (Nat.le_of_ble_eq_true rfl) dX8_seat_8) (fun r_2 f_2 u_2 H locs hp_2 hw => ?_)
  obtain ⟨rfl, rfl, e_2⟩ := hp_2
  refine topc e_2 ?_
  refine lv_if_ne (tgt := 16) hx hb dX8_seat_11 (by decide) (fun c_3 => ?_) (fun c_3 => ?_)
  · obtain ⟨t_3, ht_3, et_3⟩ := rg_idx (c := n_1) (by omega) c_3
    subst et_3
    refine lv_iload_n hx hb dX8_seat_16 rfl (lv_at hl 2 rfl) ?_
    refine lv_iconst (v := 0) hx hb dX8_seat_17 (by decide) ?_
    refine lv_aload_n hx hb dX8_seat_18 rfl (lv_at hl 0 rfl) ?_
    refine gf_X8_55 cx hw dX8_seat_19 ?_
    refine lv_iload_n hx hb dX8_seat_22 rfl (lv_at hl 1 rfl) ?_
    refine aldN 49 t_3 cx hw rfl (by omega) (by decide) dX8_seat_23 ?_
    refine lv_topi (fun x_4 _ => ?_)
    refine goI hw (runSW (As := [.int n, .int 0, .int x_4]) (rest := []) cx hw (c_X8_isIn l D a cI cZ f u n 0 x_4  ) lk_X8_95 ⟨Nat.le_of_ble_eq_true rfl, Nat.le_of_ble_eq_true rfl⟩ ⟨rfl, rfl⟩ ⟨Nat.zero_le _, Nat.zero_le _⟩ rfl rfl hl.1 (Nat.le_of_ble_eq_true rfl) dX8_seat_24) (fun r_5 f_5 u_5 H locs hp_5 hw => ?_)
    obtain ⟨rfl, rfl, e_5⟩ := hp_5
    refine topc e_5 ?_
    refine lv_if_ne (tgt := 33) hx hb dX8_seat_27 (by decide) (fun c_6 => ?_) (fun c_6 => ?_)
    · refine lv_aload_n hx hb dX8_seat_33 rfl (lv_at hl 0 rfl) ?_
      refine gf_X8_58 cx hw dX8_seat_34 ?_
      refine lv_iload_n hx hb dX8_seat_37 rfl (lv_at hl 1 rfl) ?_
      refine aldN 50 t_3 cx hw rfl (by omega) (by decide) dX8_seat_38 ?_
      refine lv_topi (fun x_7 _ => ?_)
      refine lv_istore_n (lv' := [(3, .int x_7), (0, .ref (a 36)), (1, .int (nI t_3)), (2, .int n)]) hx hb dX8_seat_39 rfl hl (by decide) rfl (fun ls hl => ?_)
      refine lv_aload_n hx hb dX8_seat_40 rfl (lv_at hl 1 rfl) ?_
      refine gf_X8_58 cx hw dX8_seat_41 ?_
      refine lv_iload_n hx hb dX8_seat_44 rfl (lv_at hl 2 rfl) ?_
      refine lv_iload_n hx hb dX8_seat_45 rfl (lv_at hl 3 rfl) ?_
      refine astN 50 t_3 cx hw rfl ws_50 (by omega) (by decide) dX8_seat_46 (fun H locs hw => ?_)
      have hi_8 : IV (up f 50 (upd (f 50) t_3 n)) := IV.wr hi 50 trivial
      refine lv_iload_n hx hb dX8_seat_47 rfl (lv_at hl 0 rfl) ?_
      exact retI cx hw hr hk dX8_seat_48 ⟨hi_8, (KK.wr (by decide) (by decide) KK.rf)⟩
    · refine lv_bipush (v := (-2)) hx hb dX8_seat_30 (by decide) ?_
      exact retI cx hw hr hk dX8_seat_32 ⟨hi, KK.rf⟩
  · refine lv_iconst (v := (-1)) hx hb dX8_seat_14 (by decide) ?_
    exact retI cx hw hr hk dX8_seat_15 ⟨hi, KK.rf⟩

set_option maxHeartbeats 4000000 in
set_option maxRecDepth 100000 in
theorem k_X8_fuel (l : Launch) (D : va_G) (a : Nat → Nat) (cI cZ : ClassId) (f : FF) (u : UU) (tn : Int32) (am : Int32) (hi : IV f)  : KI l yX8_fuel cX8_fuel 4 (some .int) ({ frames := 2, cells := 0, slots := 0, locals := 34 } : Room) D a cI cZ [.ref (a 36), .int tn, .int am] f u (fun r f2 u2 => IV f2 ∧ (r, vM f2) = S_fuel tn am (vM f) ∧ KQ f f2) := by
  refine KX.of (by decide) (Nat.le_of_ble_eq_true rfl) ?_
  intro p e s m below meth c cx hw hr hk ls hl
  have cx : Cx p s m _ c cX8_fuel RX8 4 D cI cZ := cx
  have hl : lv_has ls 4 [(0, .ref (a 36)), (1, .int tn), (2, .int am)] := hl
  have hx := cx.1.1
  have hb := cx.1.2.1
  refine lv_iload_n hx hb dX8_fuel_0 rfl (lv_at hl 1 rfl) ?_
  refine lv_iconst (v := 0) hx hb dX8_fuel_1 (by decide) ?_
  refine lv_aload_n hx hb dX8_fuel_2 rfl (lv_at hl 0 rfl) ?_
  refine gf_X8_119 cx hw dX8_fuel_3 ?_
  obtain ⟨n_1, hn_1, en_1⟩ := IV.s_36_20 hi
  refine topc (y := (nI n_1)) en_1 ?_
  refine lv_iconst (v := 1) hx hb dX8_fuel_6 (by decide) ?_
  refine lv_isub hx hb dX8_fuel_7 ?_
  refine goI hw (runSW (As := [.int tn, .int 0, .int (nI n_1 - 1)]) (rest := []) cx hw (c_X8_isIn l D a cI cZ f u tn 0 (nI n_1 - 1)  ) lk_X8_95 ⟨Nat.le_of_ble_eq_true rfl, Nat.le_of_ble_eq_true rfl⟩ ⟨rfl, rfl⟩ ⟨Nat.zero_le _, Nat.zero_le _⟩ rfl rfl hl.1 (Nat.le_of_ble_eq_true rfl) dX8_fuel_8) (fun r_2 f_2 u_2 H locs hp_2 hw => ?_)
  obtain ⟨rfl, rfl, e_2⟩ := hp_2
  refine topc e_2 ?_
  refine lv_if_ne (tgt := 16) hx hb dX8_fuel_11 (by decide) (fun c_3 => ?_) (fun c_3 => ?_)
  · obtain ⟨t_3, ht_3, et_3⟩ := rg_idx (c := n_1) (by omega) c_3
    subst et_3
    refine lv_iload_n hx hb dX8_fuel_16 rfl (lv_at hl 2 rfl) ?_
    refine lv_iconst (v := 0) hx hb dX8_fuel_17 (by decide) ?_
    refine lv_aload_n hx hb dX8_fuel_18 rfl (lv_at hl 0 rfl) ?_
    refine gf_X8_64 cx hw dX8_fuel_19 ?_
    refine lv_iload_n hx hb dX8_fuel_22 rfl (lv_at hl 1 rfl) ?_
    refine aldN 52 t_3 cx hw rfl (by omega) (by decide) dX8_fuel_23 ?_
    obtain ⟨n_4, hn_4, en_4⟩ := IV.a_52 hi (i := t_3) (by omega)
    refine topc (y := (nI n_4)) en_4 ?_
    refine goI hw (runSW (As := [.int am, .int 0, .int (nI n_4)]) (rest := []) cx hw (c_X8_isIn l D a cI cZ f u am 0 (nI n_4)  ) lk_X8_95 ⟨Nat.le_of_ble_eq_true rfl, Nat.le_of_ble_eq_true rfl⟩ ⟨rfl, rfl⟩ ⟨Nat.zero_le _, Nat.zero_le _⟩ rfl rfl hl.1 (Nat.le_of_ble_eq_true rfl) dX8_fuel_24) (fun r_5 f_5 u_5 H locs hp_5 hw => ?_)
    obtain ⟨rfl, rfl, e_5⟩ := hp_5
    refine topc e_5 ?_
    refine lv_if_ne (tgt := 33) hx hb dX8_fuel_27 (by decide) (fun c_6 => ?_) (fun c_6 => ?_)
    · obtain ⟨t_6, ht_6, et_6⟩ := rg_nat (n := n_4) (nI_toInt (by omega)) c_6
      subst et_6
      refine lv_aload_n hx hb dX8_fuel_33 rfl (lv_at hl 0 rfl) ?_
      refine gf_X8_67 cx hw dX8_fuel_34 ?_
      refine lv_iload_n hx hb dX8_fuel_37 rfl (lv_at hl 1 rfl) ?_
      refine aldN 53 t_3 cx hw rfl (by omega) (by decide) dX8_fuel_38 ?_
      obtain ⟨n_7, hn_7, en_7⟩ := IV.a_53 hi (i := t_3) (by omega)
      refine topc (y := (nI n_7)) en_7 ?_
      refine lv_istore_n (lv' := [(3, .int (nI n_7)), (0, .ref (a 36)), (1, .int (nI t_3)), (2, .int (nI t_6))]) hx hb dX8_fuel_39 rfl hl (by decide) rfl (fun ls hl => ?_)
      refine lv_aload_n hx hb dX8_fuel_40 rfl (lv_at hl 1 rfl) ?_
      refine gf_X8_67 cx hw dX8_fuel_41 ?_
      refine lv_iload_n hx hb dX8_fuel_44 rfl (lv_at hl 2 rfl) ?_
      refine lv_iload_n hx hb dX8_fuel_45 rfl (lv_at hl 3 rfl) ?_
      refine astN 53 t_3 cx hw rfl ws_53 (by omega) (by decide) dX8_fuel_46 (fun H locs hw => ?_)
      have hi_8 : IV (up f 53 (upd (f 53) t_3 (nI t_6))) := IV.b_53 hi (okc_n (j := t_6) (by omega))
      have vp_9 : vM (up f 53 (upd (f 53) t_3 (nI t_6))) = (up (vM f) 3 (upd ((vM f) 3) t_3 (nI t_6))) := (vM_a_53).trans (congrArg (fun z : FF => up z 3 (upd (z 3) t_3 (nI t_6))) (rfl : vM f = (vM f)))
      refine lv_iload_n hx hb dX8_fuel_47 rfl (lv_at hl 0 rfl) ?_
      exact retI cx hw hr hk dX8_fuel_48 ⟨hi_8, ((congrArg (Prod.mk (nI n_7)) (vp_9 : vM (up f 53 (upd (f 53) t_3 (nI t_6))) = (up (vM f) 3 (upd ((vM f) 3) t_3 (nI t_6))))).trans (show _ = S_fuel (nI t_3) (nI t_6) (vM f) from (by unfold S_fuel; rw [show vM f 0 3 = nI n_1 from en_1, if_neg c_3, nI_clamp (by omega), show vM f 2 t_3 = (nI n_4) from en_4, if_neg c_6, show vM f 3 t_3 = (nI n_7) from en_7]; first | done | rfl))), (KQ.wr (by decide) KQ.rf)⟩
    · refine lv_bipush (v := (-2)) hx hb dX8_fuel_30 (by decide) ?_
      exact retI cx hw hr hk dX8_fuel_32 ⟨hi, ((congrArg (Prod.mk (-2)) (rfl : vM f = (vM f))).trans (show _ = S_fuel (nI t_3) am (vM f) from (by unfold S_fuel; rw [show vM f 0 3 = nI n_1 from en_1, if_neg c_3, nI_clamp (by omega), show vM f 2 t_3 = (nI n_4) from en_4, if_pos c_6]))), KQ.rf⟩
  · refine lv_iconst (v := (-1)) hx hb dX8_fuel_14 (by decide) ?_
    exact retI cx hw hr hk dX8_fuel_15 ⟨hi, ((congrArg (Prod.mk (-1)) (rfl : vM f = (vM f))).trans (show _ = S_fuel tn am (vM f) from (by unfold S_fuel; rw [show vM f 0 3 = nI n_1 from en_1, if_pos c_3]))), KQ.rf⟩

set_option maxHeartbeats 4000000 in
set_option maxRecDepth 100000 in
theorem k_X8_point (l : Launch) (D : va_G) (a : Nat → Nat) (cI cZ : ClassId) (f : FF) (u : UU) (ph : Int32) (we : Int32) (lo : Int32) (hg : Int32) (hi : IV f)  : KI l yX8_point cX8_point 6 (some .int) ({ frames := 3, cells := 0, slots := 0, locals := 54 } : Room) D a cI cZ [.ref (a 36), .int ph, .int we, .int lo, .int hg] f u (fun r f2 u2 => IV f2 ∧ (r, vM f2) = S_point ph we lo hg (vM f) ∧ KQ f f2) := by
  refine KX.of (by decide) (Nat.le_of_ble_eq_true rfl) ?_
  intro p e s m below meth c cx hw hr hk ls hl
  have cx : Cx p s m _ c cX8_point RX8 6 D cI cZ := cx
  have hl : lv_has ls 6 [(0, .ref (a 36)), (1, .int ph), (2, .int we), (3, .int lo), (4, .int hg)] := hl
  have hx := cx.1.1
  have hb := cx.1.2.1
  refine lv_iload_n hx hb dX8_point_0 rfl (lv_at hl 1 rfl) ?_
  refine lv_iconst (v := 0) hx hb dX8_point_1 (by decide) ?_
  refine lv_iconst (v := 1) hx hb dX8_point_2 (by decide) ?_
  refine goI hw (runSW (As := [.int ph, .int 0, .int 1]) (rest := []) cx hw (c_X8_isIn l D a cI cZ f u ph 0 1  ) lk_X8_95 ⟨Nat.le_of_ble_eq_true rfl, Nat.le_of_ble_eq_true rfl⟩ ⟨rfl, rfl⟩ ⟨Nat.zero_le _, Nat.zero_le _⟩ rfl rfl hl.1 (Nat.le_of_ble_eq_true rfl) dX8_point_3) (fun r_1 f_1 u_1 H locs hp_1 hw => ?_)
  obtain ⟨rfl, rfl, e_1⟩ := hp_1
  refine topc e_1 ?_
  refine lv_if_ne (tgt := 11) hx hb dX8_point_6 (by decide) (fun c_2 => ?_) (fun c_2 => ?_)
  · rcases rg_01 c_2 with et_2 | et_2
    · subst et_2
      refine lv_aload_n hx hb dX8_point_11 rfl (lv_at hl 0 rfl) ?_
      refine gf_X8_73 cx hw dX8_point_12 ?_
      refine lv_iload_n hx hb dX8_point_15 rfl (lv_at hl 1 rfl) ?_
      refine aldN 54 0 cx hw rfl (by omega) (by decide) dX8_point_16 ?_
      obtain ⟨n_3, hn_3, en_3⟩ := IV.a_54 hi (i := 0) (by omega)
      refine topc (y := (nI n_3)) en_3 ?_
      refine lv_istore (lv' := [(5, .int (nI n_3)), (0, .ref (a 36)), (1, .int 0), (2, .int we), (3, .int lo), (4, .int hg)]) hx hb dX8_point_17 hl (by decide) rfl (fun ls hl => ?_)
      refine lv_iload_n hx hb dX8_point_19 rfl (lv_at hl 3 rfl) ?_
      refine lv_iconst (v := 1) hx hb dX8_point_20 (by decide) ?_
      refine lv_ldc (v := 1000000) hx hb cx.1.2.2.2.1 (cx.1.2.2.2.2 _ mm_4_197) dX8_point_21 ?_
      refine goI hw (runSW (As := [.int we, .int 1, .int 1000000]) (rest := []) cx hw (c_X8_isIn l D a cI cZ f u we 1 1000000  ) lk_X8_95 ⟨Nat.le_of_ble_eq_true rfl, Nat.le_of_ble_eq_true rfl⟩ ⟨rfl, rfl⟩ ⟨Nat.zero_le _, Nat.zero_le _⟩ rfl rfl hl.1 (Nat.le_of_ble_eq_true rfl) dX8_point_23) (fun r_4 f_4 u_4 H locs hp_4 hw => ?_)
      obtain ⟨rfl, rfl, e_4⟩ := hp_4
      refine topc e_4 ?_
      refine lv_if_eq (tgt := 73) hx hb dX8_point_26 (by decide) (fun c_5 => ?_) (fun c_5 => ?_)
      · refine lv_bipush (v := (-2)) hx hb dX8_point_73 (by decide) ?_
        exact retI cx hw hr hk dX8_point_75 ⟨hi, ((congrArg (Prod.mk (-2)) (rfl : vM f = (vM f))).trans (show _ = S_point 0 we lo hg (vM f) from ((if_neg c_2).trans ((if_pos rfl).trans (if_pos (pt_w1 hi (q := 0) (by omega) c_5)))).symm)), KQ.rf⟩
      · obtain ⟨t_5, hs_5, ht_5, et_5⟩ := rg_nat2 (a := 1) (n := 1000000) (by omega) rfl c_5
        subst et_5
        refine lv_iload hx hb dX8_point_29 (lv_at hl 0 rfl) ?_
        refine lv_if_le (tgt := 52) hx hb dX8_point_31 (by decide) (fun c_6 => ?_) (fun c_6 => ?_)
        · have c_6 : n_3 ≤ 0 := (nI_leI (a := n_3) (b := 0) (by omega) (by omega)).mp c_6
          refine lv_iload_n hx hb dX8_point_52 rfl (lv_at hl 4 rfl) ?_
          refine goI hw (runSW (As := [.int lo]) (rest := []) cx hw (c_X8_isArm l D a cI cZ f u lo  ) lk_X8_110 ⟨Nat.le_of_ble_eq_true rfl, Nat.le_of_ble_eq_true rfl⟩ ⟨rfl, rfl⟩ ⟨Nat.zero_le _, Nat.zero_le _⟩ rfl rfl hl.1 (Nat.le_of_ble_eq_true rfl) dX8_point_53) (fun r_7 f_7 u_7 H locs hp_7 hw => ?_)
          obtain ⟨rfl, rfl, e_7⟩ := hp_7
          refine topc e_7 ?_
          refine lv_if_eq (tgt := 73) hx hb dX8_point_56 (by decide) (fun c_8 => ?_) (fun c_8 => ?_)
          · refine lv_bipush (v := (-2)) hx hb dX8_point_73 (by decide) ?_
            exact retI cx hw hr hk dX8_point_75 ⟨hi, ((congrArg (Prod.mk (-2)) (rfl : vM f = (vM f))).trans (show _ = S_point 0 (nI t_5) lo hg (vM f) from ((if_neg c_2).trans ((if_pos rfl).trans ((if_neg (show ¬ rg (nI t_5) (lst 0 (vM f) + 1) 1000000 = 0 from by rw [lst_z (q := 0) (v := vM f) en_3 (by omega)]; exact rg_w3 (by omega) (by omega))).trans (if_pos c_8)))).symm)), KQ.rf⟩
          · obtain ⟨t_8, ht_8, et_8⟩ := rg_nat (n := 5000) rfl c_8
            subst et_8
            refine lv_iload hx hb dX8_point_59 (lv_at hl 5 rfl) ?_
            refine goI hw (runSW (As := [.int hg]) (rest := []) cx hw (c_X8_isArm l D a cI cZ f u hg  ) lk_X8_110 ⟨Nat.le_of_ble_eq_true rfl, Nat.le_of_ble_eq_true rfl⟩ ⟨rfl, rfl⟩ ⟨Nat.zero_le _, Nat.zero_le _⟩ rfl rfl hl.1 (Nat.le_of_ble_eq_true rfl) dX8_point_61) (fun r_9 f_9 u_9 H locs hp_9 hw => ?_)
            obtain ⟨rfl, rfl, e_9⟩ := hp_9
            refine topc e_9 ?_
            refine lv_if_eq (tgt := 73) hx hb dX8_point_64 (by decide) (fun c_10 => ?_) (fun c_10 => ?_)
            · refine lv_bipush (v := (-2)) hx hb dX8_point_73 (by decide) ?_
              exact retI cx hw hr hk dX8_point_75 ⟨hi, ((congrArg (Prod.mk (-2)) (rfl : vM f = (vM f))).trans (show _ = S_point 0 (nI t_5) (nI t_8) hg (vM f) from ((if_neg c_2).trans ((if_pos rfl).trans ((if_neg (show ¬ rg (nI t_5) (lst 0 (vM f) + 1) 1000000 = 0 from by rw [lst_z (q := 0) (v := vM f) en_3 (by omega)]; exact rg_w3 (by omega) (by omega))).trans ((if_neg c_8).trans (if_pos c_10))))).symm)), KQ.rf⟩
            · obtain ⟨t_10, ht_10, et_10⟩ := rg_nat (n := 5000) rfl c_10
              subst et_10
              refine lv_iload_n hx hb dX8_point_67 rfl (lv_at hl 4 rfl) ?_
              refine lv_iload hx hb dX8_point_68 (lv_at hl 5 rfl) ?_
              refine lv_icmp_le (tgt := 76) hx hb dX8_point_70 (by decide) (fun c_11 => ?_) (fun c_11 => ?_)
              · have c_11 : t_8 ≤ t_10 := (nI_leI (a := t_8) (b := t_10) (by omega) (by omega)).mp c_11
                refine lv_iload hx hb dX8_point_76 (lv_at hl 0 rfl) ?_
                refine lv_bipush (v := 10) hx hb dX8_point_78 (by decide) ?_
                refine lv_icmp_ne (tgt := 86) hx hb dX8_point_80 (by decide) (fun c_12 => ?_) (fun c_12 => ?_)
                · have c_12 : ¬ n_3 = 10 := fun z => c_12 ((nI_eq (a := n_3) (b := 10) (by omega) (by omega)).mpr z)
                  refine lv_aload_n hx hb dX8_point_86 rfl (lv_at hl 1 rfl) ?_
                  refine gf_X8_76 cx hw dX8_point_87 ?_
                  refine lv_bipush (v := 10) hx hb dX8_point_90 (by decide) ?_
                  refine lv_iload_n hx hb dX8_point_92 rfl (lv_at hl 2 rfl) ?_
                  refine lv_imul hx hb dX8_point_93 ?_
                  refine topc (y := 0) (by decide) ?_
                  refine lv_iload hx hb dX8_point_94 (lv_at hl 0 rfl) ?_
                  refine lv_iadd hx hb dX8_point_96 ?_
                  refine topc (y := (nI n_3)) ((nI_add 0 n_3).trans (by rw [Nat.zero_add])) ?_
                  refine lv_iload_n hx hb dX8_point_97 rfl (lv_at hl 3 rfl) ?_
                  refine astN 55 n_3 cx hw rfl ws_55 (by omega) (by decide) dX8_point_98 (fun H locs hw => ?_)
                  have hi_13 : IV (up f 55 (upd (f 55) n_3 (nI t_5))) := IV.b_55 hi (okc_n (j := t_5) (by omega))
                  have vp_14 : vM (up f 55 (upd (f 55) n_3 (nI t_5))) = (up (vM f) 5 (upd ((vM f) 5) n_3 (nI t_5))) := (vM_w_0 (by omega)).trans (congrArg (fun z : FF => up z 5 (upd (z 5) n_3 (nI t_5))) (rfl : vM f = (vM f)))
                  refine lv_aload_n hx hb dX8_point_99 rfl (lv_at hl 1 rfl) ?_
                  refine gf_X8_79 cx hw dX8_point_100 ?_
                  refine lv_bipush (v := 10) hx hb dX8_point_103 (by decide) ?_
                  refine lv_iload_n hx hb dX8_point_105 rfl (lv_at hl 2 rfl) ?_
                  refine lv_imul hx hb dX8_point_106 ?_
                  refine topc (y := 0) (by decide) ?_
                  refine lv_iload hx hb dX8_point_107 (lv_at hl 0 rfl) ?_
                  refine lv_iadd hx hb dX8_point_109 ?_
                  refine topc (y := (nI n_3)) ((nI_add 0 n_3).trans (by rw [Nat.zero_add])) ?_
                  refine lv_iload_n hx hb dX8_point_110 rfl (lv_at hl 4 rfl) ?_
                  refine astN 56 n_3 cx hw rfl ws_56 (by omega) (by decide) dX8_point_111 (fun H locs hw => ?_)
                  have hi_15 : IV (up (up f 55 (upd (f 55) n_3 (nI t_5))) 56 (upd ((up f 55 (upd (f 55) n_3 (nI t_5))) 56) n_3 (nI t_8))) := IV.wr hi_13 56 trivial
                  refine lv_aload_n hx hb dX8_point_112 rfl (lv_at hl 1 rfl) ?_
                  refine gf_X8_82 cx hw dX8_point_113 ?_
                  refine lv_bipush (v := 10) hx hb dX8_point_116 (by decide) ?_
                  refine lv_iload_n hx hb dX8_point_118 rfl (lv_at hl 2 rfl) ?_
                  refine lv_imul hx hb dX8_point_119 ?_
                  refine topc (y := 0) (by decide) ?_
                  refine lv_iload hx hb dX8_point_120 (lv_at hl 0 rfl) ?_
                  refine lv_iadd hx hb dX8_point_122 ?_
                  refine topc (y := (nI n_3)) ((nI_add 0 n_3).trans (by rw [Nat.zero_add])) ?_
                  refine lv_iload hx hb dX8_point_123 (lv_at hl 5 rfl) ?_
                  refine astN 57 n_3 cx hw rfl ws_57 (by omega) (by decide) dX8_point_125 (fun H locs hw => ?_)
                  have hi_16 : IV (up (up (up f 55 (upd (f 55) n_3 (nI t_5))) 56 (upd ((up f 55 (upd (f 55) n_3 (nI t_5))) 56) n_3 (nI t_8))) 57 (upd ((up (up f 55 (upd (f 55) n_3 (nI t_5))) 56 (upd ((up f 55 (upd (f 55) n_3 (nI t_5))) 56) n_3 (nI t_8))) 57) n_3 (nI t_10))) := IV.wr hi_15 57 trivial
                  refine lv_aload_n hx hb dX8_point_126 rfl (lv_at hl 1 rfl) ?_
                  refine gf_X8_73 cx hw dX8_point_127 ?_
                  refine lv_iload_n hx hb dX8_point_130 rfl (lv_at hl 2 rfl) ?_
                  refine lv_dup2_11 hx hb dX8_point_131 rfl rfl ?_
                  refine aldN 54 0 cx hw rfl (by omega) (by decide) dX8_point_132 ?_
                  refine topc (y := (nI n_3)) en_3 ?_
                  refine lv_iconst (v := 1) hx hb dX8_point_133 (by decide) ?_
                  refine lv_iadd hx hb dX8_point_134 ?_
                  refine topc (y := (nI (n_3 + 1))) (nI_add n_3 1) ?_
                  refine astN 54 0 cx hw rfl ws_54 (by omega) (by decide) dX8_point_135 (fun H locs hw => ?_)
                  have hi_17 : IV (up (up (up (up f 55 (upd (f 55) n_3 (nI t_5))) 56 (upd ((up f 55 (upd (f 55) n_3 (nI t_5))) 56) n_3 (nI t_8))) 57 (upd ((up (up f 55 (upd (f 55) n_3 (nI t_5))) 56 (upd ((up f 55 (upd (f 55) n_3 (nI t_5))) 56) n_3 (nI t_8))) 57) n_3 (nI t_10))) 54 (upd ((up (up (up f 55 (upd (f 55) n_3 (nI t_5))) 56 (upd ((up f 55 (upd (f 55) n_3 (nI t_5))) 56) n_3 (nI t_8))) 57 (upd ((up (up f 55 (upd (f 55) n_3 (nI t_5))) 56 (upd ((up f 55 (upd (f 55) n_3 (nI t_5))) 56) n_3 (nI t_8))) 57) n_3 (nI t_10))) 54) 0 (nI (n_3 + 1)))) := IV.b_54 hi_16 (okc_n (j := (n_3 + 1)) (by omega))
                  have vp_18 : vM (up (up (up (up f 55 (upd (f 55) n_3 (nI t_5))) 56 (upd ((up f 55 (upd (f 55) n_3 (nI t_5))) 56) n_3 (nI t_8))) 57 (upd ((up (up f 55 (upd (f 55) n_3 (nI t_5))) 56 (upd ((up f 55 (upd (f 55) n_3 (nI t_5))) 56) n_3 (nI t_8))) 57) n_3 (nI t_10))) 54 (upd ((up (up (up f 55 (upd (f 55) n_3 (nI t_5))) 56 (upd ((up f 55 (upd (f 55) n_3 (nI t_5))) 56) n_3 (nI t_8))) 57 (upd ((up (up f 55 (upd (f 55) n_3 (nI t_5))) 56 (upd ((up f 55 (upd (f 55) n_3 (nI t_5))) 56) n_3 (nI t_8))) 57) n_3 (nI t_10))) 54) 0 (nI (n_3 + 1)))) = (up (up (vM f) 5 (upd ((vM f) 5) n_3 (nI t_5))) 4 (upd ((up (vM f) 5 (upd ((vM f) 5) n_3 (nI t_5))) 4) 0 (nI (n_3 + 1)))) := (vM_p_0).trans (congrArg (fun z : FF => up z 4 (upd (z 4) 0 (nI (n_3 + 1)))) (vp_14 : vM (up (up (up f 55 (upd (f 55) n_3 (nI t_5))) 56 (upd ((up f 55 (upd (f 55) n_3 (nI t_5))) 56) n_3 (nI t_8))) 57 (upd ((up (up f 55 (upd (f 55) n_3 (nI t_5))) 56 (upd ((up f 55 (upd (f 55) n_3 (nI t_5))) 56) n_3 (nI t_8))) 57) n_3 (nI t_10))) = (up (vM f) 5 (upd ((vM f) 5) n_3 (nI t_5)))))
                  refine lv_aload_n hx hb dX8_point_136 rfl (lv_at hl 1 rfl) ?_
                  refine gf_X8_73 cx hw dX8_point_137 ?_
                  refine lv_iload_n hx hb dX8_point_140 rfl (lv_at hl 2 rfl) ?_
                  refine aldN 54 0 cx hw rfl (by omega) (by decide) dX8_point_141 ?_
                  refine topc (y := (nI (n_3 + 1))) up_us ?_
                  exact retI cx hw hr hk dX8_point_142 ⟨hi_17, ((congrArg (Prod.mk (nI (n_3 + 1))) (vp_18 : vM (up (up (up (up f 55 (upd (f 55) n_3 (nI t_5))) 56 (upd ((up f 55 (upd (f 55) n_3 (nI t_5))) 56) n_3 (nI t_8))) 57 (upd ((up (up f 55 (upd (f 55) n_3 (nI t_5))) 56 (upd ((up f 55 (upd (f 55) n_3 (nI t_5))) 56) n_3 (nI t_8))) 57) n_3 (nI t_10))) 54 (upd ((up (up (up f 55 (upd (f 55) n_3 (nI t_5))) 56 (upd ((up f 55 (upd (f 55) n_3 (nI t_5))) 56) n_3 (nI t_8))) 57 (upd ((up (up f 55 (upd (f 55) n_3 (nI t_5))) 56 (upd ((up f 55 (upd (f 55) n_3 (nI t_5))) 56) n_3 (nI t_8))) 57) n_3 (nI t_10))) 54) 0 (nI (n_3 + 1)))) = (up (up (vM f) 5 (upd ((vM f) 5) n_3 (nI t_5))) 4 (upd ((up (vM f) 5 (upd ((vM f) 5) n_3 (nI t_5))) 4) 0 (nI (n_3 + 1)))))).trans (show _ = S_point 0 (nI t_5) (nI t_8) (nI t_10) (vM f) from ((if_neg c_2).trans ((if_pos rfl).trans ((if_neg (show ¬ rg (nI t_5) (lst 0 (vM f) + 1) 1000000 = 0 from by rw [lst_z (q := 0) (v := vM f) en_3 (by omega)]; exact rg_w3 (by omega) (by omega))).trans ((if_neg c_8).trans ((if_neg c_10).trans ((if_pos ((nI_leI (a := t_8) (b := t_10) (by omega) (by omega)).mpr c_11)).trans (S_pa_n (q := 0) (v := vM f) (k := n_3) en_3 (by omega) (by omega)))))))).symm)), (KQ.wr (by decide) (KQ.wr (by decide) (KQ.wr (by decide) (KQ.wr (by decide) KQ.rf))))⟩
                · have c_12 : n_3 = 10 := (nI_eq (a := n_3) (b := 10) (by omega) (by omega)).mp c_12
                  refine lv_bipush (v := (-4)) hx hb dX8_point_83 (by decide) ?_
                  exact retI cx hw hr hk dX8_point_85 ⟨hi, ((congrArg (Prod.mk (-4)) (rfl : vM f = (vM f))).trans (show _ = S_point 0 (nI t_5) (nI t_8) (nI t_10) (vM f) from ((if_neg c_2).trans ((if_pos rfl).trans ((if_neg (show ¬ rg (nI t_5) (lst 0 (vM f) + 1) 1000000 = 0 from by rw [lst_z (q := 0) (v := vM f) en_3 (by omega)]; exact rg_w3 (by omega) (by omega))).trans ((if_neg c_8).trans ((if_neg c_10).trans ((if_pos ((nI_leI (a := t_8) (b := t_10) (by omega) (by omega)).mpr c_11)).trans (S_pa_f (q := 0) (v := vM f) (k := n_3) en_3 (by omega)))))))).symm)), KQ.rf⟩
              · have c_11 : ¬ t_8 ≤ t_10 := fun z => c_11 ((nI_leI (a := t_8) (b := t_10) (by omega) (by omega)).mpr z)
                refine lv_bipush (v := (-2)) hx hb dX8_point_73 (by decide) ?_
                exact retI cx hw hr hk dX8_point_75 ⟨hi, ((congrArg (Prod.mk (-2)) (rfl : vM f = (vM f))).trans (show _ = S_point 0 (nI t_5) (nI t_8) (nI t_10) (vM f) from ((if_neg c_2).trans ((if_pos rfl).trans ((if_neg (show ¬ rg (nI t_5) (lst 0 (vM f) + 1) 1000000 = 0 from by rw [lst_z (q := 0) (v := vM f) en_3 (by omega)]; exact rg_w3 (by omega) (by omega))).trans ((if_neg c_8).trans ((if_neg c_10).trans (if_neg (fun z => c_11 ((nI_leI (a := t_8) (b := t_10) (by omega) (by omega)).mp z)))))))).symm)), KQ.rf⟩
        · have c_6 : ¬ n_3 ≤ 0 := fun z => c_6 ((nI_leI (a := n_3) (b := 0) (by omega) (by omega)).mpr z)
          refine lv_iload_n hx hb dX8_point_34 rfl (lv_at hl 3 rfl) ?_
          refine lv_aload_n hx hb dX8_point_35 rfl (lv_at hl 1 rfl) ?_
          refine gf_X8_76 cx hw dX8_point_36 ?_
          refine lv_bipush (v := 10) hx hb dX8_point_39 (by decide) ?_
          refine lv_iload_n hx hb dX8_point_41 rfl (lv_at hl 2 rfl) ?_
          refine lv_imul hx hb dX8_point_42 ?_
          refine topc (y := 0) (by decide) ?_
          refine lv_iload hx hb dX8_point_43 (lv_at hl 0 rfl) ?_
          refine lv_iadd hx hb dX8_point_45 ?_
          refine topc (y := (nI n_3)) ((nI_add 0 n_3).trans (by rw [Nat.zero_add])) ?_
          refine lv_iconst (v := 1) hx hb dX8_point_46 (by decide) ?_
          refine lv_isub hx hb dX8_point_47 ?_
          refine topc (y := (nI (n_3 - 1))) (pk_sub (a := n_3) (b := 1) (by omega)) ?_
          refine aldN 55 (n_3 - 1) cx hw rfl (by omega) (by decide) dX8_point_48 ?_
          obtain ⟨n_19, hn_19, en_19⟩ := IV.a_55 hi (i := (n_3 - 1)) (by omega)
          refine topc (y := (nI n_19)) en_19 ?_
          refine lv_icmp_le (tgt := 73) hx hb dX8_point_49 (by decide) (fun c_20 => ?_) (fun c_20 => ?_)
          · have c_20 : t_5 ≤ n_19 := (nI_leI (a := t_5) (b := n_19) (by omega) (by omega)).mp c_20
            refine lv_bipush (v := (-2)) hx hb dX8_point_73 (by decide) ?_
            exact retI cx hw hr hk dX8_point_75 ⟨hi, ((congrArg (Prod.mk (-2)) (rfl : vM f = (vM f))).trans (show _ = S_point 0 (nI t_5) lo hg (vM f) from ((if_neg c_2).trans ((if_pos rfl).trans (if_pos (show rg (nI t_5) (lst 0 (vM f) + 1) 1000000 = 0 from by rw [lstM0 en_3 (by omega) (by omega) en_19]; exact rg_w2 (by omega) (by omega))))).symm)), KQ.rf⟩
          · have c_20 : ¬ t_5 ≤ n_19 := fun z => c_20 ((nI_leI (a := t_5) (b := n_19) (by omega) (by omega)).mpr z)
            refine lv_iload_n hx hb dX8_point_52 rfl (lv_at hl 4 rfl) ?_
            refine goI hw (runSW (As := [.int lo]) (rest := []) cx hw (c_X8_isArm l D a cI cZ f u lo  ) lk_X8_110 ⟨Nat.le_of_ble_eq_true rfl, Nat.le_of_ble_eq_true rfl⟩ ⟨rfl, rfl⟩ ⟨Nat.zero_le _, Nat.zero_le _⟩ rfl rfl hl.1 (Nat.le_of_ble_eq_true rfl) dX8_point_53) (fun r_21 f_21 u_21 H locs hp_21 hw => ?_)
            obtain ⟨rfl, rfl, e_21⟩ := hp_21
            refine topc e_21 ?_
            refine lv_if_eq (tgt := 73) hx hb dX8_point_56 (by decide) (fun c_22 => ?_) (fun c_22 => ?_)
            · refine lv_bipush (v := (-2)) hx hb dX8_point_73 (by decide) ?_
              exact retI cx hw hr hk dX8_point_75 ⟨hi, ((congrArg (Prod.mk (-2)) (rfl : vM f = (vM f))).trans (show _ = S_point 0 (nI t_5) lo hg (vM f) from ((if_neg c_2).trans ((if_pos rfl).trans ((if_neg (show ¬ rg (nI t_5) (lst 0 (vM f) + 1) 1000000 = 0 from by rw [lstM0 en_3 (by omega) (by omega) en_19]; exact rg_w3 (by omega) (by omega))).trans (if_pos c_22)))).symm)), KQ.rf⟩
            · obtain ⟨t_22, ht_22, et_22⟩ := rg_nat (n := 5000) rfl c_22
              subst et_22
              refine lv_iload hx hb dX8_point_59 (lv_at hl 5 rfl) ?_
              refine goI hw (runSW (As := [.int hg]) (rest := []) cx hw (c_X8_isArm l D a cI cZ f u hg  ) lk_X8_110 ⟨Nat.le_of_ble_eq_true rfl, Nat.le_of_ble_eq_true rfl⟩ ⟨rfl, rfl⟩ ⟨Nat.zero_le _, Nat.zero_le _⟩ rfl rfl hl.1 (Nat.le_of_ble_eq_true rfl) dX8_point_61) (fun r_23 f_23 u_23 H locs hp_23 hw => ?_)
              obtain ⟨rfl, rfl, e_23⟩ := hp_23
              refine topc e_23 ?_
              refine lv_if_eq (tgt := 73) hx hb dX8_point_64 (by decide) (fun c_24 => ?_) (fun c_24 => ?_)
              · refine lv_bipush (v := (-2)) hx hb dX8_point_73 (by decide) ?_
                exact retI cx hw hr hk dX8_point_75 ⟨hi, ((congrArg (Prod.mk (-2)) (rfl : vM f = (vM f))).trans (show _ = S_point 0 (nI t_5) (nI t_22) hg (vM f) from ((if_neg c_2).trans ((if_pos rfl).trans ((if_neg (show ¬ rg (nI t_5) (lst 0 (vM f) + 1) 1000000 = 0 from by rw [lstM0 en_3 (by omega) (by omega) en_19]; exact rg_w3 (by omega) (by omega))).trans ((if_neg c_22).trans (if_pos c_24))))).symm)), KQ.rf⟩
              · obtain ⟨t_24, ht_24, et_24⟩ := rg_nat (n := 5000) rfl c_24
                subst et_24
                refine lv_iload_n hx hb dX8_point_67 rfl (lv_at hl 4 rfl) ?_
                refine lv_iload hx hb dX8_point_68 (lv_at hl 5 rfl) ?_
                refine lv_icmp_le (tgt := 76) hx hb dX8_point_70 (by decide) (fun c_25 => ?_) (fun c_25 => ?_)
                · have c_25 : t_22 ≤ t_24 := (nI_leI (a := t_22) (b := t_24) (by omega) (by omega)).mp c_25
                  refine lv_iload hx hb dX8_point_76 (lv_at hl 0 rfl) ?_
                  refine lv_bipush (v := 10) hx hb dX8_point_78 (by decide) ?_
                  refine lv_icmp_ne (tgt := 86) hx hb dX8_point_80 (by decide) (fun c_26 => ?_) (fun c_26 => ?_)
                  · have c_26 : ¬ n_3 = 10 := fun z => c_26 ((nI_eq (a := n_3) (b := 10) (by omega) (by omega)).mpr z)
                    refine lv_aload_n hx hb dX8_point_86 rfl (lv_at hl 1 rfl) ?_
                    refine gf_X8_76 cx hw dX8_point_87 ?_
                    refine lv_bipush (v := 10) hx hb dX8_point_90 (by decide) ?_
                    refine lv_iload_n hx hb dX8_point_92 rfl (lv_at hl 2 rfl) ?_
                    refine lv_imul hx hb dX8_point_93 ?_
                    refine topc (y := 0) (by decide) ?_
                    refine lv_iload hx hb dX8_point_94 (lv_at hl 0 rfl) ?_
                    refine lv_iadd hx hb dX8_point_96 ?_
                    refine topc (y := (nI n_3)) ((nI_add 0 n_3).trans (by rw [Nat.zero_add])) ?_
                    refine lv_iload_n hx hb dX8_point_97 rfl (lv_at hl 3 rfl) ?_
                    refine astN 55 n_3 cx hw rfl ws_55 (by omega) (by decide) dX8_point_98 (fun H locs hw => ?_)
                    have hi_27 : IV (up f 55 (upd (f 55) n_3 (nI t_5))) := IV.b_55 hi (okc_n (j := t_5) (by omega))
                    have vp_28 : vM (up f 55 (upd (f 55) n_3 (nI t_5))) = (up (vM f) 5 (upd ((vM f) 5) n_3 (nI t_5))) := (vM_w_0 (by omega)).trans (congrArg (fun z : FF => up z 5 (upd (z 5) n_3 (nI t_5))) (rfl : vM f = (vM f)))
                    refine lv_aload_n hx hb dX8_point_99 rfl (lv_at hl 1 rfl) ?_
                    refine gf_X8_79 cx hw dX8_point_100 ?_
                    refine lv_bipush (v := 10) hx hb dX8_point_103 (by decide) ?_
                    refine lv_iload_n hx hb dX8_point_105 rfl (lv_at hl 2 rfl) ?_
                    refine lv_imul hx hb dX8_point_106 ?_
                    refine topc (y := 0) (by decide) ?_
                    refine lv_iload hx hb dX8_point_107 (lv_at hl 0 rfl) ?_
                    refine lv_iadd hx hb dX8_point_109 ?_
                    refine topc (y := (nI n_3)) ((nI_add 0 n_3).trans (by rw [Nat.zero_add])) ?_
                    refine lv_iload_n hx hb dX8_point_110 rfl (lv_at hl 4 rfl) ?_
                    refine astN 56 n_3 cx hw rfl ws_56 (by omega) (by decide) dX8_point_111 (fun H locs hw => ?_)
                    have hi_29 : IV (up (up f 55 (upd (f 55) n_3 (nI t_5))) 56 (upd ((up f 55 (upd (f 55) n_3 (nI t_5))) 56) n_3 (nI t_22))) := IV.wr hi_27 56 trivial
                    refine lv_aload_n hx hb dX8_point_112 rfl (lv_at hl 1 rfl) ?_
                    refine gf_X8_82 cx hw dX8_point_113 ?_
                    refine lv_bipush (v := 10) hx hb dX8_point_116 (by decide) ?_
                    refine lv_iload_n hx hb dX8_point_118 rfl (lv_at hl 2 rfl) ?_
                    refine lv_imul hx hb dX8_point_119 ?_
                    refine topc (y := 0) (by decide) ?_
                    refine lv_iload hx hb dX8_point_120 (lv_at hl 0 rfl) ?_
                    refine lv_iadd hx hb dX8_point_122 ?_
                    refine topc (y := (nI n_3)) ((nI_add 0 n_3).trans (by rw [Nat.zero_add])) ?_
                    refine lv_iload hx hb dX8_point_123 (lv_at hl 5 rfl) ?_
                    refine astN 57 n_3 cx hw rfl ws_57 (by omega) (by decide) dX8_point_125 (fun H locs hw => ?_)
                    have hi_30 : IV (up (up (up f 55 (upd (f 55) n_3 (nI t_5))) 56 (upd ((up f 55 (upd (f 55) n_3 (nI t_5))) 56) n_3 (nI t_22))) 57 (upd ((up (up f 55 (upd (f 55) n_3 (nI t_5))) 56 (upd ((up f 55 (upd (f 55) n_3 (nI t_5))) 56) n_3 (nI t_22))) 57) n_3 (nI t_24))) := IV.wr hi_29 57 trivial
                    refine lv_aload_n hx hb dX8_point_126 rfl (lv_at hl 1 rfl) ?_
                    refine gf_X8_73 cx hw dX8_point_127 ?_
                    refine lv_iload_n hx hb dX8_point_130 rfl (lv_at hl 2 rfl) ?_
                    refine lv_dup2_11 hx hb dX8_point_131 rfl rfl ?_
                    refine aldN 54 0 cx hw rfl (by omega) (by decide) dX8_point_132 ?_
                    refine topc (y := (nI n_3)) en_3 ?_
                    refine lv_iconst (v := 1) hx hb dX8_point_133 (by decide) ?_
                    refine lv_iadd hx hb dX8_point_134 ?_
                    refine topc (y := (nI (n_3 + 1))) (nI_add n_3 1) ?_
                    refine astN 54 0 cx hw rfl ws_54 (by omega) (by decide) dX8_point_135 (fun H locs hw => ?_)
                    have hi_31 : IV (up (up (up (up f 55 (upd (f 55) n_3 (nI t_5))) 56 (upd ((up f 55 (upd (f 55) n_3 (nI t_5))) 56) n_3 (nI t_22))) 57 (upd ((up (up f 55 (upd (f 55) n_3 (nI t_5))) 56 (upd ((up f 55 (upd (f 55) n_3 (nI t_5))) 56) n_3 (nI t_22))) 57) n_3 (nI t_24))) 54 (upd ((up (up (up f 55 (upd (f 55) n_3 (nI t_5))) 56 (upd ((up f 55 (upd (f 55) n_3 (nI t_5))) 56) n_3 (nI t_22))) 57 (upd ((up (up f 55 (upd (f 55) n_3 (nI t_5))) 56 (upd ((up f 55 (upd (f 55) n_3 (nI t_5))) 56) n_3 (nI t_22))) 57) n_3 (nI t_24))) 54) 0 (nI (n_3 + 1)))) := IV.b_54 hi_30 (okc_n (j := (n_3 + 1)) (by omega))
                    have vp_32 : vM (up (up (up (up f 55 (upd (f 55) n_3 (nI t_5))) 56 (upd ((up f 55 (upd (f 55) n_3 (nI t_5))) 56) n_3 (nI t_22))) 57 (upd ((up (up f 55 (upd (f 55) n_3 (nI t_5))) 56 (upd ((up f 55 (upd (f 55) n_3 (nI t_5))) 56) n_3 (nI t_22))) 57) n_3 (nI t_24))) 54 (upd ((up (up (up f 55 (upd (f 55) n_3 (nI t_5))) 56 (upd ((up f 55 (upd (f 55) n_3 (nI t_5))) 56) n_3 (nI t_22))) 57 (upd ((up (up f 55 (upd (f 55) n_3 (nI t_5))) 56 (upd ((up f 55 (upd (f 55) n_3 (nI t_5))) 56) n_3 (nI t_22))) 57) n_3 (nI t_24))) 54) 0 (nI (n_3 + 1)))) = (up (up (vM f) 5 (upd ((vM f) 5) n_3 (nI t_5))) 4 (upd ((up (vM f) 5 (upd ((vM f) 5) n_3 (nI t_5))) 4) 0 (nI (n_3 + 1)))) := (vM_p_0).trans (congrArg (fun z : FF => up z 4 (upd (z 4) 0 (nI (n_3 + 1)))) (vp_28 : vM (up (up (up f 55 (upd (f 55) n_3 (nI t_5))) 56 (upd ((up f 55 (upd (f 55) n_3 (nI t_5))) 56) n_3 (nI t_22))) 57 (upd ((up (up f 55 (upd (f 55) n_3 (nI t_5))) 56 (upd ((up f 55 (upd (f 55) n_3 (nI t_5))) 56) n_3 (nI t_22))) 57) n_3 (nI t_24))) = (up (vM f) 5 (upd ((vM f) 5) n_3 (nI t_5)))))
                    refine lv_aload_n hx hb dX8_point_136 rfl (lv_at hl 1 rfl) ?_
                    refine gf_X8_73 cx hw dX8_point_137 ?_
                    refine lv_iload_n hx hb dX8_point_140 rfl (lv_at hl 2 rfl) ?_
                    refine aldN 54 0 cx hw rfl (by omega) (by decide) dX8_point_141 ?_
                    refine topc (y := (nI (n_3 + 1))) up_us ?_
                    exact retI cx hw hr hk dX8_point_142 ⟨hi_31, ((congrArg (Prod.mk (nI (n_3 + 1))) (vp_32 : vM (up (up (up (up f 55 (upd (f 55) n_3 (nI t_5))) 56 (upd ((up f 55 (upd (f 55) n_3 (nI t_5))) 56) n_3 (nI t_22))) 57 (upd ((up (up f 55 (upd (f 55) n_3 (nI t_5))) 56 (upd ((up f 55 (upd (f 55) n_3 (nI t_5))) 56) n_3 (nI t_22))) 57) n_3 (nI t_24))) 54 (upd ((up (up (up f 55 (upd (f 55) n_3 (nI t_5))) 56 (upd ((up f 55 (upd (f 55) n_3 (nI t_5))) 56) n_3 (nI t_22))) 57 (upd ((up (up f 55 (upd (f 55) n_3 (nI t_5))) 56 (upd ((up f 55 (upd (f 55) n_3 (nI t_5))) 56) n_3 (nI t_22))) 57) n_3 (nI t_24))) 54) 0 (nI (n_3 + 1)))) = (up (up (vM f) 5 (upd ((vM f) 5) n_3 (nI t_5))) 4 (upd ((up (vM f) 5 (upd ((vM f) 5) n_3 (nI t_5))) 4) 0 (nI (n_3 + 1)))))).trans (show _ = S_point 0 (nI t_5) (nI t_22) (nI t_24) (vM f) from ((if_neg c_2).trans ((if_pos rfl).trans ((if_neg (show ¬ rg (nI t_5) (lst 0 (vM f) + 1) 1000000 = 0 from by rw [lstM0 en_3 (by omega) (by omega) en_19]; exact rg_w3 (by omega) (by omega))).trans ((if_neg c_22).trans ((if_neg c_24).trans ((if_pos ((nI_leI (a := t_22) (b := t_24) (by omega) (by omega)).mpr c_25)).trans (S_pa_n (q := 0) (v := vM f) (k := n_3) en_3 (by omega) (by omega)))))))).symm)), (KQ.wr (by decide) (KQ.wr (by decide) (KQ.wr (by decide) (KQ.wr (by decide) KQ.rf))))⟩
                  · have c_26 : n_3 = 10 := (nI_eq (a := n_3) (b := 10) (by omega) (by omega)).mp c_26
                    refine lv_bipush (v := (-4)) hx hb dX8_point_83 (by decide) ?_
                    exact retI cx hw hr hk dX8_point_85 ⟨hi, ((congrArg (Prod.mk (-4)) (rfl : vM f = (vM f))).trans (show _ = S_point 0 (nI t_5) (nI t_22) (nI t_24) (vM f) from ((if_neg c_2).trans ((if_pos rfl).trans ((if_neg (show ¬ rg (nI t_5) (lst 0 (vM f) + 1) 1000000 = 0 from by rw [lstM0 en_3 (by omega) (by omega) en_19]; exact rg_w3 (by omega) (by omega))).trans ((if_neg c_22).trans ((if_neg c_24).trans ((if_pos ((nI_leI (a := t_22) (b := t_24) (by omega) (by omega)).mpr c_25)).trans (S_pa_f (q := 0) (v := vM f) (k := n_3) en_3 (by omega)))))))).symm)), KQ.rf⟩
                · have c_25 : ¬ t_22 ≤ t_24 := fun z => c_25 ((nI_leI (a := t_22) (b := t_24) (by omega) (by omega)).mpr z)
                  refine lv_bipush (v := (-2)) hx hb dX8_point_73 (by decide) ?_
                  exact retI cx hw hr hk dX8_point_75 ⟨hi, ((congrArg (Prod.mk (-2)) (rfl : vM f = (vM f))).trans (show _ = S_point 0 (nI t_5) (nI t_22) (nI t_24) (vM f) from ((if_neg c_2).trans ((if_pos rfl).trans ((if_neg (show ¬ rg (nI t_5) (lst 0 (vM f) + 1) 1000000 = 0 from by rw [lstM0 en_3 (by omega) (by omega) en_19]; exact rg_w3 (by omega) (by omega))).trans ((if_neg c_22).trans ((if_neg c_24).trans (if_neg (fun z => c_25 ((nI_leI (a := t_22) (b := t_24) (by omega) (by omega)).mp z)))))))).symm)), KQ.rf⟩
    · subst et_2
      refine lv_aload_n hx hb dX8_point_11 rfl (lv_at hl 0 rfl) ?_
      refine gf_X8_73 cx hw dX8_point_12 ?_
      refine lv_iload_n hx hb dX8_point_15 rfl (lv_at hl 1 rfl) ?_
      refine aldN 54 1 cx hw rfl (by omega) (by decide) dX8_point_16 ?_
      obtain ⟨n_33, hn_33, en_33⟩ := IV.a_54 hi (i := 1) (by omega)
      refine topc (y := (nI n_33)) en_33 ?_
      refine lv_istore (lv' := [(5, .int (nI n_33)), (0, .ref (a 36)), (1, .int 1), (2, .int we), (3, .int lo), (4, .int hg)]) hx hb dX8_point_17 hl (by decide) rfl (fun ls hl => ?_)
      refine lv_iload_n hx hb dX8_point_19 rfl (lv_at hl 3 rfl) ?_
      refine lv_iconst (v := 1) hx hb dX8_point_20 (by decide) ?_
      refine lv_ldc (v := 1000000) hx hb cx.1.2.2.2.1 (cx.1.2.2.2.2 _ mm_4_197) dX8_point_21 ?_
      refine goI hw (runSW (As := [.int we, .int 1, .int 1000000]) (rest := []) cx hw (c_X8_isIn l D a cI cZ f u we 1 1000000  ) lk_X8_95 ⟨Nat.le_of_ble_eq_true rfl, Nat.le_of_ble_eq_true rfl⟩ ⟨rfl, rfl⟩ ⟨Nat.zero_le _, Nat.zero_le _⟩ rfl rfl hl.1 (Nat.le_of_ble_eq_true rfl) dX8_point_23) (fun r_34 f_34 u_34 H locs hp_34 hw => ?_)
      obtain ⟨rfl, rfl, e_34⟩ := hp_34
      refine topc e_34 ?_
      refine lv_if_eq (tgt := 73) hx hb dX8_point_26 (by decide) (fun c_35 => ?_) (fun c_35 => ?_)
      · refine lv_bipush (v := (-2)) hx hb dX8_point_73 (by decide) ?_
        exact retI cx hw hr hk dX8_point_75 ⟨hi, ((congrArg (Prod.mk (-2)) (rfl : vM f = (vM f))).trans (show _ = S_point 1 we lo hg (vM f) from ((if_neg c_2).trans ((if_neg (show ¬ (1 : Int32) = 0 from by decide)).trans (if_pos (pt_w1 hi (q := 1) (by omega) c_35)))).symm)), KQ.rf⟩
      · obtain ⟨t_35, hs_35, ht_35, et_35⟩ := rg_nat2 (a := 1) (n := 1000000) (by omega) rfl c_35
        subst et_35
        refine lv_iload hx hb dX8_point_29 (lv_at hl 0 rfl) ?_
        refine lv_if_le (tgt := 52) hx hb dX8_point_31 (by decide) (fun c_36 => ?_) (fun c_36 => ?_)
        · have c_36 : n_33 ≤ 0 := (nI_leI (a := n_33) (b := 0) (by omega) (by omega)).mp c_36
          refine lv_iload_n hx hb dX8_point_52 rfl (lv_at hl 4 rfl) ?_
          refine goI hw (runSW (As := [.int lo]) (rest := []) cx hw (c_X8_isArm l D a cI cZ f u lo  ) lk_X8_110 ⟨Nat.le_of_ble_eq_true rfl, Nat.le_of_ble_eq_true rfl⟩ ⟨rfl, rfl⟩ ⟨Nat.zero_le _, Nat.zero_le _⟩ rfl rfl hl.1 (Nat.le_of_ble_eq_true rfl) dX8_point_53) (fun r_37 f_37 u_37 H locs hp_37 hw => ?_)
          obtain ⟨rfl, rfl, e_37⟩ := hp_37
          refine topc e_37 ?_
          refine lv_if_eq (tgt := 73) hx hb dX8_point_56 (by decide) (fun c_38 => ?_) (fun c_38 => ?_)
          · refine lv_bipush (v := (-2)) hx hb dX8_point_73 (by decide) ?_
            exact retI cx hw hr hk dX8_point_75 ⟨hi, ((congrArg (Prod.mk (-2)) (rfl : vM f = (vM f))).trans (show _ = S_point 1 (nI t_35) lo hg (vM f) from ((if_neg c_2).trans ((if_neg (show ¬ (1 : Int32) = 0 from by decide)).trans ((if_neg (show ¬ rg (nI t_35) (lst 1 (vM f) + 1) 1000000 = 0 from by rw [lst_z (q := 1) (v := vM f) en_33 (by omega)]; exact rg_w3 (by omega) (by omega))).trans (if_pos c_38)))).symm)), KQ.rf⟩
          · obtain ⟨t_38, ht_38, et_38⟩ := rg_nat (n := 5000) rfl c_38
            subst et_38
            refine lv_iload hx hb dX8_point_59 (lv_at hl 5 rfl) ?_
            refine goI hw (runSW (As := [.int hg]) (rest := []) cx hw (c_X8_isArm l D a cI cZ f u hg  ) lk_X8_110 ⟨Nat.le_of_ble_eq_true rfl, Nat.le_of_ble_eq_true rfl⟩ ⟨rfl, rfl⟩ ⟨Nat.zero_le _, Nat.zero_le _⟩ rfl rfl hl.1 (Nat.le_of_ble_eq_true rfl) dX8_point_61) (fun r_39 f_39 u_39 H locs hp_39 hw => ?_)
            obtain ⟨rfl, rfl, e_39⟩ := hp_39
            refine topc e_39 ?_
            refine lv_if_eq (tgt := 73) hx hb dX8_point_64 (by decide) (fun c_40 => ?_) (fun c_40 => ?_)
            · refine lv_bipush (v := (-2)) hx hb dX8_point_73 (by decide) ?_
              exact retI cx hw hr hk dX8_point_75 ⟨hi, ((congrArg (Prod.mk (-2)) (rfl : vM f = (vM f))).trans (show _ = S_point 1 (nI t_35) (nI t_38) hg (vM f) from ((if_neg c_2).trans ((if_neg (show ¬ (1 : Int32) = 0 from by decide)).trans ((if_neg (show ¬ rg (nI t_35) (lst 1 (vM f) + 1) 1000000 = 0 from by rw [lst_z (q := 1) (v := vM f) en_33 (by omega)]; exact rg_w3 (by omega) (by omega))).trans ((if_neg c_38).trans (if_pos c_40))))).symm)), KQ.rf⟩
            · obtain ⟨t_40, ht_40, et_40⟩ := rg_nat (n := 5000) rfl c_40
              subst et_40
              refine lv_iload_n hx hb dX8_point_67 rfl (lv_at hl 4 rfl) ?_
              refine lv_iload hx hb dX8_point_68 (lv_at hl 5 rfl) ?_
              refine lv_icmp_le (tgt := 76) hx hb dX8_point_70 (by decide) (fun c_41 => ?_) (fun c_41 => ?_)
              · have c_41 : t_38 ≤ t_40 := (nI_leI (a := t_38) (b := t_40) (by omega) (by omega)).mp c_41
                refine lv_iload hx hb dX8_point_76 (lv_at hl 0 rfl) ?_
                refine lv_bipush (v := 10) hx hb dX8_point_78 (by decide) ?_
                refine lv_icmp_ne (tgt := 86) hx hb dX8_point_80 (by decide) (fun c_42 => ?_) (fun c_42 => ?_)
                · have c_42 : ¬ n_33 = 10 := fun z => c_42 ((nI_eq (a := n_33) (b := 10) (by omega) (by omega)).mpr z)
                  refine lv_aload_n hx hb dX8_point_86 rfl (lv_at hl 1 rfl) ?_
                  refine gf_X8_76 cx hw dX8_point_87 ?_
                  refine lv_bipush (v := 10) hx hb dX8_point_90 (by decide) ?_
                  refine lv_iload_n hx hb dX8_point_92 rfl (lv_at hl 2 rfl) ?_
                  refine lv_imul hx hb dX8_point_93 ?_
                  refine topc (y := 10) (by decide) ?_
                  refine lv_iload hx hb dX8_point_94 (lv_at hl 0 rfl) ?_
                  refine lv_iadd hx hb dX8_point_96 ?_
                  refine topc (y := (nI (10 + n_33))) (nI_add 10 n_33) ?_
                  refine lv_iload_n hx hb dX8_point_97 rfl (lv_at hl 3 rfl) ?_
                  refine astN 55 (10 + n_33) cx hw rfl ws_55 (by omega) (by decide) dX8_point_98 (fun H locs hw => ?_)
                  have hi_43 : IV (up f 55 (upd (f 55) (10 + n_33) (nI t_35))) := IV.b_55 hi (okc_n (j := t_35) (by omega))
                  have vp_44 : vM (up f 55 (upd (f 55) (10 + n_33) (nI t_35))) = (up (vM f) 6 (upd ((vM f) 6) n_33 (nI t_35))) := (vM_w_1 (by omega)).trans (congrArg (fun z : FF => up z 6 (upd (z 6) n_33 (nI t_35))) (rfl : vM f = (vM f)))
                  refine lv_aload_n hx hb dX8_point_99 rfl (lv_at hl 1 rfl) ?_
                  refine gf_X8_79 cx hw dX8_point_100 ?_
                  refine lv_bipush (v := 10) hx hb dX8_point_103 (by decide) ?_
                  refine lv_iload_n hx hb dX8_point_105 rfl (lv_at hl 2 rfl) ?_
                  refine lv_imul hx hb dX8_point_106 ?_
                  refine topc (y := 10) (by decide) ?_
                  refine lv_iload hx hb dX8_point_107 (lv_at hl 0 rfl) ?_
                  refine lv_iadd hx hb dX8_point_109 ?_
                  refine topc (y := (nI (10 + n_33))) (nI_add 10 n_33) ?_
                  refine lv_iload_n hx hb dX8_point_110 rfl (lv_at hl 4 rfl) ?_
                  refine astN 56 (10 + n_33) cx hw rfl ws_56 (by omega) (by decide) dX8_point_111 (fun H locs hw => ?_)
                  have hi_45 : IV (up (up f 55 (upd (f 55) (10 + n_33) (nI t_35))) 56 (upd ((up f 55 (upd (f 55) (10 + n_33) (nI t_35))) 56) (10 + n_33) (nI t_38))) := IV.wr hi_43 56 trivial
                  refine lv_aload_n hx hb dX8_point_112 rfl (lv_at hl 1 rfl) ?_
                  refine gf_X8_82 cx hw dX8_point_113 ?_
                  refine lv_bipush (v := 10) hx hb dX8_point_116 (by decide) ?_
                  refine lv_iload_n hx hb dX8_point_118 rfl (lv_at hl 2 rfl) ?_
                  refine lv_imul hx hb dX8_point_119 ?_
                  refine topc (y := 10) (by decide) ?_
                  refine lv_iload hx hb dX8_point_120 (lv_at hl 0 rfl) ?_
                  refine lv_iadd hx hb dX8_point_122 ?_
                  refine topc (y := (nI (10 + n_33))) (nI_add 10 n_33) ?_
                  refine lv_iload hx hb dX8_point_123 (lv_at hl 5 rfl) ?_
                  refine astN 57 (10 + n_33) cx hw rfl ws_57 (by omega) (by decide) dX8_point_125 (fun H locs hw => ?_)
                  have hi_46 : IV (up (up (up f 55 (upd (f 55) (10 + n_33) (nI t_35))) 56 (upd ((up f 55 (upd (f 55) (10 + n_33) (nI t_35))) 56) (10 + n_33) (nI t_38))) 57 (upd ((up (up f 55 (upd (f 55) (10 + n_33) (nI t_35))) 56 (upd ((up f 55 (upd (f 55) (10 + n_33) (nI t_35))) 56) (10 + n_33) (nI t_38))) 57) (10 + n_33) (nI t_40))) := IV.wr hi_45 57 trivial
                  refine lv_aload_n hx hb dX8_point_126 rfl (lv_at hl 1 rfl) ?_
                  refine gf_X8_73 cx hw dX8_point_127 ?_
                  refine lv_iload_n hx hb dX8_point_130 rfl (lv_at hl 2 rfl) ?_
                  refine lv_dup2_11 hx hb dX8_point_131 rfl rfl ?_
                  refine aldN 54 1 cx hw rfl (by omega) (by decide) dX8_point_132 ?_
                  refine topc (y := (nI n_33)) en_33 ?_
                  refine lv_iconst (v := 1) hx hb dX8_point_133 (by decide) ?_
                  refine lv_iadd hx hb dX8_point_134 ?_
                  refine topc (y := (nI (n_33 + 1))) (nI_add n_33 1) ?_
                  refine astN 54 1 cx hw rfl ws_54 (by omega) (by decide) dX8_point_135 (fun H locs hw => ?_)
                  have hi_47 : IV (up (up (up (up f 55 (upd (f 55) (10 + n_33) (nI t_35))) 56 (upd ((up f 55 (upd (f 55) (10 + n_33) (nI t_35))) 56) (10 + n_33) (nI t_38))) 57 (upd ((up (up f 55 (upd (f 55) (10 + n_33) (nI t_35))) 56 (upd ((up f 55 (upd (f 55) (10 + n_33) (nI t_35))) 56) (10 + n_33) (nI t_38))) 57) (10 + n_33) (nI t_40))) 54 (upd ((up (up (up f 55 (upd (f 55) (10 + n_33) (nI t_35))) 56 (upd ((up f 55 (upd (f 55) (10 + n_33) (nI t_35))) 56) (10 + n_33) (nI t_38))) 57 (upd ((up (up f 55 (upd (f 55) (10 + n_33) (nI t_35))) 56 (upd ((up f 55 (upd (f 55) (10 + n_33) (nI t_35))) 56) (10 + n_33) (nI t_38))) 57) (10 + n_33) (nI t_40))) 54) 1 (nI (n_33 + 1)))) := IV.b_54 hi_46 (okc_n (j := (n_33 + 1)) (by omega))
                  have vp_48 : vM (up (up (up (up f 55 (upd (f 55) (10 + n_33) (nI t_35))) 56 (upd ((up f 55 (upd (f 55) (10 + n_33) (nI t_35))) 56) (10 + n_33) (nI t_38))) 57 (upd ((up (up f 55 (upd (f 55) (10 + n_33) (nI t_35))) 56 (upd ((up f 55 (upd (f 55) (10 + n_33) (nI t_35))) 56) (10 + n_33) (nI t_38))) 57) (10 + n_33) (nI t_40))) 54 (upd ((up (up (up f 55 (upd (f 55) (10 + n_33) (nI t_35))) 56 (upd ((up f 55 (upd (f 55) (10 + n_33) (nI t_35))) 56) (10 + n_33) (nI t_38))) 57 (upd ((up (up f 55 (upd (f 55) (10 + n_33) (nI t_35))) 56 (upd ((up f 55 (upd (f 55) (10 + n_33) (nI t_35))) 56) (10 + n_33) (nI t_38))) 57) (10 + n_33) (nI t_40))) 54) 1 (nI (n_33 + 1)))) = (up (up (vM f) 6 (upd ((vM f) 6) n_33 (nI t_35))) 4 (upd ((up (vM f) 6 (upd ((vM f) 6) n_33 (nI t_35))) 4) 1 (nI (n_33 + 1)))) := (vM_p_1).trans (congrArg (fun z : FF => up z 4 (upd (z 4) 1 (nI (n_33 + 1)))) (vp_44 : vM (up (up (up f 55 (upd (f 55) (10 + n_33) (nI t_35))) 56 (upd ((up f 55 (upd (f 55) (10 + n_33) (nI t_35))) 56) (10 + n_33) (nI t_38))) 57 (upd ((up (up f 55 (upd (f 55) (10 + n_33) (nI t_35))) 56 (upd ((up f 55 (upd (f 55) (10 + n_33) (nI t_35))) 56) (10 + n_33) (nI t_38))) 57) (10 + n_33) (nI t_40))) = (up (vM f) 6 (upd ((vM f) 6) n_33 (nI t_35)))))
                  refine lv_aload_n hx hb dX8_point_136 rfl (lv_at hl 1 rfl) ?_
                  refine gf_X8_73 cx hw dX8_point_137 ?_
                  refine lv_iload_n hx hb dX8_point_140 rfl (lv_at hl 2 rfl) ?_
                  refine aldN 54 1 cx hw rfl (by omega) (by decide) dX8_point_141 ?_
                  refine topc (y := (nI (n_33 + 1))) up_us ?_
                  exact retI cx hw hr hk dX8_point_142 ⟨hi_47, ((congrArg (Prod.mk (nI (n_33 + 1))) (vp_48 : vM (up (up (up (up f 55 (upd (f 55) (10 + n_33) (nI t_35))) 56 (upd ((up f 55 (upd (f 55) (10 + n_33) (nI t_35))) 56) (10 + n_33) (nI t_38))) 57 (upd ((up (up f 55 (upd (f 55) (10 + n_33) (nI t_35))) 56 (upd ((up f 55 (upd (f 55) (10 + n_33) (nI t_35))) 56) (10 + n_33) (nI t_38))) 57) (10 + n_33) (nI t_40))) 54 (upd ((up (up (up f 55 (upd (f 55) (10 + n_33) (nI t_35))) 56 (upd ((up f 55 (upd (f 55) (10 + n_33) (nI t_35))) 56) (10 + n_33) (nI t_38))) 57 (upd ((up (up f 55 (upd (f 55) (10 + n_33) (nI t_35))) 56 (upd ((up f 55 (upd (f 55) (10 + n_33) (nI t_35))) 56) (10 + n_33) (nI t_38))) 57) (10 + n_33) (nI t_40))) 54) 1 (nI (n_33 + 1)))) = (up (up (vM f) 6 (upd ((vM f) 6) n_33 (nI t_35))) 4 (upd ((up (vM f) 6 (upd ((vM f) 6) n_33 (nI t_35))) 4) 1 (nI (n_33 + 1)))))).trans (show _ = S_point 1 (nI t_35) (nI t_38) (nI t_40) (vM f) from ((if_neg c_2).trans ((if_neg (show ¬ (1 : Int32) = 0 from by decide)).trans ((if_neg (show ¬ rg (nI t_35) (lst 1 (vM f) + 1) 1000000 = 0 from by rw [lst_z (q := 1) (v := vM f) en_33 (by omega)]; exact rg_w3 (by omega) (by omega))).trans ((if_neg c_38).trans ((if_neg c_40).trans ((if_pos ((nI_leI (a := t_38) (b := t_40) (by omega) (by omega)).mpr c_41)).trans (S_pa_n (q := 1) (v := vM f) (k := n_33) en_33 (by omega) (by omega)))))))).symm)), (KQ.wr (by decide) (KQ.wr (by decide) (KQ.wr (by decide) (KQ.wr (by decide) KQ.rf))))⟩
                · have c_42 : n_33 = 10 := (nI_eq (a := n_33) (b := 10) (by omega) (by omega)).mp c_42
                  refine lv_bipush (v := (-4)) hx hb dX8_point_83 (by decide) ?_
                  exact retI cx hw hr hk dX8_point_85 ⟨hi, ((congrArg (Prod.mk (-4)) (rfl : vM f = (vM f))).trans (show _ = S_point 1 (nI t_35) (nI t_38) (nI t_40) (vM f) from ((if_neg c_2).trans ((if_neg (show ¬ (1 : Int32) = 0 from by decide)).trans ((if_neg (show ¬ rg (nI t_35) (lst 1 (vM f) + 1) 1000000 = 0 from by rw [lst_z (q := 1) (v := vM f) en_33 (by omega)]; exact rg_w3 (by omega) (by omega))).trans ((if_neg c_38).trans ((if_neg c_40).trans ((if_pos ((nI_leI (a := t_38) (b := t_40) (by omega) (by omega)).mpr c_41)).trans (S_pa_f (q := 1) (v := vM f) (k := n_33) en_33 (by omega)))))))).symm)), KQ.rf⟩
              · have c_41 : ¬ t_38 ≤ t_40 := fun z => c_41 ((nI_leI (a := t_38) (b := t_40) (by omega) (by omega)).mpr z)
                refine lv_bipush (v := (-2)) hx hb dX8_point_73 (by decide) ?_
                exact retI cx hw hr hk dX8_point_75 ⟨hi, ((congrArg (Prod.mk (-2)) (rfl : vM f = (vM f))).trans (show _ = S_point 1 (nI t_35) (nI t_38) (nI t_40) (vM f) from ((if_neg c_2).trans ((if_neg (show ¬ (1 : Int32) = 0 from by decide)).trans ((if_neg (show ¬ rg (nI t_35) (lst 1 (vM f) + 1) 1000000 = 0 from by rw [lst_z (q := 1) (v := vM f) en_33 (by omega)]; exact rg_w3 (by omega) (by omega))).trans ((if_neg c_38).trans ((if_neg c_40).trans (if_neg (fun z => c_41 ((nI_leI (a := t_38) (b := t_40) (by omega) (by omega)).mp z)))))))).symm)), KQ.rf⟩
        · have c_36 : ¬ n_33 ≤ 0 := fun z => c_36 ((nI_leI (a := n_33) (b := 0) (by omega) (by omega)).mpr z)
          refine lv_iload_n hx hb dX8_point_34 rfl (lv_at hl 3 rfl) ?_
          refine lv_aload_n hx hb dX8_point_35 rfl (lv_at hl 1 rfl) ?_
          refine gf_X8_76 cx hw dX8_point_36 ?_
          refine lv_bipush (v := 10) hx hb dX8_point_39 (by decide) ?_
          refine lv_iload_n hx hb dX8_point_41 rfl (lv_at hl 2 rfl) ?_
          refine lv_imul hx hb dX8_point_42 ?_
          refine topc (y := 10) (by decide) ?_
          refine lv_iload hx hb dX8_point_43 (lv_at hl 0 rfl) ?_
          refine lv_iadd hx hb dX8_point_45 ?_
          refine topc (y := (nI (10 + n_33))) (nI_add 10 n_33) ?_
          refine lv_iconst (v := 1) hx hb dX8_point_46 (by decide) ?_
          refine lv_isub hx hb dX8_point_47 ?_
          refine topc (y := (nI ((10 + n_33) - 1))) (pk_sub (a := (10 + n_33)) (b := 1) (by omega)) ?_
          refine aldN 55 ((10 + n_33) - 1) cx hw rfl (by omega) (by decide) dX8_point_48 ?_
          obtain ⟨n_49, hn_49, en_49⟩ := IV.a_55 hi (i := ((10 + n_33) - 1)) (by omega)
          refine topc (y := (nI n_49)) en_49 ?_
          refine lv_icmp_le (tgt := 73) hx hb dX8_point_49 (by decide) (fun c_50 => ?_) (fun c_50 => ?_)
          · have c_50 : t_35 ≤ n_49 := (nI_leI (a := t_35) (b := n_49) (by omega) (by omega)).mp c_50
            refine lv_bipush (v := (-2)) hx hb dX8_point_73 (by decide) ?_
            exact retI cx hw hr hk dX8_point_75 ⟨hi, ((congrArg (Prod.mk (-2)) (rfl : vM f = (vM f))).trans (show _ = S_point 1 (nI t_35) lo hg (vM f) from ((if_neg c_2).trans ((if_neg (show ¬ (1 : Int32) = 0 from by decide)).trans (if_pos (show rg (nI t_35) (lst 1 (vM f) + 1) 1000000 = 0 from by rw [lstM1 en_33 (by omega) (by omega) en_49]; exact rg_w2 (by omega) (by omega))))).symm)), KQ.rf⟩
          · have c_50 : ¬ t_35 ≤ n_49 := fun z => c_50 ((nI_leI (a := t_35) (b := n_49) (by omega) (by omega)).mpr z)
            refine lv_iload_n hx hb dX8_point_52 rfl (lv_at hl 4 rfl) ?_
            refine goI hw (runSW (As := [.int lo]) (rest := []) cx hw (c_X8_isArm l D a cI cZ f u lo  ) lk_X8_110 ⟨Nat.le_of_ble_eq_true rfl, Nat.le_of_ble_eq_true rfl⟩ ⟨rfl, rfl⟩ ⟨Nat.zero_le _, Nat.zero_le _⟩ rfl rfl hl.1 (Nat.le_of_ble_eq_true rfl) dX8_point_53) (fun r_51 f_51 u_51 H locs hp_51 hw => ?_)
            obtain ⟨rfl, rfl, e_51⟩ := hp_51
            refine topc e_51 ?_
            refine lv_if_eq (tgt := 73) hx hb dX8_point_56 (by decide) (fun c_52 => ?_) (fun c_52 => ?_)
            · refine lv_bipush (v := (-2)) hx hb dX8_point_73 (by decide) ?_
              exact retI cx hw hr hk dX8_point_75 ⟨hi, ((congrArg (Prod.mk (-2)) (rfl : vM f = (vM f))).trans (show _ = S_point 1 (nI t_35) lo hg (vM f) from ((if_neg c_2).trans ((if_neg (show ¬ (1 : Int32) = 0 from by decide)).trans ((if_neg (show ¬ rg (nI t_35) (lst 1 (vM f) + 1) 1000000 = 0 from by rw [lstM1 en_33 (by omega) (by omega) en_49]; exact rg_w3 (by omega) (by omega))).trans (if_pos c_52)))).symm)), KQ.rf⟩
            · obtain ⟨t_52, ht_52, et_52⟩ := rg_nat (n := 5000) rfl c_52
              subst et_52
              refine lv_iload hx hb dX8_point_59 (lv_at hl 5 rfl) ?_
              refine goI hw (runSW (As := [.int hg]) (rest := []) cx hw (c_X8_isArm l D a cI cZ f u hg  ) lk_X8_110 ⟨Nat.le_of_ble_eq_true rfl, Nat.le_of_ble_eq_true rfl⟩ ⟨rfl, rfl⟩ ⟨Nat.zero_le _, Nat.zero_le _⟩ rfl rfl hl.1 (Nat.le_of_ble_eq_true rfl) dX8_point_61) (fun r_53 f_53 u_53 H locs hp_53 hw => ?_)
              obtain ⟨rfl, rfl, e_53⟩ := hp_53
              refine topc e_53 ?_
              refine lv_if_eq (tgt := 73) hx hb dX8_point_64 (by decide) (fun c_54 => ?_) (fun c_54 => ?_)
              · refine lv_bipush (v := (-2)) hx hb dX8_point_73 (by decide) ?_
                exact retI cx hw hr hk dX8_point_75 ⟨hi, ((congrArg (Prod.mk (-2)) (rfl : vM f = (vM f))).trans (show _ = S_point 1 (nI t_35) (nI t_52) hg (vM f) from ((if_neg c_2).trans ((if_neg (show ¬ (1 : Int32) = 0 from by decide)).trans ((if_neg (show ¬ rg (nI t_35) (lst 1 (vM f) + 1) 1000000 = 0 from by rw [lstM1 en_33 (by omega) (by omega) en_49]; exact rg_w3 (by omega) (by omega))).trans ((if_neg c_52).trans (if_pos c_54))))).symm)), KQ.rf⟩
              · obtain ⟨t_54, ht_54, et_54⟩ := rg_nat (n := 5000) rfl c_54
                subst et_54
                refine lv_iload_n hx hb dX8_point_67 rfl (lv_at hl 4 rfl) ?_
                refine lv_iload hx hb dX8_point_68 (lv_at hl 5 rfl) ?_
                refine lv_icmp_le (tgt := 76) hx hb dX8_point_70 (by decide) (fun c_55 => ?_) (fun c_55 => ?_)
                · have c_55 : t_52 ≤ t_54 := (nI_leI (a := t_52) (b := t_54) (by omega) (by omega)).mp c_55
                  refine lv_iload hx hb dX8_point_76 (lv_at hl 0 rfl) ?_
                  refine lv_bipush (v := 10) hx hb dX8_point_78 (by decide) ?_
                  refine lv_icmp_ne (tgt := 86) hx hb dX8_point_80 (by decide) (fun c_56 => ?_) (fun c_56 => ?_)
                  · have c_56 : ¬ n_33 = 10 := fun z => c_56 ((nI_eq (a := n_33) (b := 10) (by omega) (by omega)).mpr z)
                    refine lv_aload_n hx hb dX8_point_86 rfl (lv_at hl 1 rfl) ?_
                    refine gf_X8_76 cx hw dX8_point_87 ?_
                    refine lv_bipush (v := 10) hx hb dX8_point_90 (by decide) ?_
                    refine lv_iload_n hx hb dX8_point_92 rfl (lv_at hl 2 rfl) ?_
                    refine lv_imul hx hb dX8_point_93 ?_
                    refine topc (y := 10) (by decide) ?_
                    refine lv_iload hx hb dX8_point_94 (lv_at hl 0 rfl) ?_
                    refine lv_iadd hx hb dX8_point_96 ?_
                    refine topc (y := (nI (10 + n_33))) (nI_add 10 n_33) ?_
                    refine lv_iload_n hx hb dX8_point_97 rfl (lv_at hl 3 rfl) ?_
                    refine astN 55 (10 + n_33) cx hw rfl ws_55 (by omega) (by decide) dX8_point_98 (fun H locs hw => ?_)
                    have hi_57 : IV (up f 55 (upd (f 55) (10 + n_33) (nI t_35))) := IV.b_55 hi (okc_n (j := t_35) (by omega))
                    have vp_58 : vM (up f 55 (upd (f 55) (10 + n_33) (nI t_35))) = (up (vM f) 6 (upd ((vM f) 6) n_33 (nI t_35))) := (vM_w_1 (by omega)).trans (congrArg (fun z : FF => up z 6 (upd (z 6) n_33 (nI t_35))) (rfl : vM f = (vM f)))
                    refine lv_aload_n hx hb dX8_point_99 rfl (lv_at hl 1 rfl) ?_
                    refine gf_X8_79 cx hw dX8_point_100 ?_
                    refine lv_bipush (v := 10) hx hb dX8_point_103 (by decide) ?_
                    refine lv_iload_n hx hb dX8_point_105 rfl (lv_at hl 2 rfl) ?_
                    refine lv_imul hx hb dX8_point_106 ?_
                    refine topc (y := 10) (by decide) ?_
                    refine lv_iload hx hb dX8_point_107 (lv_at hl 0 rfl) ?_
                    refine lv_iadd hx hb dX8_point_109 ?_
                    refine topc (y := (nI (10 + n_33))) (nI_add 10 n_33) ?_
                    refine lv_iload_n hx hb dX8_point_110 rfl (lv_at hl 4 rfl) ?_
                    refine astN 56 (10 + n_33) cx hw rfl ws_56 (by omega) (by decide) dX8_point_111 (fun H locs hw => ?_)
                    have hi_59 : IV (up (up f 55 (upd (f 55) (10 + n_33) (nI t_35))) 56 (upd ((up f 55 (upd (f 55) (10 + n_33) (nI t_35))) 56) (10 + n_33) (nI t_52))) := IV.wr hi_57 56 trivial
                    refine lv_aload_n hx hb dX8_point_112 rfl (lv_at hl 1 rfl) ?_
                    refine gf_X8_82 cx hw dX8_point_113 ?_
                    refine lv_bipush (v := 10) hx hb dX8_point_116 (by decide) ?_
                    refine lv_iload_n hx hb dX8_point_118 rfl (lv_at hl 2 rfl) ?_
                    refine lv_imul hx hb dX8_point_119 ?_
                    refine topc (y := 10) (by decide) ?_
                    refine lv_iload hx hb dX8_point_120 (lv_at hl 0 rfl) ?_
                    refine lv_iadd hx hb dX8_point_122 ?_
                    refine topc (y := (nI (10 + n_33))) (nI_add 10 n_33) ?_
                    refine lv_iload hx hb dX8_point_123 (lv_at hl 5 rfl) ?_
                    refine astN 57 (10 + n_33) cx hw rfl ws_57 (by omega) (by decide) dX8_point_125 (fun H locs hw => ?_)
                    have hi_60 : IV (up (up (up f 55 (upd (f 55) (10 + n_33) (nI t_35))) 56 (upd ((up f 55 (upd (f 55) (10 + n_33) (nI t_35))) 56) (10 + n_33) (nI t_52))) 57 (upd ((up (up f 55 (upd (f 55) (10 + n_33) (nI t_35))) 56 (upd ((up f 55 (upd (f 55) (10 + n_33) (nI t_35))) 56) (10 + n_33) (nI t_52))) 57) (10 + n_33) (nI t_54))) := IV.wr hi_59 57 trivial
                    refine lv_aload_n hx hb dX8_point_126 rfl (lv_at hl 1 rfl) ?_
                    refine gf_X8_73 cx hw dX8_point_127 ?_
                    refine lv_iload_n hx hb dX8_point_130 rfl (lv_at hl 2 rfl) ?_
                    refine lv_dup2_11 hx hb dX8_point_131 rfl rfl ?_
                    refine aldN 54 1 cx hw rfl (by omega) (by decide) dX8_point_132 ?_
                    refine topc (y := (nI n_33)) en_33 ?_
                    refine lv_iconst (v := 1) hx hb dX8_point_133 (by decide) ?_
                    refine lv_iadd hx hb dX8_point_134 ?_
                    refine topc (y := (nI (n_33 + 1))) (nI_add n_33 1) ?_
                    refine astN 54 1 cx hw rfl ws_54 (by omega) (by decide) dX8_point_135 (fun H locs hw => ?_)
                    have hi_61 : IV (up (up (up (up f 55 (upd (f 55) (10 + n_33) (nI t_35))) 56 (upd ((up f 55 (upd (f 55) (10 + n_33) (nI t_35))) 56) (10 + n_33) (nI t_52))) 57 (upd ((up (up f 55 (upd (f 55) (10 + n_33) (nI t_35))) 56 (upd ((up f 55 (upd (f 55) (10 + n_33) (nI t_35))) 56) (10 + n_33) (nI t_52))) 57) (10 + n_33) (nI t_54))) 54 (upd ((up (up (up f 55 (upd (f 55) (10 + n_33) (nI t_35))) 56 (upd ((up f 55 (upd (f 55) (10 + n_33) (nI t_35))) 56) (10 + n_33) (nI t_52))) 57 (upd ((up (up f 55 (upd (f 55) (10 + n_33) (nI t_35))) 56 (upd ((up f 55 (upd (f 55) (10 + n_33) (nI t_35))) 56) (10 + n_33) (nI t_52))) 57) (10 + n_33) (nI t_54))) 54) 1 (nI (n_33 + 1)))) := IV.b_54 hi_60 (okc_n (j := (n_33 + 1)) (by omega))
                    have vp_62 : vM (up (up (up (up f 55 (upd (f 55) (10 + n_33) (nI t_35))) 56 (upd ((up f 55 (upd (f 55) (10 + n_33) (nI t_35))) 56) (10 + n_33) (nI t_52))) 57 (upd ((up (up f 55 (upd (f 55) (10 + n_33) (nI t_35))) 56 (upd ((up f 55 (upd (f 55) (10 + n_33) (nI t_35))) 56) (10 + n_33) (nI t_52))) 57) (10 + n_33) (nI t_54))) 54 (upd ((up (up (up f 55 (upd (f 55) (10 + n_33) (nI t_35))) 56 (upd ((up f 55 (upd (f 55) (10 + n_33) (nI t_35))) 56) (10 + n_33) (nI t_52))) 57 (upd ((up (up f 55 (upd (f 55) (10 + n_33) (nI t_35))) 56 (upd ((up f 55 (upd (f 55) (10 + n_33) (nI t_35))) 56) (10 + n_33) (nI t_52))) 57) (10 + n_33) (nI t_54))) 54) 1 (nI (n_33 + 1)))) = (up (up (vM f) 6 (upd ((vM f) 6) n_33 (nI t_35))) 4 (upd ((up (vM f) 6 (upd ((vM f) 6) n_33 (nI t_35))) 4) 1 (nI (n_33 + 1)))) := (vM_p_1).trans (congrArg (fun z : FF => up z 4 (upd (z 4) 1 (nI (n_33 + 1)))) (vp_58 : vM (up (up (up f 55 (upd (f 55) (10 + n_33) (nI t_35))) 56 (upd ((up f 55 (upd (f 55) (10 + n_33) (nI t_35))) 56) (10 + n_33) (nI t_52))) 57 (upd ((up (up f 55 (upd (f 55) (10 + n_33) (nI t_35))) 56 (upd ((up f 55 (upd (f 55) (10 + n_33) (nI t_35))) 56) (10 + n_33) (nI t_52))) 57) (10 + n_33) (nI t_54))) = (up (vM f) 6 (upd ((vM f) 6) n_33 (nI t_35)))))
                    refine lv_aload_n hx hb dX8_point_136 rfl (lv_at hl 1 rfl) ?_
                    refine gf_X8_73 cx hw dX8_point_137 ?_
                    refine lv_iload_n hx hb dX8_point_140 rfl (lv_at hl 2 rfl) ?_
                    refine aldN 54 1 cx hw rfl (by omega) (by decide) dX8_point_141 ?_
                    refine topc (y := (nI (n_33 + 1))) up_us ?_
                    exact retI cx hw hr hk dX8_point_142 ⟨hi_61, ((congrArg (Prod.mk (nI (n_33 + 1))) (vp_62 : vM (up (up (up (up f 55 (upd (f 55) (10 + n_33) (nI t_35))) 56 (upd ((up f 55 (upd (f 55) (10 + n_33) (nI t_35))) 56) (10 + n_33) (nI t_52))) 57 (upd ((up (up f 55 (upd (f 55) (10 + n_33) (nI t_35))) 56 (upd ((up f 55 (upd (f 55) (10 + n_33) (nI t_35))) 56) (10 + n_33) (nI t_52))) 57) (10 + n_33) (nI t_54))) 54 (upd ((up (up (up f 55 (upd (f 55) (10 + n_33) (nI t_35))) 56 (upd ((up f 55 (upd (f 55) (10 + n_33) (nI t_35))) 56) (10 + n_33) (nI t_52))) 57 (upd ((up (up f 55 (upd (f 55) (10 + n_33) (nI t_35))) 56 (upd ((up f 55 (upd (f 55) (10 + n_33) (nI t_35))) 56) (10 + n_33) (nI t_52))) 57) (10 + n_33) (nI t_54))) 54) 1 (nI (n_33 + 1)))) = (up (up (vM f) 6 (upd ((vM f) 6) n_33 (nI t_35))) 4 (upd ((up (vM f) 6 (upd ((vM f) 6) n_33 (nI t_35))) 4) 1 (nI (n_33 + 1)))))).trans (show _ = S_point 1 (nI t_35) (nI t_52) (nI t_54) (vM f) from ((if_neg c_2).trans ((if_neg (show ¬ (1 : Int32) = 0 from by decide)).trans ((if_neg (show ¬ rg (nI t_35) (lst 1 (vM f) + 1) 1000000 = 0 from by rw [lstM1 en_33 (by omega) (by omega) en_49]; exact rg_w3 (by omega) (by omega))).trans ((if_neg c_52).trans ((if_neg c_54).trans ((if_pos ((nI_leI (a := t_52) (b := t_54) (by omega) (by omega)).mpr c_55)).trans (S_pa_n (q := 1) (v := vM f) (k := n_33) en_33 (by omega) (by omega)))))))).symm)), (KQ.wr (by decide) (KQ.wr (by decide) (KQ.wr (by decide) (KQ.wr (by decide) KQ.rf))))⟩
                  · have c_56 : n_33 = 10 := (nI_eq (a := n_33) (b := 10) (by omega) (by omega)).mp c_56
                    refine lv_bipush (v := (-4)) hx hb dX8_point_83 (by decide) ?_
                    exact retI cx hw hr hk dX8_point_85 ⟨hi, ((congrArg (Prod.mk (-4)) (rfl : vM f = (vM f))).trans (show _ = S_point 1 (nI t_35) (nI t_52) (nI t_54) (vM f) from ((if_neg c_2).trans ((if_neg (show ¬ (1 : Int32) = 0 from by decide)).trans ((if_neg (show ¬ rg (nI t_35) (lst 1 (vM f) + 1) 1000000 = 0 from by rw [lstM1 en_33 (by omega) (by omega) en_49]; exact rg_w3 (by omega) (by omega))).trans ((if_neg c_52).trans ((if_neg c_54).trans ((if_pos ((nI_leI (a := t_52) (b := t_54) (by omega) (by omega)).mpr c_55)).trans (S_pa_f (q := 1) (v := vM f) (k := n_33) en_33 (by omega)))))))).symm)), KQ.rf⟩
                · have c_55 : ¬ t_52 ≤ t_54 := fun z => c_55 ((nI_leI (a := t_52) (b := t_54) (by omega) (by omega)).mpr z)
                  refine lv_bipush (v := (-2)) hx hb dX8_point_73 (by decide) ?_
                  exact retI cx hw hr hk dX8_point_75 ⟨hi, ((congrArg (Prod.mk (-2)) (rfl : vM f = (vM f))).trans (show _ = S_point 1 (nI t_35) (nI t_52) (nI t_54) (vM f) from ((if_neg c_2).trans ((if_neg (show ¬ (1 : Int32) = 0 from by decide)).trans ((if_neg (show ¬ rg (nI t_35) (lst 1 (vM f) + 1) 1000000 = 0 from by rw [lstM1 en_33 (by omega) (by omega) en_49]; exact rg_w3 (by omega) (by omega))).trans ((if_neg c_52).trans ((if_neg c_54).trans (if_neg (fun z => c_55 ((nI_leI (a := t_52) (b := t_54) (by omega) (by omega)).mp z)))))))).symm)), KQ.rf⟩
  · refine lv_iconst (v := (-1)) hx hb dX8_point_9 (by decide) ?_
    exact retI cx hw hr hk dX8_point_10 ⟨hi, ((congrArg (Prod.mk (-1)) (rfl : vM f = (vM f))).trans (show _ = S_point ph we lo hg (vM f) from (if_pos c_2).symm)), KQ.rf⟩

set_option maxHeartbeats 4000000 in
set_option maxRecDepth 100000 in
theorem k_X8_wipe (l : Launch) (D : va_G) (a : Nat → Nat) (cI cZ : ClassId) (f : FF) (u : UU) (ph : Int32) (hi : IV f)  : KI l yX8_wipe cX8_wipe 3 (some .int) ({ frames := 2, cells := 0, slots := 0, locals := 34 } : Room) D a cI cZ [.ref (a 36), .int ph] f u (fun r f2 u2 => IV f2 ∧ (r, vM f2) = S_wipe ph (vM f) ∧ KQ f f2) := by
  refine KX.of (by decide) (Nat.le_of_ble_eq_true rfl) ?_
  intro p e s m below meth c cx hw hr hk ls hl
  have cx : Cx p s m _ c cX8_wipe RX8 3 D cI cZ := cx
  have hl : lv_has ls 3 [(0, .ref (a 36)), (1, .int ph)] := hl
  have hx := cx.1.1
  have hb := cx.1.2.1
  refine lv_iload_n hx hb dX8_wipe_0 rfl (lv_at hl 1 rfl) ?_
  refine lv_iconst (v := 0) hx hb dX8_wipe_1 (by decide) ?_
  refine lv_iconst (v := 1) hx hb dX8_wipe_2 (by decide) ?_
  refine goI hw (runSW (As := [.int ph, .int 0, .int 1]) (rest := []) cx hw (c_X8_isIn l D a cI cZ f u ph 0 1  ) lk_X8_95 ⟨Nat.le_of_ble_eq_true rfl, Nat.le_of_ble_eq_true rfl⟩ ⟨rfl, rfl⟩ ⟨Nat.zero_le _, Nat.zero_le _⟩ rfl rfl hl.1 (Nat.le_of_ble_eq_true rfl) dX8_wipe_3) (fun r_1 f_1 u_1 H locs hp_1 hw => ?_)
  obtain ⟨rfl, rfl, e_1⟩ := hp_1
  refine topc e_1 ?_
  refine lv_if_ne (tgt := 11) hx hb dX8_wipe_6 (by decide) (fun c_2 => ?_) (fun c_2 => ?_)
  · rcases rg_01 c_2 with et_2 | et_2
    · subst et_2
      refine lv_aload_n hx hb dX8_wipe_11 rfl (lv_at hl 0 rfl) ?_
      refine gf_X8_73 cx hw dX8_wipe_12 ?_
      refine lv_iload_n hx hb dX8_wipe_15 rfl (lv_at hl 1 rfl) ?_
      refine aldN 54 0 cx hw rfl (by omega) (by decide) dX8_wipe_16 ?_
      obtain ⟨n_3, hn_3, en_3⟩ := IV.a_54 hi (i := 0) (by omega)
      refine topc (y := (nI n_3)) en_3 ?_
      refine lv_istore_n (lv' := [(2, .int (nI n_3)), (0, .ref (a 36)), (1, .int 0)]) hx hb dX8_wipe_17 rfl hl (by decide) rfl (fun ls hl => ?_)
      refine lv_aload_n hx hb dX8_wipe_18 rfl (lv_at hl 1 rfl) ?_
      refine gf_X8_73 cx hw dX8_wipe_19 ?_
      refine lv_iload_n hx hb dX8_wipe_22 rfl (lv_at hl 2 rfl) ?_
      refine lv_iconst (v := 0) hx hb dX8_wipe_23 (by decide) ?_
      refine astN 54 0 cx hw rfl ws_54 (by omega) (by decide) dX8_wipe_24 (fun H locs hw => ?_)
      have hi_4 : IV (up f 54 (upd (f 54) 0 0)) := IV.b_54 hi (okc_n (j := 0) (by omega))
      have vp_5 : vM (up f 54 (upd (f 54) 0 0)) = (up (vM f) 4 (upd ((vM f) 4) 0 0)) := (vM_p_0).trans (congrArg (fun z : FF => up z 4 (upd (z 4) 0 0)) (rfl : vM f = (vM f)))
      refine lv_iload_n hx hb dX8_wipe_25 rfl (lv_at hl 0 rfl) ?_
      exact retI cx hw hr hk dX8_wipe_26 ⟨hi_4, ((congrArg (Prod.mk (nI n_3)) (vp_5 : vM (up f 54 (upd (f 54) 0 0)) = (up (vM f) 4 (upd ((vM f) 4) 0 0)))).trans (show _ = S_wipe 0 (vM f) from ((if_neg c_2).trans ((if_pos rfl).trans (S_wp_e (q := 0) (n := n_3) en_3))).symm)), (KQ.wr (by decide) KQ.rf)⟩
    · subst et_2
      refine lv_aload_n hx hb dX8_wipe_11 rfl (lv_at hl 0 rfl) ?_
      refine gf_X8_73 cx hw dX8_wipe_12 ?_
      refine lv_iload_n hx hb dX8_wipe_15 rfl (lv_at hl 1 rfl) ?_
      refine aldN 54 1 cx hw rfl (by omega) (by decide) dX8_wipe_16 ?_
      obtain ⟨n_6, hn_6, en_6⟩ := IV.a_54 hi (i := 1) (by omega)
      refine topc (y := (nI n_6)) en_6 ?_
      refine lv_istore_n (lv' := [(2, .int (nI n_6)), (0, .ref (a 36)), (1, .int 1)]) hx hb dX8_wipe_17 rfl hl (by decide) rfl (fun ls hl => ?_)
      refine lv_aload_n hx hb dX8_wipe_18 rfl (lv_at hl 1 rfl) ?_
      refine gf_X8_73 cx hw dX8_wipe_19 ?_
      refine lv_iload_n hx hb dX8_wipe_22 rfl (lv_at hl 2 rfl) ?_
      refine lv_iconst (v := 0) hx hb dX8_wipe_23 (by decide) ?_
      refine astN 54 1 cx hw rfl ws_54 (by omega) (by decide) dX8_wipe_24 (fun H locs hw => ?_)
      have hi_7 : IV (up f 54 (upd (f 54) 1 0)) := IV.b_54 hi (okc_n (j := 0) (by omega))
      have vp_8 : vM (up f 54 (upd (f 54) 1 0)) = (up (vM f) 4 (upd ((vM f) 4) 1 0)) := (vM_p_1).trans (congrArg (fun z : FF => up z 4 (upd (z 4) 1 0)) (rfl : vM f = (vM f)))
      refine lv_iload_n hx hb dX8_wipe_25 rfl (lv_at hl 0 rfl) ?_
      exact retI cx hw hr hk dX8_wipe_26 ⟨hi_7, ((congrArg (Prod.mk (nI n_6)) (vp_8 : vM (up f 54 (upd (f 54) 1 0)) = (up (vM f) 4 (upd ((vM f) 4) 1 0)))).trans (show _ = S_wipe 1 (vM f) from ((if_neg c_2).trans ((if_neg (by decide)).trans (S_wp_e (q := 1) (n := n_6) en_6))).symm)), (KQ.wr (by decide) KQ.rf)⟩
  · refine lv_iconst (v := (-1)) hx hb dX8_wipe_9 (by decide) ?_
    exact retI cx hw hr hk dX8_wipe_10 ⟨hi, ((congrArg (Prod.mk (-1)) (rfl : vM f = (vM f))).trans (show _ = S_wipe ph (vM f) from (if_pos c_2).symm)), KQ.rf⟩

set_option maxHeartbeats 4000000 in
set_option maxRecDepth 100000 in
theorem k_X8_weightAt (l : Launch) (D : va_G) (a : Nat → Nat) (cI cZ : ClassId) (f : FF) (u : UU) (pp : Nat) (hi : IV f) (h_p : pp < 32) : KI l yX8_weightAt cX8_weightAt 2 (some .int) ({ frames := 1, cells := 0, slots := 0, locals := 12 } : Room) D a cI cZ [.ref (a 36), .int (nI pp)] f u (fun r f2 u2 => f = f2 ∧ u = u2) := by
  refine KX.of (by decide) (Nat.le_of_ble_eq_true rfl) ?_
  intro p e s m below meth c cx hw hr hk ls hl
  have cx : Cx p s m _ c cX8_weightAt RX8 2 D cI cZ := cx
  have hl : lv_has ls 2 [(0, .ref (a 36)), (1, .int (nI pp))] := hl
  have hx := cx.1.1
  have hb := cx.1.2.1
  refine lv_aload_n hx hb dX8_weightAt_0 rfl (lv_at hl 0 rfl) ?_
  refine gf_X8_34 cx hw dX8_weightAt_1 ?_
  refine lv_iload_n hx hb dX8_weightAt_4 rfl (lv_at hl 1 rfl) ?_
  refine aldN 42 pp cx hw rfl (by omega) (by decide) dX8_weightAt_5 ?_
  rcases IV.a_42 hi (i := pp) (by omega) with en_1 | ⟨n_1, hn_1, en_1⟩
  · refine topc (y := (-1)) en_1 ?_
    refine lv_iconst (v := (-1)) hx hb dX8_weightAt_6 (by decide) ?_
    refine lv_icmp_ne (tgt := 14) hx hb dX8_weightAt_7 (by decide) (fun q => absurd (by decide) q) (fun _ => ?_)
    refine lv_iconst (v := 0) hx hb dX8_weightAt_10 (by decide) ?_
    refine lv_goto (tgt := 25) hx hb dX8_weightAt_11 (by decide) ?_
    exact retI cx hw hr hk dX8_weightAt_25 ⟨rfl, rfl⟩
  · refine topc (y := (nI n_1)) en_1 ?_
    refine lv_iconst (v := (-1)) hx hb dX8_weightAt_6 (by decide) ?_
    refine lv_icmp_ne (tgt := 14) hx hb dX8_weightAt_7 (by decide) (fun _ => ?_) (fun q => absurd q (nI_m1 (by omega)))
    refine lv_aload_n hx hb dX8_weightAt_14 rfl (lv_at hl 0 rfl) ?_
    refine gf_X8_40 cx hw dX8_weightAt_15 ?_
    refine lv_aload_n hx hb dX8_weightAt_18 rfl (lv_at hl 0 rfl) ?_
    refine gf_X8_34 cx hw dX8_weightAt_19 ?_
    refine lv_iload_n hx hb dX8_weightAt_22 rfl (lv_at hl 1 rfl) ?_
    refine aldN 42 pp cx hw rfl (by omega) (by decide) dX8_weightAt_23 ?_
    refine topc (y := (nI n_1)) en_1 ?_
    refine aldN 44 n_1 cx hw rfl (by omega) (by decide) dX8_weightAt_24 ?_
    refine lv_topi (fun x_4 _ => ?_)
    exact retI cx hw hr hk dX8_weightAt_25 ⟨rfl, rfl⟩

set_option maxHeartbeats 4000000 in
set_option maxRecDepth 100000 in
theorem k_X8_weightOf (l : Launch) (D : va_G) (a : Nat → Nat) (cI cZ : ClassId) (f : FF) (u : UU) (h : Nat) (hi : IV f) (h_h : h < 4) : KI l yX8_weightOf cX8_weightOf 4 (some .int) ({ frames := 2, cells := 0, slots := 0, locals := 33 } : Room) D a cI cZ [.ref (a 36), .int (nI h)] f u (fun r f2 u2 => f = f2 ∧ u = u2) := by
  refine KX.of (by decide) (Nat.le_of_ble_eq_true rfl) ?_
  intro p e s m below meth c cx hw hr hk ls hl
  have cx : Cx p s m _ c cX8_weightOf RX8 4 D cI cZ := cx
  have hl : lv_has ls 4 [(0, .ref (a 36)), (1, .int (nI h))] := hl
  have hx := cx.1.1
  have hb := cx.1.2.1
  refine lv_iconst (v := 0) hx hb dX8_weightOf_0 (by decide) ?_
  refine lv_istore_n (lv' := [(2, .int 0), (0, .ref (a 36)), (1, .int (nI h))]) hx hb dX8_weightOf_1 rfl hl (by decide) rfl (fun ls hl => ?_)
  refine lv_iconst (v := 0) hx hb dX8_weightOf_2 (by decide) ?_
  refine lv_istore_n (lv' := [(3, .int 0), (2, .int 0), (0, .ref (a 36)), (1, .int (nI h))]) hx hb dX8_weightOf_3 rfl hl (by decide) rfl (fun ls hl => ?_)
  have loop_1 : ∀ (k_1 : Nat) (v3_1 : Nat) (v2_1 : Int32), v3_1 ≤ 8 → 8 + 1 - v3_1 < k_1 → ∀ (H : Heap) (locs : List Loc) (ls : Array Slot), Wd D a cI cZ s f u H locs → lv_has ls 4 [(3, .int (nI v3_1)), (2, .int v2_1), (0, .ref (a 36)), (1, .int (nI h))] → W p l e ({ frames := 2, cells := 0, slots := 0, locals := 33 } : Room) s m ([.ref (a 36), .int (nI h)] : List Value).toArray below meth c H locs 0 0 (MQ below (QI D a cI cZ (fun r f2 u2 => f = f2 ∧ u = u2)) ([.ref (a 36), .int (nI h)] : List Value).toArray s 0 0 (AA a)) (F0 m 4 ls []) := by
    intro k_1
    induction k_1 with
    | zero => intros; omega
    | succ k_1 ih_1 =>
      intro v3_1 v2_1  hb0_1  hm_1  H locs ls hw hl
      refine lv_iload_n hx hb dX8_weightOf_4 rfl (lv_at hl 0 rfl) ?_
      refine lv_aload_n hx hb dX8_weightOf_5 rfl (lv_at hl 2 rfl) ?_
      refine gf_X8_25 cx hw dX8_weightOf_6 ?_
      refine lv_iload_n hx hb dX8_weightOf_9 rfl (lv_at hl 3 rfl) ?_
      refine aldN 39 h cx hw rfl (by omega) (by decide) dX8_weightOf_10 ?_
      obtain ⟨n_2, hn_2, en_2⟩ := IV.a_39 hi (i := h) (by omega)
      refine topc (y := (nI n_2)) en_2 ?_
      refine lv_icmp_ge (tgt := 33) hx hb dX8_weightOf_11 (by decide) (fun c_3 => ?_) (fun c_3 => ?_)
      · have c_3 : n_2 ≤ v3_1 := (nI_leI (a := n_2) (b := v3_1) (by omega) (by omega)).mp c_3
        refine lv_iload_n hx hb dX8_weightOf_33 rfl (lv_at hl 1 rfl) ?_
        exact retI cx hw hr hk dX8_weightOf_34 ⟨rfl, rfl⟩
      · have c_3 : ¬ n_2 ≤ v3_1 := fun z => c_3 ((nI_leI (a := n_2) (b := v3_1) (by omega) (by omega)).mpr z)
        refine lv_iload_n hx hb dX8_weightOf_14 rfl (lv_at hl 1 rfl) ?_
        refine lv_aload_n hx hb dX8_weightOf_15 rfl (lv_at hl 2 rfl) ?_
        refine lv_bipush (v := 8) hx hb dX8_weightOf_16 (by decide) ?_
        refine lv_iload_n hx hb dX8_weightOf_18 rfl (lv_at hl 3 rfl) ?_
        refine lv_imul hx hb dX8_weightOf_19 ?_
        refine topc (y := (nI (8 * h))) (pk_mul 8 h) ?_
        refine lv_iload_n hx hb dX8_weightOf_20 rfl (lv_at hl 0 rfl) ?_
        refine lv_iadd hx hb dX8_weightOf_21 ?_
        refine topc (y := (nI ((8 * h) + v3_1))) (nI_add (8 * h) v3_1) ?_
        refine goI hw (runVW (k := 36) (As := [.int (nI ((8 * h) + v3_1))]) (rest := [.int v2_1]) cx hw (k_X8_weightAt l D a cI cZ f u ((8 * h) + v3_1)  hi (by omega)) lk_X8_123 rfl rfl ⟨Nat.le_of_ble_eq_true rfl, Nat.le_of_ble_eq_true rfl⟩ ⟨rfl, rfl⟩ ⟨Nat.zero_le _, Nat.zero_le _⟩ rfl rfl hl.1 (Nat.le_of_ble_eq_true rfl) dX8_weightOf_22) (fun r_4 f_4 u_4 H locs hp_4 hw => ?_)
        obtain ⟨rfl, rfl⟩ := hp_4
        refine lv_iadd hx hb dX8_weightOf_25 ?_
        refine lv_topi (fun x_5 _ => ?_)
        refine lv_istore_n (lv' := [(2, .int x_5), (3, .int (nI v3_1)), (0, .ref (a 36)), (1, .int (nI h))]) hx hb dX8_weightOf_26 rfl hl (by decide) rfl (fun ls hl => ?_)
        refine lv_iinc (v := (nI (v3_1 + 1))) (lv' := [(3, .int (nI (v3_1 + 1))), (2, .int x_5), (0, .ref (a 36)), (1, .int (nI h))]) hx hb dX8_weightOf_27 hl (k := 1) rfl (nI_add v3_1 1) (by decide) rfl (fun ls hl => ?_)
        refine lv_goto (tgt := 4) hx hb dX8_weightOf_30 (by decide) ?_
        exact ih_1 (v3_1 + 1) x_5  (by omega) (by omega) _ _ _ hw (lv_sub hl [0, 1, 2, 3] rfl)
  exact loop_1 _ 0 0  (by omega)  (Nat.lt_succ_self _) _ _ _ hw (lv_sub hl [0, 1, 2, 3] rfl)

set_option maxHeartbeats 4000000 in
set_option maxRecDepth 100000 in
theorem k_X8_fitsAt (l : Launch) (D : va_G) (a : Nat → Nat) (cI cZ : ClassId) (f : FF) (u : UU) (i : Nat) (pp : Nat) (hi : IV f) (h_i : i < 40) (h_p : pp < 32) : KI l yX8_fitsAt cX8_fitsAt 7 (some .int) ({ frames := 3, cells := 0, slots := 0, locals := 56 } : Room) D a cI cZ [.ref (a 36), .int (nI i), .int (nI pp)] f u (fun r f2 u2 => f = f2 ∧ u = u2) := by
  refine KX.of (by decide) (Nat.le_of_ble_eq_true rfl) ?_
  intro p e s m below meth c cx hw hr hk ls hl
  have cx : Cx p s m _ c cX8_fitsAt RX8 7 D cI cZ := cx
  have hl : lv_has ls 7 [(0, .ref (a 36)), (1, .int (nI i)), (2, .int (nI pp))] := hl
  have hx := cx.1.1
  have hb := cx.1.2.1
  refine lv_iload_n hx hb dX8_fitsAt_0 rfl (lv_at hl 2 rfl) ?_
  refine lv_bipush (v := 8) hx hb dX8_fitsAt_1 (by decide) ?_
  refine lv_idiv hx hb dX8_fitsAt_3 (by decide) ?_
  refine topc (y := (nI (pp / 8))) (pk_div (a := pp) (d := 8) (by omega) (by decide) (by decide)) ?_
  refine lv_istore_n (lv' := [(3, .int (nI (pp / 8))), (0, .ref (a 36)), (1, .int (nI i)), (2, .int (nI pp))]) hx hb dX8_fitsAt_4 rfl hl (by decide) rfl (fun ls hl => ?_)
  refine lv_iload_n hx hb dX8_fitsAt_5 rfl (lv_at hl 3 rfl) ?_
  refine lv_bipush (v := 8) hx hb dX8_fitsAt_6 (by decide) ?_
  refine lv_irem hx hb dX8_fitsAt_8 (by decide) ?_
  refine topc (y := (nI (pp % 8))) (pk_rem (a := pp) (d := 8) (by omega) (by decide) (by decide)) ?_
  refine lv_istore (lv' := [(4, .int (nI (pp % 8))), (3, .int (nI (pp / 8))), (0, .ref (a 36)), (1, .int (nI i)), (2, .int (nI pp))]) hx hb dX8_fitsAt_9 hl (by decide) rfl (fun ls hl => ?_)
  refine lv_aload_n hx hb dX8_fitsAt_11 rfl (lv_at hl 2 rfl) ?_
  refine gf_X8_34 cx hw dX8_fitsAt_12 ?_
  refine lv_iload_n hx hb dX8_fitsAt_15 rfl (lv_at hl 4 rfl) ?_
  refine aldN 42 pp cx hw rfl (by omega) (by decide) dX8_fitsAt_16 ?_
  rcases IV.a_42 hi (i := pp) (by omega) with en_1 | ⟨n_1, hn_1, en_1⟩
  · refine topc (y := (-1)) en_1 ?_
    refine lv_iconst (v := (-1)) hx hb dX8_fitsAt_17 (by decide) ?_
    refine lv_icmp_eq (tgt := 23) hx hb dX8_fitsAt_18 (by decide) (fun _ => ?_) (fun q => absurd (by decide) q)
    refine lv_aload_n hx hb dX8_fitsAt_23 rfl (lv_at hl 2 rfl) ?_
    refine gf_X8_40 cx hw dX8_fitsAt_24 ?_
    refine lv_iload_n hx hb dX8_fitsAt_27 rfl (lv_at hl 3 rfl) ?_
    refine aldN 44 i cx hw rfl (by omega) (by decide) dX8_fitsAt_28 ?_
    refine lv_topi (fun x_3 _ => ?_)
    refine lv_aload_n hx hb dX8_fitsAt_29 rfl (lv_at hl 2 rfl) ?_
    refine gf_X8_31 cx hw dX8_fitsAt_30 ?_
    refine lv_iload_n hx hb dX8_fitsAt_33 rfl (lv_at hl 4 rfl) ?_
    refine aldN 41 pp cx hw rfl (by omega) (by decide) dX8_fitsAt_34 ?_
    refine lv_topi (fun x_4 _ => ?_)
    refine lv_icmp_le (tgt := 40) hx hb dX8_fitsAt_35 (by decide) (fun _ => ?_) (fun _ => ?_)
    · refine lv_aload_n hx hb dX8_fitsAt_40 rfl (lv_at hl 2 rfl) ?_
      refine lv_iload_n hx hb dX8_fitsAt_41 rfl (lv_at hl 1 rfl) ?_
      refine goI hw (runVW (k := 36) (As := [.int (nI (pp / 8))]) (rest := []) cx hw (k_X8_weightOf l D a cI cZ f u (pp / 8)  hi (by omega)) lk_X8_127 rfl rfl ⟨Nat.le_of_ble_eq_true rfl, Nat.le_of_ble_eq_true rfl⟩ ⟨rfl, rfl⟩ ⟨Nat.zero_le _, Nat.zero_le _⟩ rfl rfl hl.1 (Nat.le_of_ble_eq_true rfl) dX8_fitsAt_42) (fun r_6 f_6 u_6 H locs hp_6 hw => ?_)
      obtain ⟨rfl, rfl⟩ := hp_6
      refine lv_aload_n hx hb dX8_fitsAt_45 rfl (lv_at hl 2 rfl) ?_
      refine gf_X8_40 cx hw dX8_fitsAt_46 ?_
      refine lv_iload_n hx hb dX8_fitsAt_49 rfl (lv_at hl 3 rfl) ?_
      refine aldN 44 i cx hw rfl (by omega) (by decide) dX8_fitsAt_50 ?_
      refine lv_topi (fun x_7 _ => ?_)
      refine lv_iadd hx hb dX8_fitsAt_51 ?_
      refine lv_topi (fun x_8 _ => ?_)
      refine lv_aload_n hx hb dX8_fitsAt_52 rfl (lv_at hl 2 rfl) ?_
      refine gf_X8_18 cx hw dX8_fitsAt_53 ?_
      refine lv_iload_n hx hb dX8_fitsAt_56 rfl (lv_at hl 1 rfl) ?_
      refine aldN 37 (pp / 8) cx hw rfl (by omega) (by decide) dX8_fitsAt_57 ?_
      refine lv_topi (fun x_9 _ => ?_)
      refine lv_icmp_le (tgt := 63) hx hb dX8_fitsAt_58 (by decide) (fun _ => ?_) (fun _ => ?_)
      · refine lv_iload hx hb dX8_fitsAt_63 (lv_at hl 0 rfl) ?_
        refine lv_if_le (tgt := 91) hx hb dX8_fitsAt_65 (by decide) (fun c_11 => ?_) (fun c_11 => ?_)
        · have c_11 : (pp % 8) ≤ 0 := (nI_leI (a := (pp % 8)) (b := 0) (by omega) (by omega)).mp c_11
          refine lv_iload hx hb dX8_fitsAt_91 (lv_at hl 0 rfl) ?_
          refine lv_iconst (v := 1) hx hb dX8_fitsAt_93 (by decide) ?_
          refine lv_iadd hx hb dX8_fitsAt_94 ?_
          refine topc (y := (nI ((pp % 8) + 1))) (nI_add (pp % 8) 1) ?_
          refine lv_aload_n hx hb dX8_fitsAt_95 rfl (lv_at hl 2 rfl) ?_
          refine gf_X8_25 cx hw dX8_fitsAt_96 ?_
          refine lv_iload_n hx hb dX8_fitsAt_99 rfl (lv_at hl 1 rfl) ?_
          refine aldN 39 (pp / 8) cx hw rfl (by omega) (by decide) dX8_fitsAt_100 ?_
          obtain ⟨n_12, hn_12, en_12⟩ := IV.a_39 hi (i := (pp / 8)) (by omega)
          refine topc (y := (nI n_12)) en_12 ?_
          refine lv_icmp_ge (tgt := 129) hx hb dX8_fitsAt_101 (by decide) (fun c_13 => ?_) (fun c_13 => ?_)
          · have c_13 : n_12 ≤ ((pp % 8) + 1) := (nI_leI (a := n_12) (b := ((pp % 8) + 1)) (by omega) (by omega)).mp c_13
            refine lv_iconst (v := 0) hx hb dX8_fitsAt_129 (by decide) ?_
            refine lv_istore (lv' := [(5, .int 0), (4, .int (nI (pp % 8))), (3, .int (nI (pp / 8))), (0, .ref (a 36)), (1, .int (nI i)), (2, .int (nI pp))]) hx hb dX8_fitsAt_130 hl (by decide) rfl (fun ls hl => ?_)
            have loop_14 : ∀ (k_14 : Nat) (v5_14 : Nat), v5_14 ≤ 8 → 8 + 1 - v5_14 < k_14 → ∀ (H : Heap) (locs : List Loc) (ls : Array Slot), Wd D a cI cZ s f u H locs → lv_has ls 7 [(5, .int (nI v5_14)), (4, .int (nI (pp % 8))), (3, .int (nI (pp / 8))), (0, .ref (a 36)), (1, .int (nI i)), (2, .int (nI pp))] → W p l e ({ frames := 3, cells := 0, slots := 0, locals := 56 } : Room) s m ([.ref (a 36), .int (nI i), .int (nI pp)] : List Value).toArray below meth c H locs 0 0 (MQ below (QI D a cI cZ (fun r f2 u2 => f = f2 ∧ u = u2)) ([.ref (a 36), .int (nI i), .int (nI pp)] : List Value).toArray s 0 0 (AA a)) (F0 m 132 ls []) := by
              intro k_14
              induction k_14 with
              | zero => intros; omega
              | succ k_14 ih_14 =>
                intro v5_14  hb0_14  hm_14  H locs ls hw hl
                refine lv_iload hx hb dX8_fitsAt_132 (lv_at hl 0 rfl) ?_
                refine lv_aload_n hx hb dX8_fitsAt_134 rfl (lv_at hl 3 rfl) ?_
                refine gf_X8_25 cx hw dX8_fitsAt_135 ?_
                refine lv_iload_n hx hb dX8_fitsAt_138 rfl (lv_at hl 2 rfl) ?_
                refine aldN 39 (pp / 8) cx hw rfl (by omega) (by decide) dX8_fitsAt_139 ?_
                refine topc (y := (nI n_12)) en_12 ?_
                refine lv_icmp_ge (tgt := 216) hx hb dX8_fitsAt_140 (by decide) (fun c_15 => ?_) (fun c_15 => ?_)
                · have c_15 : n_12 ≤ v5_14 := (nI_leI (a := n_12) (b := v5_14) (by omega) (by omega)).mp c_15
                  refine lv_iconst (v := 0) hx hb dX8_fitsAt_216 (by decide) ?_
                  exact retI cx hw hr hk dX8_fitsAt_217 ⟨rfl, rfl⟩
                · have c_15 : ¬ n_12 ≤ v5_14 := fun z => c_15 ((nI_leI (a := n_12) (b := v5_14) (by omega) (by omega)).mpr z)
                  refine lv_aload_n hx hb dX8_fitsAt_143 rfl (lv_at hl 3 rfl) ?_
                  refine gf_X8_34 cx hw dX8_fitsAt_144 ?_
                  refine lv_bipush (v := 8) hx hb dX8_fitsAt_147 (by decide) ?_
                  refine lv_iload_n hx hb dX8_fitsAt_149 rfl (lv_at hl 2 rfl) ?_
                  refine lv_imul hx hb dX8_fitsAt_150 ?_
                  refine topc (y := (nI (8 * (pp / 8)))) (pk_mul 8 (pp / 8)) ?_
                  refine lv_iload hx hb dX8_fitsAt_151 (lv_at hl 0 rfl) ?_
                  refine lv_iadd hx hb dX8_fitsAt_153 ?_
                  refine topc (y := (nI ((8 * (pp / 8)) + v5_14))) (nI_add (8 * (pp / 8)) v5_14) ?_
                  refine aldN 42 ((8 * (pp / 8)) + v5_14) cx hw rfl (by omega) (by decide) dX8_fitsAt_154 ?_
                  rcases IV.a_42 hi (i := ((8 * (pp / 8)) + v5_14)) (by omega) with en_16 | ⟨n_16, hn_16, en_16⟩
                  · refine topc (y := (-1)) en_16 ?_
                    refine lv_istore (lv' := [(6, .int (-1)), (5, .int (nI v5_14)), (4, .int (nI (pp % 8))), (3, .int (nI (pp / 8))), (0, .ref (a 36)), (1, .int (nI i)), (2, .int (nI pp))]) hx hb dX8_fitsAt_155 hl (by decide) rfl (fun ls hl => ?_)
                    refine lv_iload hx hb dX8_fitsAt_157 (lv_at hl 0 rfl) ?_
                    refine lv_iconst (v := (-1)) hx hb dX8_fitsAt_159 (by decide) ?_
                    refine lv_icmp_eq (tgt := 210) hx hb dX8_fitsAt_160 (by decide) (fun _ => ?_) (fun q => absurd (by decide) q)
                    refine lv_iinc (v := (nI (v5_14 + 1))) (lv' := [(5, .int (nI (v5_14 + 1))), (6, .int (-1)), (4, .int (nI (pp % 8))), (3, .int (nI (pp / 8))), (0, .ref (a 36)), (1, .int (nI i)), (2, .int (nI pp))]) hx hb dX8_fitsAt_210 hl (k := 1) rfl (nI_add v5_14 1) (by decide) rfl (fun ls hl => ?_)
                    refine lv_goto (tgt := 132) hx hb dX8_fitsAt_213 (by decide) ?_
                    exact ih_14 (v5_14 + 1)  (by omega) (by omega) _ _ _ hw (lv_sub hl [0, 2, 3, 4, 5, 6] rfl)
                  · refine topc (y := (nI n_16)) en_16 ?_
                    refine lv_istore (lv' := [(6, .int (nI n_16)), (5, .int (nI v5_14)), (4, .int (nI (pp % 8))), (3, .int (nI (pp / 8))), (0, .ref (a 36)), (1, .int (nI i)), (2, .int (nI pp))]) hx hb dX8_fitsAt_155 hl (by decide) rfl (fun ls hl => ?_)
                    refine lv_iload hx hb dX8_fitsAt_157 (lv_at hl 0 rfl) ?_
                    refine lv_iconst (v := (-1)) hx hb dX8_fitsAt_159 (by decide) ?_
                    refine lv_icmp_eq (tgt := 210) hx hb dX8_fitsAt_160 (by decide) (fun q => absurd q (nI_m1 (by omega))) (fun _ => ?_)
                    refine lv_iload hx hb dX8_fitsAt_163 (lv_at hl 1 rfl) ?_
                    refine lv_iload hx hb dX8_fitsAt_165 (lv_at hl 2 rfl) ?_
                    refine lv_icmp_ge (tgt := 178) hx hb dX8_fitsAt_167 (by decide) (fun c_19 => ?_) (fun c_19 => ?_)
                    · have c_19 : (pp % 8) ≤ v5_14 := (nI_leI (a := (pp % 8)) (b := v5_14) (by omega) (by omega)).mp c_19
                      refine lv_iload hx hb dX8_fitsAt_178 (lv_at hl 1 rfl) ?_
                      refine lv_iload hx hb dX8_fitsAt_180 (lv_at hl 2 rfl) ?_
                      refine lv_isub hx hb dX8_fitsAt_182 ?_
                      refine lv_topi (fun x_20 _ => ?_)
                      refine lv_aload_n hx hb dX8_fitsAt_183 rfl (lv_at hl 4 rfl) ?_
                      refine gf_X8_37 cx hw dX8_fitsAt_184 ?_
                      refine lv_bipush (v := 8) hx hb dX8_fitsAt_187 (by decide) ?_
                      refine lv_aload_n hx hb dX8_fitsAt_189 rfl (lv_at hl 4 rfl) ?_
                      refine gf_X8_43 cx hw dX8_fitsAt_190 ?_
                      refine lv_iload_n hx hb dX8_fitsAt_193 rfl (lv_at hl 5 rfl) ?_
                      refine aldN 45 i cx hw rfl (by omega) (by decide) dX8_fitsAt_194 ?_
                      obtain ⟨n_21, hn_21, en_21⟩ := IV.a_45 hi (i := i) (by omega)
                      refine topc (y := (nI n_21)) en_21 ?_
                      refine lv_imul hx hb dX8_fitsAt_195 ?_
                      refine topc (y := (nI (8 * n_21))) (pk_mul 8 n_21) ?_
                      refine lv_aload_n hx hb dX8_fitsAt_196 rfl (lv_at hl 4 rfl) ?_
                      refine gf_X8_43 cx hw dX8_fitsAt_197 ?_
                      refine lv_iload hx hb dX8_fitsAt_200 (lv_at hl 0 rfl) ?_
                      refine aldN 45 n_16 cx hw rfl (by omega) (by decide) dX8_fitsAt_202 ?_
                      obtain ⟨n_22, hn_22, en_22⟩ := IV.a_45 hi (i := n_16) (by omega)
                      refine topc (y := (nI n_22)) en_22 ?_
                      refine lv_iadd hx hb dX8_fitsAt_203 ?_
                      refine topc (y := (nI ((8 * n_21) + n_22))) (nI_add (8 * n_21) n_22) ?_
                      refine aldN 43 ((8 * n_21) + n_22) cx hw rfl (by omega) (by decide) dX8_fitsAt_204 ?_
                      refine lv_topi (fun x_23 _ => ?_)
                      refine lv_icmp_ge (tgt := 210) hx hb dX8_fitsAt_205 (by decide) (fun _ => ?_) (fun _ => ?_)
                      · refine lv_iinc (v := (nI (v5_14 + 1))) (lv' := [(5, .int (nI (v5_14 + 1))), (6, .int (nI n_16)), (4, .int (nI (pp % 8))), (3, .int (nI (pp / 8))), (0, .ref (a 36)), (1, .int (nI i)), (2, .int (nI pp))]) hx hb dX8_fitsAt_210 hl (k := 1) rfl (nI_add v5_14 1) (by decide) rfl (fun ls hl => ?_)
                        refine lv_goto (tgt := 132) hx hb dX8_fitsAt_213 (by decide) ?_
                        exact ih_14 (v5_14 + 1)  (by omega) (by omega) _ _ _ hw (lv_sub hl [0, 2, 3, 4, 5, 6] rfl)
                      · refine lv_iconst (v := 5) hx hb dX8_fitsAt_208 (by decide) ?_
                        exact retI cx hw hr hk dX8_fitsAt_209 ⟨rfl, rfl⟩
                    · have c_19 : ¬ (pp % 8) ≤ v5_14 := fun z => c_19 ((nI_leI (a := (pp % 8)) (b := v5_14) (by omega) (by omega)).mpr z)
                      refine lv_iload hx hb dX8_fitsAt_170 (lv_at hl 2 rfl) ?_
                      refine lv_iload hx hb dX8_fitsAt_172 (lv_at hl 1 rfl) ?_
                      refine lv_isub hx hb dX8_fitsAt_174 ?_
                      refine lv_topi (fun x_25 _ => ?_)
                      refine lv_goto (tgt := 183) hx hb dX8_fitsAt_175 (by decide) ?_
                      refine lv_aload_n hx hb dX8_fitsAt_183 rfl (lv_at hl 4 rfl) ?_
                      refine gf_X8_37 cx hw dX8_fitsAt_184 ?_
                      refine lv_bipush (v := 8) hx hb dX8_fitsAt_187 (by decide) ?_
                      refine lv_aload_n hx hb dX8_fitsAt_189 rfl (lv_at hl 4 rfl) ?_
                      refine gf_X8_43 cx hw dX8_fitsAt_190 ?_
                      refine lv_iload_n hx hb dX8_fitsAt_193 rfl (lv_at hl 5 rfl) ?_
                      refine aldN 45 i cx hw rfl (by omega) (by decide) dX8_fitsAt_194 ?_
                      obtain ⟨n_26, hn_26, en_26⟩ := IV.a_45 hi (i := i) (by omega)
                      refine topc (y := (nI n_26)) en_26 ?_
                      refine lv_imul hx hb dX8_fitsAt_195 ?_
                      refine topc (y := (nI (8 * n_26))) (pk_mul 8 n_26) ?_
                      refine lv_aload_n hx hb dX8_fitsAt_196 rfl (lv_at hl 4 rfl) ?_
                      refine gf_X8_43 cx hw dX8_fitsAt_197 ?_
                      refine lv_iload hx hb dX8_fitsAt_200 (lv_at hl 0 rfl) ?_
                      refine aldN 45 n_16 cx hw rfl (by omega) (by decide) dX8_fitsAt_202 ?_
                      obtain ⟨n_27, hn_27, en_27⟩ := IV.a_45 hi (i := n_16) (by omega)
                      refine topc (y := (nI n_27)) en_27 ?_
                      refine lv_iadd hx hb dX8_fitsAt_203 ?_
                      refine topc (y := (nI ((8 * n_26) + n_27))) (nI_add (8 * n_26) n_27) ?_
                      refine aldN 43 ((8 * n_26) + n_27) cx hw rfl (by omega) (by decide) dX8_fitsAt_204 ?_
                      refine lv_topi (fun x_28 _ => ?_)
                      refine lv_icmp_ge (tgt := 210) hx hb dX8_fitsAt_205 (by decide) (fun _ => ?_) (fun _ => ?_)
                      · refine lv_iinc (v := (nI (v5_14 + 1))) (lv' := [(5, .int (nI (v5_14 + 1))), (6, .int (nI n_16)), (4, .int (nI (pp % 8))), (3, .int (nI (pp / 8))), (0, .ref (a 36)), (1, .int (nI i)), (2, .int (nI pp))]) hx hb dX8_fitsAt_210 hl (k := 1) rfl (nI_add v5_14 1) (by decide) rfl (fun ls hl => ?_)
                        refine lv_goto (tgt := 132) hx hb dX8_fitsAt_213 (by decide) ?_
                        exact ih_14 (v5_14 + 1)  (by omega) (by omega) _ _ _ hw (lv_sub hl [0, 2, 3, 4, 5, 6] rfl)
                      · refine lv_iconst (v := 5) hx hb dX8_fitsAt_208 (by decide) ?_
                        exact retI cx hw hr hk dX8_fitsAt_209 ⟨rfl, rfl⟩
            exact loop_14 _ 0  (by omega)  (Nat.lt_succ_self _) _ _ _ hw (lv_sub hl [0, 1, 2, 3, 4, 5] rfl)
          · have c_13 : ¬ n_12 ≤ ((pp % 8) + 1) := fun z => c_13 ((nI_leI (a := n_12) (b := ((pp % 8) + 1)) (by omega) (by omega)).mpr z)
            refine lv_aload_n hx hb dX8_fitsAt_104 rfl (lv_at hl 2 rfl) ?_
            refine lv_iload_n hx hb dX8_fitsAt_105 rfl (lv_at hl 4 rfl) ?_
            refine lv_iconst (v := 1) hx hb dX8_fitsAt_106 (by decide) ?_
            refine lv_iadd hx hb dX8_fitsAt_107 ?_
            refine topc (y := (nI (pp + 1))) (nI_add pp 1) ?_
            refine goI hw (runVW (k := 36) (As := [.int (nI (pp + 1))]) (rest := []) cx hw (k_X8_weightAt l D a cI cZ f u (pp + 1)  hi (by omega)) lk_X8_123 rfl rfl ⟨Nat.le_of_ble_eq_true rfl, Nat.le_of_ble_eq_true rfl⟩ ⟨rfl, rfl⟩ ⟨Nat.zero_le _, Nat.zero_le _⟩ rfl rfl hl.1 (Nat.le_of_ble_eq_true rfl) dX8_fitsAt_108) (fun r_30 f_30 u_30 H locs hp_30 hw => ?_)
            obtain ⟨rfl, rfl⟩ := hp_30
            refine lv_aload_n hx hb dX8_fitsAt_111 rfl (lv_at hl 2 rfl) ?_
            refine gf_X8_40 cx hw dX8_fitsAt_112 ?_
            refine lv_iload_n hx hb dX8_fitsAt_115 rfl (lv_at hl 3 rfl) ?_
            refine aldN 44 i cx hw rfl (by omega) (by decide) dX8_fitsAt_116 ?_
            refine lv_topi (fun x_31 _ => ?_)
            refine lv_iadd hx hb dX8_fitsAt_117 ?_
            refine lv_topi (fun x_32 _ => ?_)
            refine lv_aload_n hx hb dX8_fitsAt_118 rfl (lv_at hl 2 rfl) ?_
            refine gf_X8_22 cx hw dX8_fitsAt_119 ?_
            refine lv_iload_n hx hb dX8_fitsAt_122 rfl (lv_at hl 1 rfl) ?_
            refine aldN 38 (pp / 8) cx hw rfl (by omega) (by decide) dX8_fitsAt_123 ?_
            refine lv_topi (fun x_33 _ => ?_)
            refine lv_icmp_le (tgt := 129) hx hb dX8_fitsAt_124 (by decide) (fun _ => ?_) (fun _ => ?_)
            · refine lv_iconst (v := 0) hx hb dX8_fitsAt_129 (by decide) ?_
              refine lv_istore (lv' := [(5, .int 0), (4, .int (nI (pp % 8))), (3, .int (nI (pp / 8))), (0, .ref (a 36)), (1, .int (nI i)), (2, .int (nI pp))]) hx hb dX8_fitsAt_130 hl (by decide) rfl (fun ls hl => ?_)
              have loop_35 : ∀ (k_35 : Nat) (v5_35 : Nat), v5_35 ≤ 8 → 8 + 1 - v5_35 < k_35 → ∀ (H : Heap) (locs : List Loc) (ls : Array Slot), Wd D a cI cZ s f u H locs → lv_has ls 7 [(5, .int (nI v5_35)), (4, .int (nI (pp % 8))), (3, .int (nI (pp / 8))), (0, .ref (a 36)), (1, .int (nI i)), (2, .int (nI pp))] → W p l e ({ frames := 3, cells := 0, slots := 0, locals := 56 } : Room) s m ([.ref (a 36), .int (nI i), .int (nI pp)] : List Value).toArray below meth c H locs 0 0 (MQ below (QI D a cI cZ (fun r f2 u2 => f = f2 ∧ u = u2)) ([.ref (a 36), .int (nI i), .int (nI pp)] : List Value).toArray s 0 0 (AA a)) (F0 m 132 ls []) := by
                intro k_35
                induction k_35 with
                | zero => intros; omega
                | succ k_35 ih_35 =>
                  intro v5_35  hb0_35  hm_35  H locs ls hw hl
                  refine lv_iload hx hb dX8_fitsAt_132 (lv_at hl 0 rfl) ?_
                  refine lv_aload_n hx hb dX8_fitsAt_134 rfl (lv_at hl 3 rfl) ?_
                  refine gf_X8_25 cx hw dX8_fitsAt_135 ?_
                  refine lv_iload_n hx hb dX8_fitsAt_138 rfl (lv_at hl 2 rfl) ?_
                  refine aldN 39 (pp / 8) cx hw rfl (by omega) (by decide) dX8_fitsAt_139 ?_
                  refine topc (y := (nI n_12)) en_12 ?_
                  refine lv_icmp_ge (tgt := 216) hx hb dX8_fitsAt_140 (by decide) (fun c_36 => ?_) (fun c_36 => ?_)
                  · have c_36 : n_12 ≤ v5_35 := (nI_leI (a := n_12) (b := v5_35) (by omega) (by omega)).mp c_36
                    refine lv_iconst (v := 0) hx hb dX8_fitsAt_216 (by decide) ?_
                    exact retI cx hw hr hk dX8_fitsAt_217 ⟨rfl, rfl⟩
                  · have c_36 : ¬ n_12 ≤ v5_35 := fun z => c_36 ((nI_leI (a := n_12) (b := v5_35) (by omega) (by omega)).mpr z)
                    refine lv_aload_n hx hb dX8_fitsAt_143 rfl (lv_at hl 3 rfl) ?_
                    refine gf_X8_34 cx hw dX8_fitsAt_144 ?_
                    refine lv_bipush (v := 8) hx hb dX8_fitsAt_147 (by decide) ?_
                    refine lv_iload_n hx hb dX8_fitsAt_149 rfl (lv_at hl 2 rfl) ?_
                    refine lv_imul hx hb dX8_fitsAt_150 ?_
                    refine topc (y := (nI (8 * (pp / 8)))) (pk_mul 8 (pp / 8)) ?_
                    refine lv_iload hx hb dX8_fitsAt_151 (lv_at hl 0 rfl) ?_
                    refine lv_iadd hx hb dX8_fitsAt_153 ?_
                    refine topc (y := (nI ((8 * (pp / 8)) + v5_35))) (nI_add (8 * (pp / 8)) v5_35) ?_
                    refine aldN 42 ((8 * (pp / 8)) + v5_35) cx hw rfl (by omega) (by decide) dX8_fitsAt_154 ?_
                    rcases IV.a_42 hi (i := ((8 * (pp / 8)) + v5_35)) (by omega) with en_37 | ⟨n_37, hn_37, en_37⟩
                    · refine topc (y := (-1)) en_37 ?_
                      refine lv_istore (lv' := [(6, .int (-1)), (5, .int (nI v5_35)), (4, .int (nI (pp % 8))), (3, .int (nI (pp / 8))), (0, .ref (a 36)), (1, .int (nI i)), (2, .int (nI pp))]) hx hb dX8_fitsAt_155 hl (by decide) rfl (fun ls hl => ?_)
                      refine lv_iload hx hb dX8_fitsAt_157 (lv_at hl 0 rfl) ?_
                      refine lv_iconst (v := (-1)) hx hb dX8_fitsAt_159 (by decide) ?_
                      refine lv_icmp_eq (tgt := 210) hx hb dX8_fitsAt_160 (by decide) (fun _ => ?_) (fun q => absurd (by decide) q)
                      refine lv_iinc (v := (nI (v5_35 + 1))) (lv' := [(5, .int (nI (v5_35 + 1))), (6, .int (-1)), (4, .int (nI (pp % 8))), (3, .int (nI (pp / 8))), (0, .ref (a 36)), (1, .int (nI i)), (2, .int (nI pp))]) hx hb dX8_fitsAt_210 hl (k := 1) rfl (nI_add v5_35 1) (by decide) rfl (fun ls hl => ?_)
                      refine lv_goto (tgt := 132) hx hb dX8_fitsAt_213 (by decide) ?_
                      exact ih_35 (v5_35 + 1)  (by omega) (by omega) _ _ _ hw (lv_sub hl [0, 2, 3, 4, 5, 6] rfl)
                    · refine topc (y := (nI n_37)) en_37 ?_
                      refine lv_istore (lv' := [(6, .int (nI n_37)), (5, .int (nI v5_35)), (4, .int (nI (pp % 8))), (3, .int (nI (pp / 8))), (0, .ref (a 36)), (1, .int (nI i)), (2, .int (nI pp))]) hx hb dX8_fitsAt_155 hl (by decide) rfl (fun ls hl => ?_)
                      refine lv_iload hx hb dX8_fitsAt_157 (lv_at hl 0 rfl) ?_
                      refine lv_iconst (v := (-1)) hx hb dX8_fitsAt_159 (by decide) ?_
                      refine lv_icmp_eq (tgt := 210) hx hb dX8_fitsAt_160 (by decide) (fun q => absurd q (nI_m1 (by omega))) (fun _ => ?_)
                      refine lv_iload hx hb dX8_fitsAt_163 (lv_at hl 1 rfl) ?_
                      refine lv_iload hx hb dX8_fitsAt_165 (lv_at hl 2 rfl) ?_
                      refine lv_icmp_ge (tgt := 178) hx hb dX8_fitsAt_167 (by decide) (fun c_40 => ?_) (fun c_40 => ?_)
                      · have c_40 : (pp % 8) ≤ v5_35 := (nI_leI (a := (pp % 8)) (b := v5_35) (by omega) (by omega)).mp c_40
                        refine lv_iload hx hb dX8_fitsAt_178 (lv_at hl 1 rfl) ?_
                        refine lv_iload hx hb dX8_fitsAt_180 (lv_at hl 2 rfl) ?_
                        refine lv_isub hx hb dX8_fitsAt_182 ?_
                        refine lv_topi (fun x_41 _ => ?_)
                        refine lv_aload_n hx hb dX8_fitsAt_183 rfl (lv_at hl 4 rfl) ?_
                        refine gf_X8_37 cx hw dX8_fitsAt_184 ?_
                        refine lv_bipush (v := 8) hx hb dX8_fitsAt_187 (by decide) ?_
                        refine lv_aload_n hx hb dX8_fitsAt_189 rfl (lv_at hl 4 rfl) ?_
                        refine gf_X8_43 cx hw dX8_fitsAt_190 ?_
                        refine lv_iload_n hx hb dX8_fitsAt_193 rfl (lv_at hl 5 rfl) ?_
                        refine aldN 45 i cx hw rfl (by omega) (by decide) dX8_fitsAt_194 ?_
                        obtain ⟨n_42, hn_42, en_42⟩ := IV.a_45 hi (i := i) (by omega)
                        refine topc (y := (nI n_42)) en_42 ?_
                        refine lv_imul hx hb dX8_fitsAt_195 ?_
                        refine topc (y := (nI (8 * n_42))) (pk_mul 8 n_42) ?_
                        refine lv_aload_n hx hb dX8_fitsAt_196 rfl (lv_at hl 4 rfl) ?_
                        refine gf_X8_43 cx hw dX8_fitsAt_197 ?_
                        refine lv_iload hx hb dX8_fitsAt_200 (lv_at hl 0 rfl) ?_
                        refine aldN 45 n_37 cx hw rfl (by omega) (by decide) dX8_fitsAt_202 ?_
                        obtain ⟨n_43, hn_43, en_43⟩ := IV.a_45 hi (i := n_37) (by omega)
                        refine topc (y := (nI n_43)) en_43 ?_
                        refine lv_iadd hx hb dX8_fitsAt_203 ?_
                        refine topc (y := (nI ((8 * n_42) + n_43))) (nI_add (8 * n_42) n_43) ?_
                        refine aldN 43 ((8 * n_42) + n_43) cx hw rfl (by omega) (by decide) dX8_fitsAt_204 ?_
                        refine lv_topi (fun x_44 _ => ?_)
                        refine lv_icmp_ge (tgt := 210) hx hb dX8_fitsAt_205 (by decide) (fun _ => ?_) (fun _ => ?_)
                        · refine lv_iinc (v := (nI (v5_35 + 1))) (lv' := [(5, .int (nI (v5_35 + 1))), (6, .int (nI n_37)), (4, .int (nI (pp % 8))), (3, .int (nI (pp / 8))), (0, .ref (a 36)), (1, .int (nI i)), (2, .int (nI pp))]) hx hb dX8_fitsAt_210 hl (k := 1) rfl (nI_add v5_35 1) (by decide) rfl (fun ls hl => ?_)
                          refine lv_goto (tgt := 132) hx hb dX8_fitsAt_213 (by decide) ?_
                          exact ih_35 (v5_35 + 1)  (by omega) (by omega) _ _ _ hw (lv_sub hl [0, 2, 3, 4, 5, 6] rfl)
                        · refine lv_iconst (v := 5) hx hb dX8_fitsAt_208 (by decide) ?_
                          exact retI cx hw hr hk dX8_fitsAt_209 ⟨rfl, rfl⟩
                      · have c_40 : ¬ (pp % 8) ≤ v5_35 := fun z => c_40 ((nI_leI (a := (pp % 8)) (b := v5_35) (by omega) (by omega)).mpr z)
                        refine lv_iload hx hb dX8_fitsAt_170 (lv_at hl 2 rfl) ?_
                        refine lv_iload hx hb dX8_fitsAt_172 (lv_at hl 1 rfl) ?_
                        refine lv_isub hx hb dX8_fitsAt_174 ?_
                        refine lv_topi (fun x_46 _ => ?_)
                        refine lv_goto (tgt := 183) hx hb dX8_fitsAt_175 (by decide) ?_
                        refine lv_aload_n hx hb dX8_fitsAt_183 rfl (lv_at hl 4 rfl) ?_
                        refine gf_X8_37 cx hw dX8_fitsAt_184 ?_
                        refine lv_bipush (v := 8) hx hb dX8_fitsAt_187 (by decide) ?_
                        refine lv_aload_n hx hb dX8_fitsAt_189 rfl (lv_at hl 4 rfl) ?_
                        refine gf_X8_43 cx hw dX8_fitsAt_190 ?_
                        refine lv_iload_n hx hb dX8_fitsAt_193 rfl (lv_at hl 5 rfl) ?_
                        refine aldN 45 i cx hw rfl (by omega) (by decide) dX8_fitsAt_194 ?_
                        obtain ⟨n_47, hn_47, en_47⟩ := IV.a_45 hi (i := i) (by omega)
                        refine topc (y := (nI n_47)) en_47 ?_
                        refine lv_imul hx hb dX8_fitsAt_195 ?_
                        refine topc (y := (nI (8 * n_47))) (pk_mul 8 n_47) ?_
                        refine lv_aload_n hx hb dX8_fitsAt_196 rfl (lv_at hl 4 rfl) ?_
                        refine gf_X8_43 cx hw dX8_fitsAt_197 ?_
                        refine lv_iload hx hb dX8_fitsAt_200 (lv_at hl 0 rfl) ?_
                        refine aldN 45 n_37 cx hw rfl (by omega) (by decide) dX8_fitsAt_202 ?_
                        obtain ⟨n_48, hn_48, en_48⟩ := IV.a_45 hi (i := n_37) (by omega)
                        refine topc (y := (nI n_48)) en_48 ?_
                        refine lv_iadd hx hb dX8_fitsAt_203 ?_
                        refine topc (y := (nI ((8 * n_47) + n_48))) (nI_add (8 * n_47) n_48) ?_
                        refine aldN 43 ((8 * n_47) + n_48) cx hw rfl (by omega) (by decide) dX8_fitsAt_204 ?_
                        refine lv_topi (fun x_49 _ => ?_)
                        refine lv_icmp_ge (tgt := 210) hx hb dX8_fitsAt_205 (by decide) (fun _ => ?_) (fun _ => ?_)
                        · refine lv_iinc (v := (nI (v5_35 + 1))) (lv' := [(5, .int (nI (v5_35 + 1))), (6, .int (nI n_37)), (4, .int (nI (pp % 8))), (3, .int (nI (pp / 8))), (0, .ref (a 36)), (1, .int (nI i)), (2, .int (nI pp))]) hx hb dX8_fitsAt_210 hl (k := 1) rfl (nI_add v5_35 1) (by decide) rfl (fun ls hl => ?_)
                          refine lv_goto (tgt := 132) hx hb dX8_fitsAt_213 (by decide) ?_
                          exact ih_35 (v5_35 + 1)  (by omega) (by omega) _ _ _ hw (lv_sub hl [0, 2, 3, 4, 5, 6] rfl)
                        · refine lv_iconst (v := 5) hx hb dX8_fitsAt_208 (by decide) ?_
                          exact retI cx hw hr hk dX8_fitsAt_209 ⟨rfl, rfl⟩
              exact loop_35 _ 0  (by omega)  (Nat.lt_succ_self _) _ _ _ hw (lv_sub hl [0, 1, 2, 3, 4, 5] rfl)
            · refine lv_iconst (v := 4) hx hb dX8_fitsAt_127 (by decide) ?_
              exact retI cx hw hr hk dX8_fitsAt_128 ⟨rfl, rfl⟩
        · have c_11 : ¬ (pp % 8) ≤ 0 := fun z => c_11 ((nI_leI (a := (pp % 8)) (b := 0) (by omega) (by omega)).mpr z)
          refine lv_aload_n hx hb dX8_fitsAt_68 rfl (lv_at hl 2 rfl) ?_
          refine lv_iload_n hx hb dX8_fitsAt_69 rfl (lv_at hl 4 rfl) ?_
          refine lv_iconst (v := 1) hx hb dX8_fitsAt_70 (by decide) ?_
          refine lv_isub hx hb dX8_fitsAt_71 ?_
          refine topc (y := (nI (pp - 1))) (pk_sub (a := pp) (b := 1) (by omega)) ?_
          refine goI hw (runVW (k := 36) (As := [.int (nI (pp - 1))]) (rest := []) cx hw (k_X8_weightAt l D a cI cZ f u (pp - 1)  hi (by omega)) lk_X8_123 rfl rfl ⟨Nat.le_of_ble_eq_true rfl, Nat.le_of_ble_eq_true rfl⟩ ⟨rfl, rfl⟩ ⟨Nat.zero_le _, Nat.zero_le _⟩ rfl rfl hl.1 (Nat.le_of_ble_eq_true rfl) dX8_fitsAt_72) (fun r_51 f_51 u_51 H locs hp_51 hw => ?_)
          obtain ⟨rfl, rfl⟩ := hp_51
          refine lv_aload_n hx hb dX8_fitsAt_75 rfl (lv_at hl 2 rfl) ?_
          refine gf_X8_40 cx hw dX8_fitsAt_76 ?_
          refine lv_iload_n hx hb dX8_fitsAt_79 rfl (lv_at hl 3 rfl) ?_
          refine aldN 44 i cx hw rfl (by omega) (by decide) dX8_fitsAt_80 ?_
          refine lv_topi (fun x_52 _ => ?_)
          refine lv_iadd hx hb dX8_fitsAt_81 ?_
          refine lv_topi (fun x_53 _ => ?_)
          refine lv_aload_n hx hb dX8_fitsAt_82 rfl (lv_at hl 2 rfl) ?_
          refine gf_X8_22 cx hw dX8_fitsAt_83 ?_
          refine lv_iload_n hx hb dX8_fitsAt_86 rfl (lv_at hl 1 rfl) ?_
          refine aldN 38 (pp / 8) cx hw rfl (by omega) (by decide) dX8_fitsAt_87 ?_
          refine lv_topi (fun x_54 _ => ?_)
          refine lv_icmp_gt (tgt := 127) hx hb dX8_fitsAt_88 (by decide) (fun _ => ?_) (fun _ => ?_)
          · refine lv_iconst (v := 4) hx hb dX8_fitsAt_127 (by decide) ?_
            exact retI cx hw hr hk dX8_fitsAt_128 ⟨rfl, rfl⟩
          · refine lv_iload hx hb dX8_fitsAt_91 (lv_at hl 0 rfl) ?_
            refine lv_iconst (v := 1) hx hb dX8_fitsAt_93 (by decide) ?_
            refine lv_iadd hx hb dX8_fitsAt_94 ?_
            refine topc (y := (nI ((pp % 8) + 1))) (nI_add (pp % 8) 1) ?_
            refine lv_aload_n hx hb dX8_fitsAt_95 rfl (lv_at hl 2 rfl) ?_
            refine gf_X8_25 cx hw dX8_fitsAt_96 ?_
            refine lv_iload_n hx hb dX8_fitsAt_99 rfl (lv_at hl 1 rfl) ?_
            refine aldN 39 (pp / 8) cx hw rfl (by omega) (by decide) dX8_fitsAt_100 ?_
            obtain ⟨n_56, hn_56, en_56⟩ := IV.a_39 hi (i := (pp / 8)) (by omega)
            refine topc (y := (nI n_56)) en_56 ?_
            refine lv_icmp_ge (tgt := 129) hx hb dX8_fitsAt_101 (by decide) (fun c_57 => ?_) (fun c_57 => ?_)
            · have c_57 : n_56 ≤ ((pp % 8) + 1) := (nI_leI (a := n_56) (b := ((pp % 8) + 1)) (by omega) (by omega)).mp c_57
              refine lv_iconst (v := 0) hx hb dX8_fitsAt_129 (by decide) ?_
              refine lv_istore (lv' := [(5, .int 0), (4, .int (nI (pp % 8))), (3, .int (nI (pp / 8))), (0, .ref (a 36)), (1, .int (nI i)), (2, .int (nI pp))]) hx hb dX8_fitsAt_130 hl (by decide) rfl (fun ls hl => ?_)
              have loop_58 : ∀ (k_58 : Nat) (v5_58 : Nat), v5_58 ≤ 8 → 8 + 1 - v5_58 < k_58 → ∀ (H : Heap) (locs : List Loc) (ls : Array Slot), Wd D a cI cZ s f u H locs → lv_has ls 7 [(5, .int (nI v5_58)), (4, .int (nI (pp % 8))), (3, .int (nI (pp / 8))), (0, .ref (a 36)), (1, .int (nI i)), (2, .int (nI pp))] → W p l e ({ frames := 3, cells := 0, slots := 0, locals := 56 } : Room) s m ([.ref (a 36), .int (nI i), .int (nI pp)] : List Value).toArray below meth c H locs 0 0 (MQ below (QI D a cI cZ (fun r f2 u2 => f = f2 ∧ u = u2)) ([.ref (a 36), .int (nI i), .int (nI pp)] : List Value).toArray s 0 0 (AA a)) (F0 m 132 ls []) := by
                intro k_58
                induction k_58 with
                | zero => intros; omega
                | succ k_58 ih_58 =>
                  intro v5_58  hb0_58  hm_58  H locs ls hw hl
                  refine lv_iload hx hb dX8_fitsAt_132 (lv_at hl 0 rfl) ?_
                  refine lv_aload_n hx hb dX8_fitsAt_134 rfl (lv_at hl 3 rfl) ?_
                  refine gf_X8_25 cx hw dX8_fitsAt_135 ?_
                  refine lv_iload_n hx hb dX8_fitsAt_138 rfl (lv_at hl 2 rfl) ?_
                  refine aldN 39 (pp / 8) cx hw rfl (by omega) (by decide) dX8_fitsAt_139 ?_
                  refine topc (y := (nI n_56)) en_56 ?_
                  refine lv_icmp_ge (tgt := 216) hx hb dX8_fitsAt_140 (by decide) (fun c_59 => ?_) (fun c_59 => ?_)
                  · have c_59 : n_56 ≤ v5_58 := (nI_leI (a := n_56) (b := v5_58) (by omega) (by omega)).mp c_59
                    refine lv_iconst (v := 0) hx hb dX8_fitsAt_216 (by decide) ?_
                    exact retI cx hw hr hk dX8_fitsAt_217 ⟨rfl, rfl⟩
                  · have c_59 : ¬ n_56 ≤ v5_58 := fun z => c_59 ((nI_leI (a := n_56) (b := v5_58) (by omega) (by omega)).mpr z)
                    refine lv_aload_n hx hb dX8_fitsAt_143 rfl (lv_at hl 3 rfl) ?_
                    refine gf_X8_34 cx hw dX8_fitsAt_144 ?_
                    refine lv_bipush (v := 8) hx hb dX8_fitsAt_147 (by decide) ?_
                    refine lv_iload_n hx hb dX8_fitsAt_149 rfl (lv_at hl 2 rfl) ?_
                    refine lv_imul hx hb dX8_fitsAt_150 ?_
                    refine topc (y := (nI (8 * (pp / 8)))) (pk_mul 8 (pp / 8)) ?_
                    refine lv_iload hx hb dX8_fitsAt_151 (lv_at hl 0 rfl) ?_
                    refine lv_iadd hx hb dX8_fitsAt_153 ?_
                    refine topc (y := (nI ((8 * (pp / 8)) + v5_58))) (nI_add (8 * (pp / 8)) v5_58) ?_
                    refine aldN 42 ((8 * (pp / 8)) + v5_58) cx hw rfl (by omega) (by decide) dX8_fitsAt_154 ?_
                    rcases IV.a_42 hi (i := ((8 * (pp / 8)) + v5_58)) (by omega) with en_60 | ⟨n_60, hn_60, en_60⟩
                    · refine topc (y := (-1)) en_60 ?_
                      refine lv_istore (lv' := [(6, .int (-1)), (5, .int (nI v5_58)), (4, .int (nI (pp % 8))), (3, .int (nI (pp / 8))), (0, .ref (a 36)), (1, .int (nI i)), (2, .int (nI pp))]) hx hb dX8_fitsAt_155 hl (by decide) rfl (fun ls hl => ?_)
                      refine lv_iload hx hb dX8_fitsAt_157 (lv_at hl 0 rfl) ?_
                      refine lv_iconst (v := (-1)) hx hb dX8_fitsAt_159 (by decide) ?_
                      refine lv_icmp_eq (tgt := 210) hx hb dX8_fitsAt_160 (by decide) (fun _ => ?_) (fun q => absurd (by decide) q)
                      refine lv_iinc (v := (nI (v5_58 + 1))) (lv' := [(5, .int (nI (v5_58 + 1))), (6, .int (-1)), (4, .int (nI (pp % 8))), (3, .int (nI (pp / 8))), (0, .ref (a 36)), (1, .int (nI i)), (2, .int (nI pp))]) hx hb dX8_fitsAt_210 hl (k := 1) rfl (nI_add v5_58 1) (by decide) rfl (fun ls hl => ?_)
                      refine lv_goto (tgt := 132) hx hb dX8_fitsAt_213 (by decide) ?_
                      exact ih_58 (v5_58 + 1)  (by omega) (by omega) _ _ _ hw (lv_sub hl [0, 2, 3, 4, 5, 6] rfl)
                    · refine topc (y := (nI n_60)) en_60 ?_
                      refine lv_istore (lv' := [(6, .int (nI n_60)), (5, .int (nI v5_58)), (4, .int (nI (pp % 8))), (3, .int (nI (pp / 8))), (0, .ref (a 36)), (1, .int (nI i)), (2, .int (nI pp))]) hx hb dX8_fitsAt_155 hl (by decide) rfl (fun ls hl => ?_)
                      refine lv_iload hx hb dX8_fitsAt_157 (lv_at hl 0 rfl) ?_
                      refine lv_iconst (v := (-1)) hx hb dX8_fitsAt_159 (by decide) ?_
                      refine lv_icmp_eq (tgt := 210) hx hb dX8_fitsAt_160 (by decide) (fun q => absurd q (nI_m1 (by omega))) (fun _ => ?_)
                      refine lv_iload hx hb dX8_fitsAt_163 (lv_at hl 1 rfl) ?_
                      refine lv_iload hx hb dX8_fitsAt_165 (lv_at hl 2 rfl) ?_
                      refine lv_icmp_ge (tgt := 178) hx hb dX8_fitsAt_167 (by decide) (fun c_63 => ?_) (fun c_63 => ?_)
                      · have c_63 : (pp % 8) ≤ v5_58 := (nI_leI (a := (pp % 8)) (b := v5_58) (by omega) (by omega)).mp c_63
                        refine lv_iload hx hb dX8_fitsAt_178 (lv_at hl 1 rfl) ?_
                        refine lv_iload hx hb dX8_fitsAt_180 (lv_at hl 2 rfl) ?_
                        refine lv_isub hx hb dX8_fitsAt_182 ?_
                        refine lv_topi (fun x_64 _ => ?_)
                        refine lv_aload_n hx hb dX8_fitsAt_183 rfl (lv_at hl 4 rfl) ?_
                        refine gf_X8_37 cx hw dX8_fitsAt_184 ?_
                        refine lv_bipush (v := 8) hx hb dX8_fitsAt_187 (by decide) ?_
                        refine lv_aload_n hx hb dX8_fitsAt_189 rfl (lv_at hl 4 rfl) ?_
                        refine gf_X8_43 cx hw dX8_fitsAt_190 ?_
                        refine lv_iload_n hx hb dX8_fitsAt_193 rfl (lv_at hl 5 rfl) ?_
                        refine aldN 45 i cx hw rfl (by omega) (by decide) dX8_fitsAt_194 ?_
                        obtain ⟨n_65, hn_65, en_65⟩ := IV.a_45 hi (i := i) (by omega)
                        refine topc (y := (nI n_65)) en_65 ?_
                        refine lv_imul hx hb dX8_fitsAt_195 ?_
                        refine topc (y := (nI (8 * n_65))) (pk_mul 8 n_65) ?_
                        refine lv_aload_n hx hb dX8_fitsAt_196 rfl (lv_at hl 4 rfl) ?_
                        refine gf_X8_43 cx hw dX8_fitsAt_197 ?_
                        refine lv_iload hx hb dX8_fitsAt_200 (lv_at hl 0 rfl) ?_
                        refine aldN 45 n_60 cx hw rfl (by omega) (by decide) dX8_fitsAt_202 ?_
                        obtain ⟨n_66, hn_66, en_66⟩ := IV.a_45 hi (i := n_60) (by omega)
                        refine topc (y := (nI n_66)) en_66 ?_
                        refine lv_iadd hx hb dX8_fitsAt_203 ?_
                        refine topc (y := (nI ((8 * n_65) + n_66))) (nI_add (8 * n_65) n_66) ?_
                        refine aldN 43 ((8 * n_65) + n_66) cx hw rfl (by omega) (by decide) dX8_fitsAt_204 ?_
                        refine lv_topi (fun x_67 _ => ?_)
                        refine lv_icmp_ge (tgt := 210) hx hb dX8_fitsAt_205 (by decide) (fun _ => ?_) (fun _ => ?_)
                        · refine lv_iinc (v := (nI (v5_58 + 1))) (lv' := [(5, .int (nI (v5_58 + 1))), (6, .int (nI n_60)), (4, .int (nI (pp % 8))), (3, .int (nI (pp / 8))), (0, .ref (a 36)), (1, .int (nI i)), (2, .int (nI pp))]) hx hb dX8_fitsAt_210 hl (k := 1) rfl (nI_add v5_58 1) (by decide) rfl (fun ls hl => ?_)
                          refine lv_goto (tgt := 132) hx hb dX8_fitsAt_213 (by decide) ?_
                          exact ih_58 (v5_58 + 1)  (by omega) (by omega) _ _ _ hw (lv_sub hl [0, 2, 3, 4, 5, 6] rfl)
                        · refine lv_iconst (v := 5) hx hb dX8_fitsAt_208 (by decide) ?_
                          exact retI cx hw hr hk dX8_fitsAt_209 ⟨rfl, rfl⟩
                      · have c_63 : ¬ (pp % 8) ≤ v5_58 := fun z => c_63 ((nI_leI (a := (pp % 8)) (b := v5_58) (by omega) (by omega)).mpr z)
                        refine lv_iload hx hb dX8_fitsAt_170 (lv_at hl 2 rfl) ?_
                        refine lv_iload hx hb dX8_fitsAt_172 (lv_at hl 1 rfl) ?_
                        refine lv_isub hx hb dX8_fitsAt_174 ?_
                        refine lv_topi (fun x_69 _ => ?_)
                        refine lv_goto (tgt := 183) hx hb dX8_fitsAt_175 (by decide) ?_
                        refine lv_aload_n hx hb dX8_fitsAt_183 rfl (lv_at hl 4 rfl) ?_
                        refine gf_X8_37 cx hw dX8_fitsAt_184 ?_
                        refine lv_bipush (v := 8) hx hb dX8_fitsAt_187 (by decide) ?_
                        refine lv_aload_n hx hb dX8_fitsAt_189 rfl (lv_at hl 4 rfl) ?_
                        refine gf_X8_43 cx hw dX8_fitsAt_190 ?_
                        refine lv_iload_n hx hb dX8_fitsAt_193 rfl (lv_at hl 5 rfl) ?_
                        refine aldN 45 i cx hw rfl (by omega) (by decide) dX8_fitsAt_194 ?_
                        obtain ⟨n_70, hn_70, en_70⟩ := IV.a_45 hi (i := i) (by omega)
                        refine topc (y := (nI n_70)) en_70 ?_
                        refine lv_imul hx hb dX8_fitsAt_195 ?_
                        refine topc (y := (nI (8 * n_70))) (pk_mul 8 n_70) ?_
                        refine lv_aload_n hx hb dX8_fitsAt_196 rfl (lv_at hl 4 rfl) ?_
                        refine gf_X8_43 cx hw dX8_fitsAt_197 ?_
                        refine lv_iload hx hb dX8_fitsAt_200 (lv_at hl 0 rfl) ?_
                        refine aldN 45 n_60 cx hw rfl (by omega) (by decide) dX8_fitsAt_202 ?_
                        obtain ⟨n_71, hn_71, en_71⟩ := IV.a_45 hi (i := n_60) (by omega)
                        refine topc (y := (nI n_71)) en_71 ?_
                        refine lv_iadd hx hb dX8_fitsAt_203 ?_
                        refine topc (y := (nI ((8 * n_70) + n_71))) (nI_add (8 * n_70) n_71) ?_
                        refine aldN 43 ((8 * n_70) + n_71) cx hw rfl (by omega) (by decide) dX8_fitsAt_204 ?_
                        refine lv_topi (fun x_72 _ => ?_)
                        refine lv_icmp_ge (tgt := 210) hx hb dX8_fitsAt_205 (by decide) (fun _ => ?_) (fun _ => ?_)
                        · refine lv_iinc (v := (nI (v5_58 + 1))) (lv' := [(5, .int (nI (v5_58 + 1))), (6, .int (nI n_60)), (4, .int (nI (pp % 8))), (3, .int (nI (pp / 8))), (0, .ref (a 36)), (1, .int (nI i)), (2, .int (nI pp))]) hx hb dX8_fitsAt_210 hl (k := 1) rfl (nI_add v5_58 1) (by decide) rfl (fun ls hl => ?_)
                          refine lv_goto (tgt := 132) hx hb dX8_fitsAt_213 (by decide) ?_
                          exact ih_58 (v5_58 + 1)  (by omega) (by omega) _ _ _ hw (lv_sub hl [0, 2, 3, 4, 5, 6] rfl)
                        · refine lv_iconst (v := 5) hx hb dX8_fitsAt_208 (by decide) ?_
                          exact retI cx hw hr hk dX8_fitsAt_209 ⟨rfl, rfl⟩
              exact loop_58 _ 0  (by omega)  (Nat.lt_succ_self _) _ _ _ hw (lv_sub hl [0, 1, 2, 3, 4, 5] rfl)
            · have c_57 : ¬ n_56 ≤ ((pp % 8) + 1) := fun z => c_57 ((nI_leI (a := n_56) (b := ((pp % 8) + 1)) (by omega) (by omega)).mpr z)
              refine lv_aload_n hx hb dX8_fitsAt_104 rfl (lv_at hl 2 rfl) ?_
              refine lv_iload_n hx hb dX8_fitsAt_105 rfl (lv_at hl 4 rfl) ?_
              refine lv_iconst (v := 1) hx hb dX8_fitsAt_106 (by decide) ?_
              refine lv_iadd hx hb dX8_fitsAt_107 ?_
              refine topc (y := (nI (pp + 1))) (nI_add pp 1) ?_
              refine goI hw (runVW (k := 36) (As := [.int (nI (pp + 1))]) (rest := []) cx hw (k_X8_weightAt l D a cI cZ f u (pp + 1)  hi (by omega)) lk_X8_123 rfl rfl ⟨Nat.le_of_ble_eq_true rfl, Nat.le_of_ble_eq_true rfl⟩ ⟨rfl, rfl⟩ ⟨Nat.zero_le _, Nat.zero_le _⟩ rfl rfl hl.1 (Nat.le_of_ble_eq_true rfl) dX8_fitsAt_108) (fun r_74 f_74 u_74 H locs hp_74 hw => ?_)
              obtain ⟨rfl, rfl⟩ := hp_74
              refine lv_aload_n hx hb dX8_fitsAt_111 rfl (lv_at hl 2 rfl) ?_
              refine gf_X8_40 cx hw dX8_fitsAt_112 ?_
              refine lv_iload_n hx hb dX8_fitsAt_115 rfl (lv_at hl 3 rfl) ?_
              refine aldN 44 i cx hw rfl (by omega) (by decide) dX8_fitsAt_116 ?_
              refine lv_topi (fun x_75 _ => ?_)
              refine lv_iadd hx hb dX8_fitsAt_117 ?_
              refine lv_topi (fun x_76 _ => ?_)
              refine lv_aload_n hx hb dX8_fitsAt_118 rfl (lv_at hl 2 rfl) ?_
              refine gf_X8_22 cx hw dX8_fitsAt_119 ?_
              refine lv_iload_n hx hb dX8_fitsAt_122 rfl (lv_at hl 1 rfl) ?_
              refine aldN 38 (pp / 8) cx hw rfl (by omega) (by decide) dX8_fitsAt_123 ?_
              refine lv_topi (fun x_77 _ => ?_)
              refine lv_icmp_le (tgt := 129) hx hb dX8_fitsAt_124 (by decide) (fun _ => ?_) (fun _ => ?_)
              · refine lv_iconst (v := 0) hx hb dX8_fitsAt_129 (by decide) ?_
                refine lv_istore (lv' := [(5, .int 0), (4, .int (nI (pp % 8))), (3, .int (nI (pp / 8))), (0, .ref (a 36)), (1, .int (nI i)), (2, .int (nI pp))]) hx hb dX8_fitsAt_130 hl (by decide) rfl (fun ls hl => ?_)
                have loop_79 : ∀ (k_79 : Nat) (v5_79 : Nat), v5_79 ≤ 8 → 8 + 1 - v5_79 < k_79 → ∀ (H : Heap) (locs : List Loc) (ls : Array Slot), Wd D a cI cZ s f u H locs → lv_has ls 7 [(5, .int (nI v5_79)), (4, .int (nI (pp % 8))), (3, .int (nI (pp / 8))), (0, .ref (a 36)), (1, .int (nI i)), (2, .int (nI pp))] → W p l e ({ frames := 3, cells := 0, slots := 0, locals := 56 } : Room) s m ([.ref (a 36), .int (nI i), .int (nI pp)] : List Value).toArray below meth c H locs 0 0 (MQ below (QI D a cI cZ (fun r f2 u2 => f = f2 ∧ u = u2)) ([.ref (a 36), .int (nI i), .int (nI pp)] : List Value).toArray s 0 0 (AA a)) (F0 m 132 ls []) := by
                  intro k_79
                  induction k_79 with
                  | zero => intros; omega
                  | succ k_79 ih_79 =>
                    intro v5_79  hb0_79  hm_79  H locs ls hw hl
                    refine lv_iload hx hb dX8_fitsAt_132 (lv_at hl 0 rfl) ?_
                    refine lv_aload_n hx hb dX8_fitsAt_134 rfl (lv_at hl 3 rfl) ?_
                    refine gf_X8_25 cx hw dX8_fitsAt_135 ?_
                    refine lv_iload_n hx hb dX8_fitsAt_138 rfl (lv_at hl 2 rfl) ?_
                    refine aldN 39 (pp / 8) cx hw rfl (by omega) (by decide) dX8_fitsAt_139 ?_
                    refine topc (y := (nI n_56)) en_56 ?_
                    refine lv_icmp_ge (tgt := 216) hx hb dX8_fitsAt_140 (by decide) (fun c_80 => ?_) (fun c_80 => ?_)
                    · have c_80 : n_56 ≤ v5_79 := (nI_leI (a := n_56) (b := v5_79) (by omega) (by omega)).mp c_80
                      refine lv_iconst (v := 0) hx hb dX8_fitsAt_216 (by decide) ?_
                      exact retI cx hw hr hk dX8_fitsAt_217 ⟨rfl, rfl⟩
                    · have c_80 : ¬ n_56 ≤ v5_79 := fun z => c_80 ((nI_leI (a := n_56) (b := v5_79) (by omega) (by omega)).mpr z)
                      refine lv_aload_n hx hb dX8_fitsAt_143 rfl (lv_at hl 3 rfl) ?_
                      refine gf_X8_34 cx hw dX8_fitsAt_144 ?_
                      refine lv_bipush (v := 8) hx hb dX8_fitsAt_147 (by decide) ?_
                      refine lv_iload_n hx hb dX8_fitsAt_149 rfl (lv_at hl 2 rfl) ?_
                      refine lv_imul hx hb dX8_fitsAt_150 ?_
                      refine topc (y := (nI (8 * (pp / 8)))) (pk_mul 8 (pp / 8)) ?_
                      refine lv_iload hx hb dX8_fitsAt_151 (lv_at hl 0 rfl) ?_
                      refine lv_iadd hx hb dX8_fitsAt_153 ?_
                      refine topc (y := (nI ((8 * (pp / 8)) + v5_79))) (nI_add (8 * (pp / 8)) v5_79) ?_
                      refine aldN 42 ((8 * (pp / 8)) + v5_79) cx hw rfl (by omega) (by decide) dX8_fitsAt_154 ?_
                      rcases IV.a_42 hi (i := ((8 * (pp / 8)) + v5_79)) (by omega) with en_81 | ⟨n_81, hn_81, en_81⟩
                      · refine topc (y := (-1)) en_81 ?_
                        refine lv_istore (lv' := [(6, .int (-1)), (5, .int (nI v5_79)), (4, .int (nI (pp % 8))), (3, .int (nI (pp / 8))), (0, .ref (a 36)), (1, .int (nI i)), (2, .int (nI pp))]) hx hb dX8_fitsAt_155 hl (by decide) rfl (fun ls hl => ?_)
                        refine lv_iload hx hb dX8_fitsAt_157 (lv_at hl 0 rfl) ?_
                        refine lv_iconst (v := (-1)) hx hb dX8_fitsAt_159 (by decide) ?_
                        refine lv_icmp_eq (tgt := 210) hx hb dX8_fitsAt_160 (by decide) (fun _ => ?_) (fun q => absurd (by decide) q)
                        refine lv_iinc (v := (nI (v5_79 + 1))) (lv' := [(5, .int (nI (v5_79 + 1))), (6, .int (-1)), (4, .int (nI (pp % 8))), (3, .int (nI (pp / 8))), (0, .ref (a 36)), (1, .int (nI i)), (2, .int (nI pp))]) hx hb dX8_fitsAt_210 hl (k := 1) rfl (nI_add v5_79 1) (by decide) rfl (fun ls hl => ?_)
                        refine lv_goto (tgt := 132) hx hb dX8_fitsAt_213 (by decide) ?_
                        exact ih_79 (v5_79 + 1)  (by omega) (by omega) _ _ _ hw (lv_sub hl [0, 2, 3, 4, 5, 6] rfl)
                      · refine topc (y := (nI n_81)) en_81 ?_
                        refine lv_istore (lv' := [(6, .int (nI n_81)), (5, .int (nI v5_79)), (4, .int (nI (pp % 8))), (3, .int (nI (pp / 8))), (0, .ref (a 36)), (1, .int (nI i)), (2, .int (nI pp))]) hx hb dX8_fitsAt_155 hl (by decide) rfl (fun ls hl => ?_)
                        refine lv_iload hx hb dX8_fitsAt_157 (lv_at hl 0 rfl) ?_
                        refine lv_iconst (v := (-1)) hx hb dX8_fitsAt_159 (by decide) ?_
                        refine lv_icmp_eq (tgt := 210) hx hb dX8_fitsAt_160 (by decide) (fun q => absurd q (nI_m1 (by omega))) (fun _ => ?_)
                        refine lv_iload hx hb dX8_fitsAt_163 (lv_at hl 1 rfl) ?_
                        refine lv_iload hx hb dX8_fitsAt_165 (lv_at hl 2 rfl) ?_
                        refine lv_icmp_ge (tgt := 178) hx hb dX8_fitsAt_167 (by decide) (fun c_84 => ?_) (fun c_84 => ?_)
                        · have c_84 : (pp % 8) ≤ v5_79 := (nI_leI (a := (pp % 8)) (b := v5_79) (by omega) (by omega)).mp c_84
                          refine lv_iload hx hb dX8_fitsAt_178 (lv_at hl 1 rfl) ?_
                          refine lv_iload hx hb dX8_fitsAt_180 (lv_at hl 2 rfl) ?_
                          refine lv_isub hx hb dX8_fitsAt_182 ?_
                          refine lv_topi (fun x_85 _ => ?_)
                          refine lv_aload_n hx hb dX8_fitsAt_183 rfl (lv_at hl 4 rfl) ?_
                          refine gf_X8_37 cx hw dX8_fitsAt_184 ?_
                          refine lv_bipush (v := 8) hx hb dX8_fitsAt_187 (by decide) ?_
                          refine lv_aload_n hx hb dX8_fitsAt_189 rfl (lv_at hl 4 rfl) ?_
                          refine gf_X8_43 cx hw dX8_fitsAt_190 ?_
                          refine lv_iload_n hx hb dX8_fitsAt_193 rfl (lv_at hl 5 rfl) ?_
                          refine aldN 45 i cx hw rfl (by omega) (by decide) dX8_fitsAt_194 ?_
                          obtain ⟨n_86, hn_86, en_86⟩ := IV.a_45 hi (i := i) (by omega)
                          refine topc (y := (nI n_86)) en_86 ?_
                          refine lv_imul hx hb dX8_fitsAt_195 ?_
                          refine topc (y := (nI (8 * n_86))) (pk_mul 8 n_86) ?_
                          refine lv_aload_n hx hb dX8_fitsAt_196 rfl (lv_at hl 4 rfl) ?_
                          refine gf_X8_43 cx hw dX8_fitsAt_197 ?_
                          refine lv_iload hx hb dX8_fitsAt_200 (lv_at hl 0 rfl) ?_
                          refine aldN 45 n_81 cx hw rfl (by omega) (by decide) dX8_fitsAt_202 ?_
                          obtain ⟨n_87, hn_87, en_87⟩ := IV.a_45 hi (i := n_81) (by omega)
                          refine topc (y := (nI n_87)) en_87 ?_
                          refine lv_iadd hx hb dX8_fitsAt_203 ?_
                          refine topc (y := (nI ((8 * n_86) + n_87))) (nI_add (8 * n_86) n_87) ?_
                          refine aldN 43 ((8 * n_86) + n_87) cx hw rfl (by omega) (by decide) dX8_fitsAt_204 ?_
                          refine lv_topi (fun x_88 _ => ?_)
                          refine lv_icmp_ge (tgt := 210) hx hb dX8_fitsAt_205 (by decide) (fun _ => ?_) (fun _ => ?_)
                          · refine lv_iinc (v := (nI (v5_79 + 1))) (lv' := [(5, .int (nI (v5_79 + 1))), (6, .int (nI n_81)), (4, .int (nI (pp % 8))), (3, .int (nI (pp / 8))), (0, .ref (a 36)), (1, .int (nI i)), (2, .int (nI pp))]) hx hb dX8_fitsAt_210 hl (k := 1) rfl (nI_add v5_79 1) (by decide) rfl (fun ls hl => ?_)
                            refine lv_goto (tgt := 132) hx hb dX8_fitsAt_213 (by decide) ?_
                            exact ih_79 (v5_79 + 1)  (by omega) (by omega) _ _ _ hw (lv_sub hl [0, 2, 3, 4, 5, 6] rfl)
                          · refine lv_iconst (v := 5) hx hb dX8_fitsAt_208 (by decide) ?_
                            exact retI cx hw hr hk dX8_fitsAt_209 ⟨rfl, rfl⟩
                        · have c_84 : ¬ (pp % 8) ≤ v5_79 := fun z => c_84 ((nI_leI (a := (pp % 8)) (b := v5_79) (by omega) (by omega)).mpr z)
                          refine lv_iload hx hb dX8_fitsAt_170 (lv_at hl 2 rfl) ?_
                          refine lv_iload hx hb dX8_fitsAt_172 (lv_at hl 1 rfl) ?_
                          refine lv_isub hx hb dX8_fitsAt_174 ?_
                          refine lv_topi (fun x_90 _ => ?_)
                          refine lv_goto (tgt := 183) hx hb dX8_fitsAt_175 (by decide) ?_
                          refine lv_aload_n hx hb dX8_fitsAt_183 rfl (lv_at hl 4 rfl) ?_
                          refine gf_X8_37 cx hw dX8_fitsAt_184 ?_
                          refine lv_bipush (v := 8) hx hb dX8_fitsAt_187 (by decide) ?_
                          refine lv_aload_n hx hb dX8_fitsAt_189 rfl (lv_at hl 4 rfl) ?_
                          refine gf_X8_43 cx hw dX8_fitsAt_190 ?_
                          refine lv_iload_n hx hb dX8_fitsAt_193 rfl (lv_at hl 5 rfl) ?_
                          refine aldN 45 i cx hw rfl (by omega) (by decide) dX8_fitsAt_194 ?_
                          obtain ⟨n_91, hn_91, en_91⟩ := IV.a_45 hi (i := i) (by omega)
                          refine topc (y := (nI n_91)) en_91 ?_
                          refine lv_imul hx hb dX8_fitsAt_195 ?_
                          refine topc (y := (nI (8 * n_91))) (pk_mul 8 n_91) ?_
                          refine lv_aload_n hx hb dX8_fitsAt_196 rfl (lv_at hl 4 rfl) ?_
                          refine gf_X8_43 cx hw dX8_fitsAt_197 ?_
                          refine lv_iload hx hb dX8_fitsAt_200 (lv_at hl 0 rfl) ?_
                          refine aldN 45 n_81 cx hw rfl (by omega) (by decide) dX8_fitsAt_202 ?_
                          obtain ⟨n_92, hn_92, en_92⟩ := IV.a_45 hi (i := n_81) (by omega)
                          refine topc (y := (nI n_92)) en_92 ?_
                          refine lv_iadd hx hb dX8_fitsAt_203 ?_
                          refine topc (y := (nI ((8 * n_91) + n_92))) (nI_add (8 * n_91) n_92) ?_
                          refine aldN 43 ((8 * n_91) + n_92) cx hw rfl (by omega) (by decide) dX8_fitsAt_204 ?_
                          refine lv_topi (fun x_93 _ => ?_)
                          refine lv_icmp_ge (tgt := 210) hx hb dX8_fitsAt_205 (by decide) (fun _ => ?_) (fun _ => ?_)
                          · refine lv_iinc (v := (nI (v5_79 + 1))) (lv' := [(5, .int (nI (v5_79 + 1))), (6, .int (nI n_81)), (4, .int (nI (pp % 8))), (3, .int (nI (pp / 8))), (0, .ref (a 36)), (1, .int (nI i)), (2, .int (nI pp))]) hx hb dX8_fitsAt_210 hl (k := 1) rfl (nI_add v5_79 1) (by decide) rfl (fun ls hl => ?_)
                            refine lv_goto (tgt := 132) hx hb dX8_fitsAt_213 (by decide) ?_
                            exact ih_79 (v5_79 + 1)  (by omega) (by omega) _ _ _ hw (lv_sub hl [0, 2, 3, 4, 5, 6] rfl)
                          · refine lv_iconst (v := 5) hx hb dX8_fitsAt_208 (by decide) ?_
                            exact retI cx hw hr hk dX8_fitsAt_209 ⟨rfl, rfl⟩
                exact loop_79 _ 0  (by omega)  (Nat.lt_succ_self _) _ _ _ hw (lv_sub hl [0, 1, 2, 3, 4, 5] rfl)
              · refine lv_iconst (v := 4) hx hb dX8_fitsAt_127 (by decide) ?_
                exact retI cx hw hr hk dX8_fitsAt_128 ⟨rfl, rfl⟩
      · refine lv_iconst (v := 3) hx hb dX8_fitsAt_61 (by decide) ?_
        exact retI cx hw hr hk dX8_fitsAt_62 ⟨rfl, rfl⟩
    · refine lv_iconst (v := 2) hx hb dX8_fitsAt_38 (by decide) ?_
      exact retI cx hw hr hk dX8_fitsAt_39 ⟨rfl, rfl⟩
  · refine topc (y := (nI n_1)) en_1 ?_
    refine lv_iconst (v := (-1)) hx hb dX8_fitsAt_17 (by decide) ?_
    refine lv_icmp_eq (tgt := 23) hx hb dX8_fitsAt_18 (by decide) (fun q => absurd q (nI_m1 (by omega))) (fun _ => ?_)
    refine lv_iconst (v := 1) hx hb dX8_fitsAt_21 (by decide) ?_
    exact retI cx hw hr hk dX8_fitsAt_22 ⟨rfl, rfl⟩

set_option maxHeartbeats 4000000 in
set_option maxRecDepth 100000 in
theorem k_X8_put (l : Launch) (D : va_G) (a : Nat → Nat) (cI cZ : ClassId) (f : FF) (u : UU) (i : Nat) (pp : Nat) (hi : IV f) (h_i : i < 40) (h_p : pp < 32) : KV l yX8_put cX8_put 3 none ({ frames := 1, cells := 0, slots := 0, locals := 12 } : Room) D a cI cZ [.ref (a 36), .int (nI i), .int (nI pp)] f u (fun f2 u2 => putM f i pp = f2 ∧ u = u2) := by
  refine KX.of (by decide) (Nat.le_of_ble_eq_true rfl) ?_
  intro p e s m below meth c cx hw hr hk ls hl
  have cx : Cx p s m _ c cX8_put RX8 3 D cI cZ := cx
  have hl : lv_has ls 3 [(0, .ref (a 36)), (1, .int (nI i)), (2, .int (nI pp))] := hl
  have hx := cx.1.1
  have hb := cx.1.2.1
  refine lv_aload_n hx hb dX8_put_0 rfl (lv_at hl 0 rfl) ?_
  refine gf_X8_34 cx hw dX8_put_1 ?_
  refine lv_iload_n hx hb dX8_put_4 rfl (lv_at hl 2 rfl) ?_
  refine lv_iload_n hx hb dX8_put_5 rfl (lv_at hl 1 rfl) ?_
  refine astN 42 pp cx hw rfl ws_42 (by omega) (by decide) dX8_put_6 (fun H locs hw => ?_)
  have hi_1 : IV (up f 42 (upd (f 42) pp (nI i))) := IV.b_42 hi (okx_n (j := i) (by omega))
  refine lv_aload_n hx hb dX8_put_7 rfl (lv_at hl 0 rfl) ?_
  refine gf_X8_49 cx hw dX8_put_8 ?_
  refine lv_iload_n hx hb dX8_put_11 rfl (lv_at hl 1 rfl) ?_
  refine lv_iload_n hx hb dX8_put_12 rfl (lv_at hl 2 rfl) ?_
  refine astN 47 i cx hw rfl ws_47 (by omega) (by decide) dX8_put_13 (fun H locs hw => ?_)
  have hi_2 : IV (up (up f 42 (upd (f 42) pp (nI i))) 47 (upd ((up f 42 (upd (f 42) pp (nI i))) 47) i (nI pp))) := IV.b_47 hi_1 (okx_n (j := pp) (by omega))
  exact retV cx hw hr hk dX8_put_14 ⟨rfl, rfl⟩

set_option maxHeartbeats 4000000 in
set_option maxRecDepth 100000 in
theorem k_X8_take (l : Launch) (D : va_G) (a : Nat → Nat) (cI cZ : ClassId) (f : FF) (u : UU) (i : Nat) (pp : Nat) (hi : IV f) (h_i : i < 40) (h_p : pp < 32) (h_e : f 47 i = nI pp) : KV l yX8_take cX8_take 2 none ({ frames := 1, cells := 0, slots := 0, locals := 12 } : Room) D a cI cZ [.ref (a 36), .int (nI i)] f u (fun f2 u2 => takeM f i pp = f2 ∧ u = u2) := by
  refine KX.of (by decide) (Nat.le_of_ble_eq_true rfl) ?_
  intro p e s m below meth c cx hw hr hk ls hl
  have cx : Cx p s m _ c cX8_take RX8 2 D cI cZ := cx
  have hl : lv_has ls 2 [(0, .ref (a 36)), (1, .int (nI i))] := hl
  have hx := cx.1.1
  have hb := cx.1.2.1
  refine lv_aload_n hx hb dX8_take_0 rfl (lv_at hl 0 rfl) ?_
  refine gf_X8_34 cx hw dX8_take_1 ?_
  refine lv_aload_n hx hb dX8_take_4 rfl (lv_at hl 0 rfl) ?_
  refine gf_X8_49 cx hw dX8_take_5 ?_
  refine lv_iload_n hx hb dX8_take_8 rfl (lv_at hl 1 rfl) ?_
  refine aldN 47 i cx hw rfl (by omega) (by decide) dX8_take_9 ?_
  refine topc (y := (nI pp)) h_e ?_
  refine lv_iconst (v := (-1)) hx hb dX8_take_10 (by decide) ?_
  refine astN 42 pp cx hw rfl ws_42 (by omega) (by decide) dX8_take_11 (fun H locs hw => ?_)
  have hi_1 : IV (up f 42 (upd (f 42) pp (-1))) := IV.b_42 hi okx_m
  refine lv_aload_n hx hb dX8_take_12 rfl (lv_at hl 0 rfl) ?_
  refine gf_X8_49 cx hw dX8_take_13 ?_
  refine lv_iload_n hx hb dX8_take_16 rfl (lv_at hl 1 rfl) ?_
  refine lv_iconst (v := (-1)) hx hb dX8_take_17 (by decide) ?_
  refine astN 47 i cx hw rfl ws_47 (by omega) (by decide) dX8_take_18 (fun H locs hw => ?_)
  have hi_2 : IV (up (up f 42 (upd (f 42) pp (-1))) 47 (upd ((up f 42 (upd (f 42) pp (-1))) 47) i (-1))) := IV.b_47 hi_1 okx_m
  exact retV cx hw hr hk dX8_take_19 ⟨rfl, rfl⟩

set_option maxHeartbeats 4000000 in
set_option maxRecDepth 100000 in
theorem k_X8_fits (l : Launch) (D : va_G) (a : Nat → Nat) (cI cZ : ClassId) (f : FF) (u : UU) (i : Int32) (h : Int32) (k : Int32) (hi : IV f)  : KI l yX8_fits cX8_fits 4 (some .int) ({ frames := 4, cells := 0, slots := 0, locals := 82 } : Room) D a cI cZ [.ref (a 36), .int i, .int h, .int k] f u (fun r f2 u2 => f = f2 ∧ u = u2 ∧ ((r = (-1)) ∨ (∃ i1 h1 k1, i1 < 40 ∧ h1 < 4 ∧ k1 < 8 ∧ i = nI i1 ∧ h = nI h1 ∧ k = nI k1))) := by
  refine KX.of (by decide) (Nat.le_of_ble_eq_true rfl) ?_
  intro p e s m below meth c cx hw hr hk ls hl
  have cx : Cx p s m _ c cX8_fits RX8 4 D cI cZ := cx
  have hl : lv_has ls 4 [(0, .ref (a 36)), (1, .int i), (2, .int h), (3, .int k)] := hl
  have hx := cx.1.1
  have hb := cx.1.2.1
  refine lv_aload_n hx hb dX8_fits_0 rfl (lv_at hl 0 rfl) ?_
  refine lv_iload_n hx hb dX8_fits_1 rfl (lv_at hl 1 rfl) ?_
  refine goI hw (runVW (k := 36) (As := [.int i]) (rest := []) cx hw (k_X8_isItem l D a cI cZ f u i  hi) lk_X8_130 rfl rfl ⟨Nat.le_of_ble_eq_true rfl, Nat.le_of_ble_eq_true rfl⟩ ⟨rfl, rfl⟩ ⟨Nat.zero_le _, Nat.zero_le _⟩ rfl rfl hl.1 (Nat.le_of_ble_eq_true rfl) dX8_fits_2) (fun r_1 f_1 u_1 H locs hp_1 hw => ?_)
  obtain ⟨rfl, rfl, ha_1⟩ := hp_1
  rcases ha_1 with er_1 | ⟨er_1, b1_1_j, b1_1_c, q1_1_0, q1_1_1, q1_1_2, q1_1_3⟩
  · subst er_1
    refine lv_if_eq (tgt := 17) hx hb dX8_fits_5 (by decide) (fun _ => ?_) (fun q => absurd (by decide) q)
    refine lv_iconst (v := (-1)) hx hb dX8_fits_17 (by decide) ?_
    exact retI cx hw hr hk dX8_fits_18 ⟨rfl, rfl, Or.inl rfl⟩
  · subst er_1
    subst q1_1_3
    refine lv_if_eq (tgt := 17) hx hb dX8_fits_5 (by decide) (fun q => absurd q (by decide)) (fun _ => ?_)
    refine lv_aload_n hx hb dX8_fits_8 rfl (lv_at hl 0 rfl) ?_
    refine lv_iload_n hx hb dX8_fits_9 rfl (lv_at hl 2 rfl) ?_
    refine lv_iload_n hx hb dX8_fits_10 rfl (lv_at hl 3 rfl) ?_
    refine goI hw (runVW (k := 36) (As := [.int h, .int k]) (rest := []) cx hw (k_X8_isSlot l D a cI cZ f u h k  hi) lk_X8_133 rfl rfl ⟨Nat.le_of_ble_eq_true rfl, Nat.le_of_ble_eq_true rfl⟩ ⟨rfl, rfl⟩ ⟨Nat.zero_le _, Nat.zero_le _⟩ rfl rfl hl.1 (Nat.le_of_ble_eq_true rfl) dX8_fits_11) (fun r_4 f_4 u_4 H locs hp_4 hw => ?_)
    obtain ⟨rfl, rfl, ha_4⟩ := hp_4
    rcases ha_4 with er_4 | ⟨er_4, b1_4_j, b1_4_k1, b1_4_c, b1_4_d, q1_4_0, q1_4_1, q1_4_2, q1_4_3, q1_4_4, q1_4_5, q1_4_6, q1_4_7⟩
    · subst er_4
      refine lv_if_ne (tgt := 19) hx hb dX8_fits_14 (by decide) (fun q => absurd (by decide) q) (fun _ => ?_)
      refine lv_iconst (v := (-1)) hx hb dX8_fits_17 (by decide) ?_
      exact retI cx hw hr hk dX8_fits_18 ⟨rfl, rfl, Or.inl rfl⟩
    · subst er_4
      subst q1_4_6
      subst q1_4_7
      refine lv_if_ne (tgt := 19) hx hb dX8_fits_14 (by decide) (fun _ => ?_) (fun q => absurd q (by decide))
      refine lv_aload_n hx hb dX8_fits_19 rfl (lv_at hl 0 rfl) ?_
      refine gf_X8_49 cx hw dX8_fits_20 ?_
      refine lv_iload_n hx hb dX8_fits_23 rfl (lv_at hl 1 rfl) ?_
      refine aldN 47 b1_1_j cx hw rfl (by omega) (by decide) dX8_fits_24 ?_
      rcases IV.a_47 hi (i := b1_1_j) (by omega) with en_7 | ⟨n_7, hn_7, en_7⟩
      · refine topc (y := (-1)) en_7 ?_
        refine lv_iconst (v := (-1)) hx hb dX8_fits_25 (by decide) ?_
        refine lv_icmp_eq (tgt := 34) hx hb dX8_fits_26 (by decide) (fun _ => ?_) (fun q => absurd (by decide) q)
        refine lv_aload_n hx hb dX8_fits_34 rfl (lv_at hl 0 rfl) ?_
        refine lv_iload_n hx hb dX8_fits_35 rfl (lv_at hl 1 rfl) ?_
        refine lv_bipush (v := 8) hx hb dX8_fits_36 (by decide) ?_
        refine lv_iload_n hx hb dX8_fits_38 rfl (lv_at hl 2 rfl) ?_
        refine lv_imul hx hb dX8_fits_39 ?_
        refine topc (y := (nI (8 * b1_4_j))) (pk_mul 8 b1_4_j) ?_
        refine lv_iload_n hx hb dX8_fits_40 rfl (lv_at hl 3 rfl) ?_
        refine lv_iadd hx hb dX8_fits_41 ?_
        refine topc (y := (nI ((8 * b1_4_j) + b1_4_k1))) (nI_add (8 * b1_4_j) b1_4_k1) ?_
        refine goI hw (runVW (k := 36) (As := [.int (nI b1_1_j), .int (nI ((8 * b1_4_j) + b1_4_k1))]) (rest := []) cx hw (k_X8_fitsAt l D a cI cZ f u b1_1_j ((8 * b1_4_j) + b1_4_k1)  hi (by omega) (by omega)) lk_X8_137 rfl rfl ⟨Nat.le_of_ble_eq_true rfl, Nat.le_of_ble_eq_true rfl⟩ ⟨rfl, rfl⟩ ⟨Nat.zero_le _, Nat.zero_le _⟩ rfl rfl hl.1 (Nat.le_of_ble_eq_true rfl) dX8_fits_42) (fun r_9 f_9 u_9 H locs hp_9 hw => ?_)
        obtain ⟨rfl, rfl⟩ := hp_9
        exact retI cx hw hr hk dX8_fits_45 ⟨rfl, rfl, Or.inr ⟨b1_1_j, b1_4_j, b1_4_k1, by omega, by omega, by omega, rfl, rfl, rfl⟩⟩
      · refine topc (y := (nI n_7)) en_7 ?_
        refine lv_iconst (v := (-1)) hx hb dX8_fits_25 (by decide) ?_
        refine lv_icmp_eq (tgt := 34) hx hb dX8_fits_26 (by decide) (fun q => absurd q (nI_m1 (by omega))) (fun _ => ?_)
        refine lv_bipush (v := (-3)) hx hb dX8_fits_29 (by decide) ?_
        refine lv_goto (tgt := 45) hx hb dX8_fits_31 (by decide) ?_
        exact retI cx hw hr hk dX8_fits_45 ⟨rfl, rfl, Or.inr ⟨b1_1_j, b1_4_j, b1_4_k1, by omega, by omega, by omega, rfl, rfl, rfl⟩⟩

set_option maxHeartbeats 4000000 in
set_option maxRecDepth 100000 in
theorem k_X8_load (l : Launch) (D : va_G) (a : Nat → Nat) (cI cZ : ClassId) (f : FF) (u : UU) (i : Int32) (h : Int32) (k : Int32) (hi : IV f)  : KI l yX8_load cX8_load 5 (some .int) ({ frames := 5, cells := 0, slots := 0, locals := 105 } : Room) D a cI cZ [.ref (a 36), .int i, .int h, .int k] f u (fun r f2 u2 => IV f2 ∧ KK [42, 47] f f2) := by
  refine KX.of (by decide) (Nat.le_of_ble_eq_true rfl) ?_
  intro p e s m below meth c cx hw hr hk ls hl
  have cx : Cx p s m _ c cX8_load RX8 5 D cI cZ := cx
  have hl : lv_has ls 5 [(0, .ref (a 36)), (1, .int i), (2, .int h), (3, .int k)] := hl
  have hx := cx.1.1
  have hb := cx.1.2.1
  refine lv_aload_n hx hb dX8_load_0 rfl (lv_at hl 0 rfl) ?_
  refine lv_iload_n hx hb dX8_load_1 rfl (lv_at hl 1 rfl) ?_
  refine lv_iload_n hx hb dX8_load_2 rfl (lv_at hl 2 rfl) ?_
  refine lv_iload_n hx hb dX8_load_3 rfl (lv_at hl 3 rfl) ?_
  refine goI hw (runVW (k := 36) (As := [.int i, .int h, .int k]) (rest := []) cx hw (k_X8_fits l D a cI cZ f u i h k  hi) lk_X8_141 rfl rfl ⟨Nat.le_of_ble_eq_true rfl, Nat.le_of_ble_eq_true rfl⟩ ⟨rfl, rfl⟩ ⟨Nat.zero_le _, Nat.zero_le _⟩ rfl rfl hl.1 (Nat.le_of_ble_eq_true rfl) dX8_load_4) (fun r_1 f_1 u_1 H locs hp_1 hw => ?_)
  obtain ⟨rfl, rfl, ha_1⟩ := hp_1
  rcases ha_1 with er_1 | ⟨b1_1_i1, b1_1_h1, b1_1_k1, q1_1_0, q1_1_1, q1_1_2, q1_1_3, q1_1_4, q1_1_5⟩
  · subst er_1
    refine lv_istore (lv' := [(4, .int (-1)), (0, .ref (a 36)), (1, .int i), (2, .int h), (3, .int k)]) hx hb dX8_load_7 hl (by decide) rfl (fun ls hl => ?_)
    refine lv_iload hx hb dX8_load_9 (lv_at hl 0 rfl) ?_
    refine lv_if_ne (tgt := 25) hx hb dX8_load_11 (by decide) (fun _ => ?_) (fun q => absurd q (by decide))
    refine lv_iload hx hb dX8_load_25 (lv_at hl 0 rfl) ?_
    exact retI cx hw hr hk dX8_load_27 ⟨hi, KK.rf⟩
  · subst q1_1_3
    subst q1_1_4
    subst q1_1_5
    refine lv_istore (lv' := [(4, .int r_1), (0, .ref (a 36)), (1, .int (nI b1_1_i1)), (2, .int (nI b1_1_h1)), (3, .int (nI b1_1_k1))]) hx hb dX8_load_7 hl (by decide) rfl (fun ls hl => ?_)
    refine lv_iload hx hb dX8_load_9 (lv_at hl 0 rfl) ?_
    refine lv_if_ne (tgt := 25) hx hb dX8_load_11 (by decide) (fun _ => ?_) (fun _ => ?_)
    · refine lv_iload hx hb dX8_load_25 (lv_at hl 0 rfl) ?_
      exact retI cx hw hr hk dX8_load_27 ⟨hi, KK.rf⟩
    · refine lv_aload_n hx hb dX8_load_14 rfl (lv_at hl 1 rfl) ?_
      refine lv_iload_n hx hb dX8_load_15 rfl (lv_at hl 2 rfl) ?_
      refine lv_bipush (v := 8) hx hb dX8_load_16 (by decide) ?_
      refine lv_iload_n hx hb dX8_load_18 rfl (lv_at hl 3 rfl) ?_
      refine lv_imul hx hb dX8_load_19 ?_
      refine topc (y := (nI (8 * b1_1_h1))) (pk_mul 8 b1_1_h1) ?_
      refine lv_iload_n hx hb dX8_load_20 rfl (lv_at hl 4 rfl) ?_
      refine lv_iadd hx hb dX8_load_21 ?_
      refine topc (y := (nI ((8 * b1_1_h1) + b1_1_k1))) (nI_add (8 * b1_1_h1) b1_1_k1) ?_
      refine goV hw (runVW (k := 36) (As := [.int (nI b1_1_i1), .int (nI ((8 * b1_1_h1) + b1_1_k1))]) (rest := []) cx hw (k_X8_put l D a cI cZ f u b1_1_i1 ((8 * b1_1_h1) + b1_1_k1)  hi (by omega) (by omega)) lk_X8_145 rfl rfl ⟨Nat.le_of_ble_eq_true rfl, Nat.le_of_ble_eq_true rfl⟩ ⟨rfl, rfl⟩ ⟨Nat.zero_le _, Nat.zero_le _⟩ rfl rfl hl.1 (Nat.le_of_ble_eq_true rfl) dX8_load_22) (fun f_4 u_4 H locs hp_4 hw => ?_)
      have hi_5 : IV (putM f b1_1_i1 ((8 * b1_1_h1) + b1_1_k1)) := IV.wputM hi (by omega) (by omega)
      obtain ⟨rfl, rfl⟩ := hp_4
      refine lv_iload hx hb dX8_load_25 (lv_at hl 0 rfl) ?_
      exact retI cx hw hr hk dX8_load_27 ⟨hi_5, (KK.wputM (by decide) KK.rf)⟩

set_option maxHeartbeats 4000000 in
set_option maxRecDepth 100000 in
theorem k_X8_unload (l : Launch) (D : va_G) (a : Nat → Nat) (cI cZ : ClassId) (f : FF) (u : UU) (i : Int32) (hi : IV f)  : KI l yX8_unload cX8_unload 2 (some .int) ({ frames := 3, cells := 0, slots := 0, locals := 55 } : Room) D a cI cZ [.ref (a 36), .int i] f u (fun r f2 u2 => IV f2 ∧ KK [42, 47] f f2) := by
  refine KX.of (by decide) (Nat.le_of_ble_eq_true rfl) ?_
  intro p e s m below meth c cx hw hr hk ls hl
  have cx : Cx p s m _ c cX8_unload RX8 2 D cI cZ := cx
  have hl : lv_has ls 2 [(0, .ref (a 36)), (1, .int i)] := hl
  have hx := cx.1.1
  have hb := cx.1.2.1
  refine lv_aload_n hx hb dX8_unload_0 rfl (lv_at hl 0 rfl) ?_
  refine lv_iload_n hx hb dX8_unload_1 rfl (lv_at hl 1 rfl) ?_
  refine goI hw (runVW (k := 36) (As := [.int i]) (rest := []) cx hw (k_X8_isItem l D a cI cZ f u i  hi) lk_X8_130 rfl rfl ⟨Nat.le_of_ble_eq_true rfl, Nat.le_of_ble_eq_true rfl⟩ ⟨rfl, rfl⟩ ⟨Nat.zero_le _, Nat.zero_le _⟩ rfl rfl hl.1 (Nat.le_of_ble_eq_true rfl) dX8_unload_2) (fun r_1 f_1 u_1 H locs hp_1 hw => ?_)
  obtain ⟨rfl, rfl, ha_1⟩ := hp_1
  rcases ha_1 with er_1 | ⟨er_1, b1_1_j, b1_1_c, q1_1_0, q1_1_1, q1_1_2, q1_1_3⟩
  · subst er_1
    refine lv_if_ne (tgt := 10) hx hb dX8_unload_5 (by decide) (fun q => absurd (by decide) q) (fun _ => ?_)
    refine lv_iconst (v := (-1)) hx hb dX8_unload_8 (by decide) ?_
    exact retI cx hw hr hk dX8_unload_9 ⟨hi, KK.rf⟩
  · subst er_1
    subst q1_1_3
    refine lv_if_ne (tgt := 10) hx hb dX8_unload_5 (by decide) (fun _ => ?_) (fun q => absurd q (by decide))
    refine lv_aload_n hx hb dX8_unload_10 rfl (lv_at hl 0 rfl) ?_
    refine gf_X8_49 cx hw dX8_unload_11 ?_
    refine lv_iload_n hx hb dX8_unload_14 rfl (lv_at hl 1 rfl) ?_
    refine aldN 47 b1_1_j cx hw rfl (by omega) (by decide) dX8_unload_15 ?_
    rcases IV.a_47 hi (i := b1_1_j) (by omega) with en_4 | ⟨n_4, hn_4, en_4⟩
    · refine topc (y := (-1)) en_4 ?_
      refine lv_iconst (v := (-1)) hx hb dX8_unload_16 (by decide) ?_
      refine lv_icmp_ne (tgt := 23) hx hb dX8_unload_17 (by decide) (fun q => absurd (by decide) q) (fun _ => ?_)
      refine lv_bipush (v := (-3)) hx hb dX8_unload_20 (by decide) ?_
      exact retI cx hw hr hk dX8_unload_22 ⟨hi, KK.rf⟩
    · refine topc (y := (nI n_4)) en_4 ?_
      refine lv_iconst (v := (-1)) hx hb dX8_unload_16 (by decide) ?_
      refine lv_icmp_ne (tgt := 23) hx hb dX8_unload_17 (by decide) (fun _ => ?_) (fun q => absurd q (nI_m1 (by omega)))
      refine lv_aload_n hx hb dX8_unload_23 rfl (lv_at hl 0 rfl) ?_
      refine lv_iload_n hx hb dX8_unload_24 rfl (lv_at hl 1 rfl) ?_
      refine goV hw (runVW (k := 36) (As := [.int (nI b1_1_j)]) (rest := []) cx hw (k_X8_take l D a cI cZ f u b1_1_j n_4 hi (by omega) (by omega) en_4) lk_X8_149 rfl rfl ⟨Nat.le_of_ble_eq_true rfl, Nat.le_of_ble_eq_true rfl⟩ ⟨rfl, rfl⟩ ⟨Nat.zero_le _, Nat.zero_le _⟩ rfl rfl hl.1 (Nat.le_of_ble_eq_true rfl) dX8_unload_25) (fun f_7 u_7 H locs hp_7 hw => ?_)
      have hi_8 : IV (takeM f b1_1_j n_4) := IV.wtakeM hi
      obtain ⟨rfl, rfl⟩ := hp_7
      refine lv_iconst (v := 0) hx hb dX8_unload_28 (by decide) ?_
      exact retI cx hw hr hk dX8_unload_29 ⟨hi_8, (KK.wtakeM (by decide) KK.rf)⟩

set_option maxHeartbeats 4000000 in
set_option maxRecDepth 100000 in
theorem k_X8_where (l : Launch) (D : va_G) (a : Nat → Nat) (cI cZ : ClassId) (f : FF) (u : UU) (i : Int32) (hi : IV f)  : KI l yX8_where cX8_where 2 (some .int) ({ frames := 3, cells := 0, slots := 0, locals := 55 } : Room) D a cI cZ [.ref (a 36), .int i] f u (fun r f2 u2 => f = f2 ∧ u = u2) := by
  refine KX.of (by decide) (Nat.le_of_ble_eq_true rfl) ?_
  intro p e s m below meth c cx hw hr hk ls hl
  have cx : Cx p s m _ c cX8_where RX8 2 D cI cZ := cx
  have hl : lv_has ls 2 [(0, .ref (a 36)), (1, .int i)] := hl
  have hx := cx.1.1
  have hb := cx.1.2.1
  refine lv_aload_n hx hb dX8_where_0 rfl (lv_at hl 0 rfl) ?_
  refine lv_iload_n hx hb dX8_where_1 rfl (lv_at hl 1 rfl) ?_
  refine goI hw (runVW (k := 36) (As := [.int i]) (rest := []) cx hw (k_X8_isItem l D a cI cZ f u i  hi) lk_X8_130 rfl rfl ⟨Nat.le_of_ble_eq_true rfl, Nat.le_of_ble_eq_true rfl⟩ ⟨rfl, rfl⟩ ⟨Nat.zero_le _, Nat.zero_le _⟩ rfl rfl hl.1 (Nat.le_of_ble_eq_true rfl) dX8_where_2) (fun r_1 f_1 u_1 H locs hp_1 hw => ?_)
  obtain ⟨rfl, rfl, ha_1⟩ := hp_1
  rcases ha_1 with er_1 | ⟨er_1, b1_1_j, b1_1_c, q1_1_0, q1_1_1, q1_1_2, q1_1_3⟩
  · subst er_1
    refine lv_if_eq (tgt := 17) hx hb dX8_where_5 (by decide) (fun _ => ?_) (fun q => absurd (by decide) q)
    refine lv_iconst (v := (-1)) hx hb dX8_where_17 (by decide) ?_
    exact retI cx hw hr hk dX8_where_18 ⟨rfl, rfl⟩
  · subst er_1
    subst q1_1_3
    refine lv_if_eq (tgt := 17) hx hb dX8_where_5 (by decide) (fun q => absurd q (by decide)) (fun _ => ?_)
    refine lv_aload_n hx hb dX8_where_8 rfl (lv_at hl 0 rfl) ?_
    refine gf_X8_49 cx hw dX8_where_9 ?_
    refine lv_iload_n hx hb dX8_where_12 rfl (lv_at hl 1 rfl) ?_
    refine aldN 47 b1_1_j cx hw rfl (by omega) (by decide) dX8_where_13 ?_
    rcases IV.a_47 hi (i := b1_1_j) (by omega) with en_4 | ⟨n_4, hn_4, en_4⟩
    · refine topc (y := (-1)) en_4 ?_
      refine lv_goto (tgt := 18) hx hb dX8_where_14 (by decide) ?_
      exact retI cx hw hr hk dX8_where_18 ⟨rfl, rfl⟩
    · refine topc (y := (nI n_4)) en_4 ?_
      refine lv_goto (tgt := 18) hx hb dX8_where_14 (by decide) ?_
      exact retI cx hw hr hk dX8_where_18 ⟨rfl, rfl⟩

set_option maxHeartbeats 4000000 in
set_option maxRecDepth 100000 in
theorem k_X8_in (l : Launch) (D : va_G) (a : Nat → Nat) (cI cZ : ClassId) (f : FF) (u : UU) (h : Int32) (k : Int32) (hi : IV f)  : KI l yX8_in cX8_in 3 (some .int) ({ frames := 4, cells := 0, slots := 0, locals := 77 } : Room) D a cI cZ [.ref (a 36), .int h, .int k] f u (fun r f2 u2 => f = f2 ∧ u = u2) := by
  refine KX.of (by decide) (Nat.le_of_ble_eq_true rfl) ?_
  intro p e s m below meth c cx hw hr hk ls hl
  have cx : Cx p s m _ c cX8_in RX8 3 D cI cZ := cx
  have hl : lv_has ls 3 [(0, .ref (a 36)), (1, .int h), (2, .int k)] := hl
  have hx := cx.1.1
  have hb := cx.1.2.1
  refine lv_aload_n hx hb dX8_in_0 rfl (lv_at hl 0 rfl) ?_
  refine lv_iload_n hx hb dX8_in_1 rfl (lv_at hl 1 rfl) ?_
  refine lv_iload_n hx hb dX8_in_2 rfl (lv_at hl 2 rfl) ?_
  refine goI hw (runVW (k := 36) (As := [.int h, .int k]) (rest := []) cx hw (k_X8_isSlot l D a cI cZ f u h k  hi) lk_X8_133 rfl rfl ⟨Nat.le_of_ble_eq_true rfl, Nat.le_of_ble_eq_true rfl⟩ ⟨rfl, rfl⟩ ⟨Nat.zero_le _, Nat.zero_le _⟩ rfl rfl hl.1 (Nat.le_of_ble_eq_true rfl) dX8_in_3) (fun r_1 f_1 u_1 H locs hp_1 hw => ?_)
  obtain ⟨rfl, rfl, ha_1⟩ := hp_1
  rcases ha_1 with er_1 | ⟨er_1, b1_1_j, b1_1_k1, b1_1_c, b1_1_d, q1_1_0, q1_1_1, q1_1_2, q1_1_3, q1_1_4, q1_1_5, q1_1_6, q1_1_7⟩
  · subst er_1
    refine lv_if_eq (tgt := 23) hx hb dX8_in_6 (by decide) (fun _ => ?_) (fun q => absurd (by decide) q)
    refine lv_iconst (v := (-1)) hx hb dX8_in_23 (by decide) ?_
    exact retI cx hw hr hk dX8_in_24 ⟨rfl, rfl⟩
  · subst er_1
    subst q1_1_6
    subst q1_1_7
    refine lv_if_eq (tgt := 23) hx hb dX8_in_6 (by decide) (fun q => absurd q (by decide)) (fun _ => ?_)
    refine lv_aload_n hx hb dX8_in_9 rfl (lv_at hl 0 rfl) ?_
    refine gf_X8_34 cx hw dX8_in_10 ?_
    refine lv_bipush (v := 8) hx hb dX8_in_13 (by decide) ?_
    refine lv_iload_n hx hb dX8_in_15 rfl (lv_at hl 1 rfl) ?_
    refine lv_imul hx hb dX8_in_16 ?_
    refine topc (y := (nI (8 * b1_1_j))) (pk_mul 8 b1_1_j) ?_
    refine lv_iload_n hx hb dX8_in_17 rfl (lv_at hl 2 rfl) ?_
    refine lv_iadd hx hb dX8_in_18 ?_
    refine topc (y := (nI ((8 * b1_1_j) + b1_1_k1))) (nI_add (8 * b1_1_j) b1_1_k1) ?_
    refine aldN 42 ((8 * b1_1_j) + b1_1_k1) cx hw rfl (by omega) (by decide) dX8_in_19 ?_
    rcases IV.a_42 hi (i := ((8 * b1_1_j) + b1_1_k1)) (by omega) with en_4 | ⟨n_4, hn_4, en_4⟩
    · refine topc (y := (-1)) en_4 ?_
      refine lv_goto (tgt := 24) hx hb dX8_in_20 (by decide) ?_
      exact retI cx hw hr hk dX8_in_24 ⟨rfl, rfl⟩
    · refine topc (y := (nI n_4)) en_4 ?_
      refine lv_goto (tgt := 24) hx hb dX8_in_20 (by decide) ?_
      exact retI cx hw hr hk dX8_in_24 ⟨rfl, rfl⟩

set_option maxHeartbeats 4000000 in
set_option maxRecDepth 100000 in
theorem k_X8_about (l : Launch) (D : va_G) (a : Nat → Nat) (cI cZ : ClassId) (f : FF) (u : UU) (h : Int32) (wh : Int32) (hi : IV f)  : KI l yX8_about cX8_about 6 (some .int) ({ frames := 3, cells := 0, slots := 0, locals := 56 } : Room) D a cI cZ [.ref (a 36), .int h, .int wh] f u (fun r f2 u2 => f = f2 ∧ u = u2) := by
  refine KX.of (by decide) (Nat.le_of_ble_eq_true rfl) ?_
  intro p e s m below meth c cx hw hr hk ls hl
  have cx : Cx p s m _ c cX8_about RX8 6 D cI cZ := cx
  have hl : lv_has ls 6 [(0, .ref (a 36)), (1, .int h), (2, .int wh)] := hl
  have hx := cx.1.1
  have hb := cx.1.2.1
  refine lv_aload_n hx hb dX8_about_0 rfl (lv_at hl 0 rfl) ?_
  refine lv_iload_n hx hb dX8_about_1 rfl (lv_at hl 1 rfl) ?_
  refine goI hw (runVW (k := 36) (As := [.int h]) (rest := []) cx hw (k_X8_isHold l D a cI cZ f u h  hi) lk_X8_102 rfl rfl ⟨Nat.le_of_ble_eq_true rfl, Nat.le_of_ble_eq_true rfl⟩ ⟨rfl, rfl⟩ ⟨Nat.zero_le _, Nat.zero_le _⟩ rfl rfl hl.1 (Nat.le_of_ble_eq_true rfl) dX8_about_2) (fun r_1 f_1 u_1 H locs hp_1 hw => ?_)
  obtain ⟨rfl, rfl, ha_1⟩ := hp_1
  rcases ha_1 with ⟨er_1, q0_1_0⟩ | ⟨er_1, b1_1_j, b1_1_c, q1_1_0, q1_1_1, q1_1_2, q1_1_3⟩
  · subst er_1
    refine lv_if_ne (tgt := 10) hx hb dX8_about_5 (by decide) (fun q => absurd (by decide) q) (fun _ => ?_)
    refine lv_iconst (v := (-1)) hx hb dX8_about_8 (by decide) ?_
    exact retI cx hw hr hk dX8_about_9 ⟨rfl, rfl⟩
  · subst er_1
    subst q1_1_3
    refine lv_if_ne (tgt := 10) hx hb dX8_about_5 (by decide) (fun _ => ?_) (fun q => absurd q (by decide))
    refine lv_iconst (v := 0) hx hb dX8_about_10 (by decide) ?_
    refine lv_istore_n (lv' := [(3, .int 0), (0, .ref (a 36)), (1, .int (nI b1_1_j)), (2, .int wh)]) hx hb dX8_about_11 rfl hl (by decide) rfl (fun ls hl => ?_)
    refine lv_iload_n hx hb dX8_about_12 rfl (lv_at hl 3 rfl) ?_
    rcases Decidable.em (wh = 0) with c_4 | c_4
    · refine lv_tableIn (off := 27) (tgt := 40) hx hb dX8_about_13 (by rw [c_4]; decide) (by rw [c_4]; decide) (by rw [c_4]; rfl) (by decide) ?_
      refine lv_aload_n hx hb dX8_about_40 rfl (lv_at hl 1 rfl) ?_
      refine lv_iload_n hx hb dX8_about_41 rfl (lv_at hl 2 rfl) ?_
      refine goI hw (runVW (k := 36) (As := [.int (nI b1_1_j)]) (rest := []) cx hw (k_X8_weightOf l D a cI cZ f u b1_1_j  hi (by omega)) lk_X8_127 rfl rfl ⟨Nat.le_of_ble_eq_true rfl, Nat.le_of_ble_eq_true rfl⟩ ⟨rfl, rfl⟩ ⟨Nat.zero_le _, Nat.zero_le _⟩ rfl rfl hl.1 (Nat.le_of_ble_eq_true rfl) dX8_about_42) (fun r_5 f_5 u_5 H locs hp_5 hw => ?_)
      obtain ⟨rfl, rfl⟩ := hp_5
      exact retI cx hw hr hk dX8_about_45 ⟨rfl, rfl⟩
    rcases Decidable.em (wh = 1) with c_6 | c_6
    · refine lv_tableIn (off := 33) (tgt := 46) hx hb dX8_about_13 (by rw [c_6]; decide) (by rw [c_6]; decide) (by rw [c_6]; rfl) (by decide) ?_
      refine lv_iconst (v := 0) hx hb dX8_about_46 (by decide) ?_
      refine lv_istore (lv' := [(4, .int 0), (3, .int 0), (0, .ref (a 36)), (1, .int (nI b1_1_j)), (2, .int wh)]) hx hb dX8_about_47 hl (by decide) rfl (fun ls hl => ?_)
      have loop_7 : ∀ (k_7 : Nat) (v4_7 : Nat) (v3_7 : Int32), v4_7 ≤ 8 → 8 + 1 - v4_7 < k_7 → ∀ (H : Heap) (locs : List Loc) (ls : Array Slot), Wd D a cI cZ s f u H locs → lv_has ls 6 [(4, .int (nI v4_7)), (3, .int v3_7), (0, .ref (a 36)), (1, .int (nI b1_1_j)), (2, .int wh)] → W p l e ({ frames := 3, cells := 0, slots := 0, locals := 56 } : Room) s m ([.ref (a 36), .int (nI b1_1_j), .int wh] : List Value).toArray below meth c H locs 0 0 (MQ below (QI D a cI cZ (fun r f2 u2 => f = f2 ∧ u = u2)) ([.ref (a 36), .int (nI b1_1_j), .int wh] : List Value).toArray s 0 0 (AA a)) (F0 m 49 ls []) := by
        intro k_7
        induction k_7 with
        | zero => intros; omega
        | succ k_7 ih_7 =>
          intro v4_7 v3_7  hb0_7  hm_7  H locs ls hw hl
          refine lv_iload hx hb dX8_about_49 (lv_at hl 0 rfl) ?_
          refine lv_aload_n hx hb dX8_about_51 rfl (lv_at hl 2 rfl) ?_
          refine gf_X8_25 cx hw dX8_about_52 ?_
          refine lv_iload_n hx hb dX8_about_55 rfl (lv_at hl 3 rfl) ?_
          refine aldN 39 b1_1_j cx hw rfl (by omega) (by decide) dX8_about_56 ?_
          obtain ⟨n_8, hn_8, en_8⟩ := IV.a_39 hi (i := b1_1_j) (by omega)
          refine topc (y := (nI n_8)) en_8 ?_
          refine lv_icmp_ge (tgt := 90) hx hb dX8_about_57 (by decide) (fun c_9 => ?_) (fun c_9 => ?_)
          · have c_9 : n_8 ≤ v4_7 := (nI_leI (a := n_8) (b := v4_7) (by omega) (by omega)).mp c_9
            refine lv_iload_n hx hb dX8_about_90 rfl (lv_at hl 1 rfl) ?_
            exact retI cx hw hr hk dX8_about_91 ⟨rfl, rfl⟩
          · have c_9 : ¬ n_8 ≤ v4_7 := fun z => c_9 ((nI_leI (a := n_8) (b := v4_7) (by omega) (by omega)).mpr z)
            refine lv_iload_n hx hb dX8_about_60 rfl (lv_at hl 1 rfl) ?_
            refine lv_aload_n hx hb dX8_about_61 rfl (lv_at hl 2 rfl) ?_
            refine gf_X8_34 cx hw dX8_about_62 ?_
            refine lv_bipush (v := 8) hx hb dX8_about_65 (by decide) ?_
            refine lv_iload_n hx hb dX8_about_67 rfl (lv_at hl 3 rfl) ?_
            refine lv_imul hx hb dX8_about_68 ?_
            refine topc (y := (nI (8 * b1_1_j))) (pk_mul 8 b1_1_j) ?_
            refine lv_iload hx hb dX8_about_69 (lv_at hl 0 rfl) ?_
            refine lv_iadd hx hb dX8_about_71 ?_
            refine topc (y := (nI ((8 * b1_1_j) + v4_7))) (nI_add (8 * b1_1_j) v4_7) ?_
            refine aldN 42 ((8 * b1_1_j) + v4_7) cx hw rfl (by omega) (by decide) dX8_about_72 ?_
            rcases IV.a_42 hi (i := ((8 * b1_1_j) + v4_7)) (by omega) with en_10 | ⟨n_10, hn_10, en_10⟩
            · refine topc (y := (-1)) en_10 ?_
              refine lv_iconst (v := (-1)) hx hb dX8_about_73 (by decide) ?_
              refine lv_icmp_ne (tgt := 81) hx hb dX8_about_74 (by decide) (fun q => absurd (by decide) q) (fun _ => ?_)
              refine lv_iconst (v := 0) hx hb dX8_about_77 (by decide) ?_
              refine lv_goto (tgt := 82) hx hb dX8_about_78 (by decide) ?_
              refine lv_iadd hx hb dX8_about_82 ?_
              refine lv_topi (fun x_12 _ => ?_)
              refine lv_istore_n (lv' := [(3, .int x_12), (4, .int (nI v4_7)), (0, .ref (a 36)), (1, .int (nI b1_1_j)), (2, .int wh)]) hx hb dX8_about_83 rfl hl (by decide) rfl (fun ls hl => ?_)
              refine lv_iinc (v := (nI (v4_7 + 1))) (lv' := [(4, .int (nI (v4_7 + 1))), (3, .int x_12), (0, .ref (a 36)), (1, .int (nI b1_1_j)), (2, .int wh)]) hx hb dX8_about_84 hl (k := 1) rfl (nI_add v4_7 1) (by decide) rfl (fun ls hl => ?_)
              refine lv_goto (tgt := 49) hx hb dX8_about_87 (by decide) ?_
              exact ih_7 (v4_7 + 1) x_12  (by omega) (by omega) _ _ _ hw (lv_sub hl [0, 1, 2, 3, 4] rfl)
            · refine topc (y := (nI n_10)) en_10 ?_
              refine lv_iconst (v := (-1)) hx hb dX8_about_73 (by decide) ?_
              refine lv_icmp_ne (tgt := 81) hx hb dX8_about_74 (by decide) (fun _ => ?_) (fun q => absurd q (nI_m1 (by omega)))
              refine lv_iconst (v := 1) hx hb dX8_about_81 (by decide) ?_
              refine lv_iadd hx hb dX8_about_82 ?_
              refine lv_topi (fun x_14 _ => ?_)
              refine lv_istore_n (lv' := [(3, .int x_14), (4, .int (nI v4_7)), (0, .ref (a 36)), (1, .int (nI b1_1_j)), (2, .int wh)]) hx hb dX8_about_83 rfl hl (by decide) rfl (fun ls hl => ?_)
              refine lv_iinc (v := (nI (v4_7 + 1))) (lv' := [(4, .int (nI (v4_7 + 1))), (3, .int x_14), (0, .ref (a 36)), (1, .int (nI b1_1_j)), (2, .int wh)]) hx hb dX8_about_84 hl (k := 1) rfl (nI_add v4_7 1) (by decide) rfl (fun ls hl => ?_)
              refine lv_goto (tgt := 49) hx hb dX8_about_87 (by decide) ?_
              exact ih_7 (v4_7 + 1) x_14  (by omega) (by omega) _ _ _ hw (lv_sub hl [0, 1, 2, 3, 4] rfl)
      exact loop_7 _ 0 0  (by omega)  (Nat.lt_succ_self _) _ _ _ hw (lv_sub hl [0, 1, 2, 3, 4] rfl)
    rcases Decidable.em (wh = 2) with c_15 | c_15
    · refine lv_tableIn (off := 79) (tgt := 92) hx hb dX8_about_13 (by rw [c_15]; decide) (by rw [c_15]; decide) (by rw [c_15]; rfl) (by decide) ?_
      refine lv_iconst (v := 0) hx hb dX8_about_92 (by decide) ?_
      refine lv_istore (lv' := [(4, .int 0), (3, .int 0), (0, .ref (a 36)), (1, .int (nI b1_1_j)), (2, .int wh)]) hx hb dX8_about_93 hl (by decide) rfl (fun ls hl => ?_)
      have loop_16 : ∀ (k_16 : Nat) (v4_16 : Nat) (v3_16 : Int32), v4_16 ≤ 8 → 8 + 1 - v4_16 < k_16 → ∀ (H : Heap) (locs : List Loc) (ls : Array Slot), Wd D a cI cZ s f u H locs → lv_has ls 6 [(4, .int (nI v4_16)), (3, .int v3_16), (0, .ref (a 36)), (1, .int (nI b1_1_j)), (2, .int wh)] → W p l e ({ frames := 3, cells := 0, slots := 0, locals := 56 } : Room) s m ([.ref (a 36), .int (nI b1_1_j), .int wh] : List Value).toArray below meth c H locs 0 0 (MQ below (QI D a cI cZ (fun r f2 u2 => f = f2 ∧ u = u2)) ([.ref (a 36), .int (nI b1_1_j), .int wh] : List Value).toArray s 0 0 (AA a)) (F0 m 95 ls []) := by
        intro k_16
        induction k_16 with
        | zero => intros; omega
        | succ k_16 ih_16 =>
          intro v4_16 v3_16  hb0_16  hm_16  H locs ls hw hl
          refine lv_iload hx hb dX8_about_95 (lv_at hl 0 rfl) ?_
          refine lv_iconst (v := 1) hx hb dX8_about_97 (by decide) ?_
          refine lv_iadd hx hb dX8_about_98 ?_
          refine topc (y := (nI (v4_16 + 1))) (nI_add v4_16 1) ?_
          refine lv_aload_n hx hb dX8_about_99 rfl (lv_at hl 2 rfl) ?_
          refine gf_X8_25 cx hw dX8_about_100 ?_
          refine lv_iload_n hx hb dX8_about_103 rfl (lv_at hl 3 rfl) ?_
          refine aldN 39 b1_1_j cx hw rfl (by omega) (by decide) dX8_about_104 ?_
          obtain ⟨n_17, hn_17, en_17⟩ := IV.a_39 hi (i := b1_1_j) (by omega)
          refine topc (y := (nI n_17)) en_17 ?_
          refine lv_icmp_ge (tgt := 154) hx hb dX8_about_105 (by decide) (fun c_18 => ?_) (fun c_18 => ?_)
          · have c_18 : n_17 ≤ (v4_16 + 1) := (nI_leI (a := n_17) (b := (v4_16 + 1)) (by omega) (by omega)).mp c_18
            refine lv_iload_n hx hb dX8_about_154 rfl (lv_at hl 1 rfl) ?_
            exact retI cx hw hr hk dX8_about_155 ⟨rfl, rfl⟩
          · have c_18 : ¬ n_17 ≤ (v4_16 + 1) := fun z => c_18 ((nI_leI (a := n_17) (b := (v4_16 + 1)) (by omega) (by omega)).mpr z)
            refine lv_aload_n hx hb dX8_about_108 rfl (lv_at hl 2 rfl) ?_
            refine lv_bipush (v := 8) hx hb dX8_about_109 (by decide) ?_
            refine lv_iload_n hx hb dX8_about_111 rfl (lv_at hl 3 rfl) ?_
            refine lv_imul hx hb dX8_about_112 ?_
            refine topc (y := (nI (8 * b1_1_j))) (pk_mul 8 b1_1_j) ?_
            refine lv_iload hx hb dX8_about_113 (lv_at hl 0 rfl) ?_
            refine lv_iadd hx hb dX8_about_115 ?_
            refine topc (y := (nI ((8 * b1_1_j) + v4_16))) (nI_add (8 * b1_1_j) v4_16) ?_
            refine goI hw (runVW (k := 36) (As := [.int (nI ((8 * b1_1_j) + v4_16))]) (rest := []) cx hw (k_X8_weightAt l D a cI cZ f u ((8 * b1_1_j) + v4_16)  hi (by omega)) lk_X8_123 rfl rfl ⟨Nat.le_of_ble_eq_true rfl, Nat.le_of_ble_eq_true rfl⟩ ⟨rfl, rfl⟩ ⟨Nat.zero_le _, Nat.zero_le _⟩ rfl rfl hl.1 (Nat.le_of_ble_eq_true rfl) dX8_about_116) (fun r_19 f_19 u_19 H locs hp_19 hw => ?_)
            obtain ⟨rfl, rfl⟩ := hp_19
            refine lv_aload_n hx hb dX8_about_119 rfl (lv_at hl 2 rfl) ?_
            refine lv_bipush (v := 8) hx hb dX8_about_120 (by decide) ?_
            refine lv_iload_n hx hb dX8_about_122 rfl (lv_at hl 3 rfl) ?_
            refine lv_imul hx hb dX8_about_123 ?_
            refine topc (y := (nI (8 * b1_1_j))) (pk_mul 8 b1_1_j) ?_
            refine lv_iload hx hb dX8_about_124 (lv_at hl 0 rfl) ?_
            refine lv_iadd hx hb dX8_about_126 ?_
            refine topc (y := (nI ((8 * b1_1_j) + v4_16))) (nI_add (8 * b1_1_j) v4_16) ?_
            refine lv_iconst (v := 1) hx hb dX8_about_127 (by decide) ?_
            refine lv_iadd hx hb dX8_about_128 ?_
            refine topc (y := (nI (((8 * b1_1_j) + v4_16) + 1))) (nI_add ((8 * b1_1_j) + v4_16) 1) ?_
            refine goI hw (runVW (k := 36) (As := [.int (nI (((8 * b1_1_j) + v4_16) + 1))]) (rest := [.int r_19]) cx hw (k_X8_weightAt l D a cI cZ f u (((8 * b1_1_j) + v4_16) + 1)  hi (by omega)) lk_X8_123 rfl rfl ⟨Nat.le_of_ble_eq_true rfl, Nat.le_of_ble_eq_true rfl⟩ ⟨rfl, rfl⟩ ⟨Nat.zero_le _, Nat.zero_le _⟩ rfl rfl hl.1 (Nat.le_of_ble_eq_true rfl) dX8_about_129) (fun r_20 f_20 u_20 H locs hp_20 hw => ?_)
            obtain ⟨rfl, rfl⟩ := hp_20
            refine lv_iadd hx hb dX8_about_132 ?_
            refine lv_topi (fun x_21 _ => ?_)
            refine lv_istore (lv' := [(5, .int x_21), (4, .int (nI v4_16)), (3, .int v3_16), (0, .ref (a 36)), (1, .int (nI b1_1_j)), (2, .int wh)]) hx hb dX8_about_133 hl (by decide) rfl (fun ls hl => ?_)
            refine lv_iload hx hb dX8_about_135 (lv_at hl 0 rfl) ?_
            refine lv_iload_n hx hb dX8_about_137 rfl (lv_at hl 2 rfl) ?_
            refine lv_icmp_le (tgt := 146) hx hb dX8_about_138 (by decide) (fun _ => ?_) (fun _ => ?_)
            · refine lv_iload_n hx hb dX8_about_146 rfl (lv_at hl 2 rfl) ?_
              refine lv_istore_n (lv' := [(3, .int v3_16), (5, .int x_21), (4, .int (nI v4_16)), (0, .ref (a 36)), (1, .int (nI b1_1_j)), (2, .int wh)]) hx hb dX8_about_147 rfl hl (by decide) rfl (fun ls hl => ?_)
              refine lv_iinc (v := (nI (v4_16 + 1))) (lv' := [(4, .int (nI (v4_16 + 1))), (3, .int v3_16), (5, .int x_21), (0, .ref (a 36)), (1, .int (nI b1_1_j)), (2, .int wh)]) hx hb dX8_about_148 hl (k := 2) rfl (nI_add v4_16 1) (by decide) rfl (fun ls hl => ?_)
              refine lv_goto (tgt := 95) hx hb dX8_about_151 (by decide) ?_
              exact ih_16 (v4_16 + 1) v3_16  (by omega) (by omega) _ _ _ hw (lv_sub hl [0, 1, 3, 4, 5] rfl)
            · refine lv_iload hx hb dX8_about_141 (lv_at hl 0 rfl) ?_
              refine lv_goto (tgt := 147) hx hb dX8_about_143 (by decide) ?_
              refine lv_istore_n (lv' := [(3, .int x_21), (5, .int x_21), (4, .int (nI v4_16)), (0, .ref (a 36)), (1, .int (nI b1_1_j)), (2, .int wh)]) hx hb dX8_about_147 rfl hl (by decide) rfl (fun ls hl => ?_)
              refine lv_iinc (v := (nI (v4_16 + 1))) (lv' := [(4, .int (nI (v4_16 + 1))), (3, .int x_21), (5, .int x_21), (0, .ref (a 36)), (1, .int (nI b1_1_j)), (2, .int wh)]) hx hb dX8_about_148 hl (k := 2) rfl (nI_add v4_16 1) (by decide) rfl (fun ls hl => ?_)
              refine lv_goto (tgt := 95) hx hb dX8_about_151 (by decide) ?_
              exact ih_16 (v4_16 + 1) x_21  (by omega) (by omega) _ _ _ hw (lv_sub hl [0, 1, 3, 4, 5] rfl)
      exact loop_16 _ 0 0  (by omega)  (Nat.lt_succ_self _) _ _ _ hw (lv_sub hl [0, 1, 2, 3, 4] rfl)
    refine lv_tableOut (tgt := 156) hx hb dX8_about_13 (by have z0 := lv_neT (a := 0) c_4 rfl; have z1 := lv_neT (a := 1) c_6 rfl; have z2 := lv_neT (a := 2) c_15 rfl; omega) (by decide) ?_
    refine lv_iconst (v := (-1)) hx hb dX8_about_156 (by decide) ?_
    exact retI cx hw hr hk dX8_about_157 ⟨rfl, rfl⟩
