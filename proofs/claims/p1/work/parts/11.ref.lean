set_option maxHeartbeats 4000000 in
set_option maxRecDepth 100000 in
theorem c_X8_isIn (l : Launch) (D : va_G) (a : Nat → Nat) (cI cZ : ClassId) (f : FF) (u : UU) (v : Int32) (lo : Int32) (hi : Int32)   : KI l yX8_isIn cX8_isIn 3 (some .boolean) ({ frames := 1, cells := 0, slots := 0, locals := 12 } : Room) D a cI cZ [.int v, .int lo, .int hi] f u (fun r f2 u2 => f = f2 ∧ u = u2 ∧ r = (rg v lo hi)) := by
  refine KX.of (by decide) (Nat.le_of_ble_eq_true rfl) ?_
  intro p e s m below meth c cx hw hr hk ls hl
  have cx : Cx p s m _ c cX8_isIn RX8 3 D cI cZ := cx
  have hl : lv_has ls 3 [(0, .int v), (1, .int lo), (2, .int hi)] := hl
  have hx := cx.1.1
  have hb := cx.1.2.1
  refine lv_iload_n hx hb dX8_isIn_0 rfl (lv_at hl 0 rfl) ?_
  refine lv_iload_n hx hb dX8_isIn_1 rfl (lv_at hl 1 rfl) ?_
  refine lv_icmp_lt (tgt := 14) hx hb dX8_isIn_2 (by decide) (fun c_1 => ?_) (fun c_1 => ?_)
  · refine lv_iconst (v := 0) hx hb dX8_isIn_14 (by decide) ?_
    exact retZ cx hw hr hk rfl dX8_isIn_15 ⟨rfl, rfl, (rg_lo c_1)⟩
  · refine lv_iload_n hx hb dX8_isIn_5 rfl (lv_at hl 0 rfl) ?_
    refine lv_iload_n hx hb dX8_isIn_6 rfl (lv_at hl 2 rfl) ?_
    refine lv_icmp_gt (tgt := 14) hx hb dX8_isIn_7 (by decide) (fun c_2 => ?_) (fun c_2 => ?_)
    · refine lv_iconst (v := 0) hx hb dX8_isIn_14 (by decide) ?_
      exact retZ cx hw hr hk rfl dX8_isIn_15 ⟨rfl, rfl, (rg_hi c_1 c_2)⟩
    · refine lv_iconst (v := 1) hx hb dX8_isIn_10 (by decide) ?_
      refine lv_goto (tgt := 15) hx hb dX8_isIn_11 (by decide) ?_
      exact retZ cx hw hr hk rfl dX8_isIn_15 ⟨rfl, rfl, (rg_in c_1 c_2)⟩

set_option maxHeartbeats 4000000 in
set_option maxRecDepth 100000 in
theorem c_X8_isArm (l : Launch) (D : va_G) (a : Nat → Nat) (cI cZ : ClassId) (f : FF) (u : UU) (v : Int32)   : KI l yX8_isArm cX8_isArm 1 (some .boolean) ({ frames := 2, cells := 0, slots := 0, locals := 34 } : Room) D a cI cZ [.int v] f u (fun r f2 u2 => f = f2 ∧ u = u2 ∧ r = (rg v 0 5000)) := by
  refine KX.of (by decide) (Nat.le_of_ble_eq_true rfl) ?_
  intro p e s m below meth c cx hw hr hk ls hl
  have cx : Cx p s m _ c cX8_isArm RX8 1 D cI cZ := cx
  have hl : lv_has ls 1 [(0, .int v)] := hl
  have hx := cx.1.1
  have hb := cx.1.2.1
  refine lv_iload_n hx hb dX8_isArm_0 rfl (lv_at hl 0 rfl) ?_
  refine lv_iconst (v := 0) hx hb dX8_isArm_1 (by decide) ?_
  refine lv_sipush (v := 5000) hx hb dX8_isArm_2 (by decide) ?_
  refine goI hw (runSW (As := [.int v, .int 0, .int 5000]) (rest := []) cx hw (c_X8_isIn l D a cI cZ f u v 0 5000 ) lk_X8_95 ⟨Nat.le_of_ble_eq_true rfl, Nat.le_of_ble_eq_true rfl⟩ ⟨rfl, rfl⟩ ⟨Nat.zero_le _, Nat.zero_le _⟩ rfl rfl hl.1 (Nat.le_of_ble_eq_true rfl) dX8_isArm_5) (fun r_1 f2 u2 H locs hp hw => ?_)
  obtain ⟨rfl, rfl, e_1⟩ := hp
  refine topc e_1 ?_
  exact retZ cx hw hr hk (nar_rg _ _ _) dX8_isArm_8 ⟨rfl, rfl, rfl⟩

set_option maxHeartbeats 4000000 in
set_option maxRecDepth 100000 in
theorem c_X8_isHold (l : Launch) (D : va_G) (a : Nat → Nat) (cI cZ : ClassId) (f : FF) (u : UU) (h : Int32) (h36_3 : f 36 3 = 0)  : KI l yX8_isHold cX8_isHold 2 (some .boolean) ({ frames := 2, cells := 0, slots := 0, locals := 34 } : Room) D a cI cZ [.ref (a 36), .int h] f u (fun r f2 u2 => f = f2 ∧ u = u2 ∧ r = 0) := by
  refine KX.of (by decide) (Nat.le_of_ble_eq_true rfl) ?_
  intro p e s m below meth c cx hw hr hk ls hl
  have cx : Cx p s m _ c cX8_isHold RX8 2 D cI cZ := cx
  have hl : lv_has ls 2 [(0, .ref (a 36)), (1, .int h)] := hl
  have hx := cx.1.1
  have hb := cx.1.2.1
  refine lv_iload_n hx hb dX8_isHold_0 rfl (lv_at hl 1 rfl) ?_
  refine lv_iconst (v := 0) hx hb dX8_isHold_1 (by decide) ?_
  refine lv_aload_n hx hb dX8_isHold_2 rfl (lv_at hl 0 rfl) ?_
  refine gf_X8_99 cx hw dX8_isHold_3 ?_
  refine topc (y := 0) h36_3 ?_
  refine lv_iconst (v := 1) hx hb dX8_isHold_6 (by decide) ?_
  refine lv_isub hx hb dX8_isHold_7 ?_
  refine topc (y := (-1)) (by decide) ?_
  refine goI hw (runSW (As := [.int h, .int 0, .int (-1)]) (rest := []) cx hw (c_X8_isIn l D a cI cZ f u h 0 (-1) ) lk_X8_95 ⟨Nat.le_of_ble_eq_true rfl, Nat.le_of_ble_eq_true rfl⟩ ⟨rfl, rfl⟩ ⟨Nat.zero_le _, Nat.zero_le _⟩ rfl rfl hl.1 (Nat.le_of_ble_eq_true rfl) dX8_isHold_8) (fun r_1 f2 u2 H locs hp hw => ?_)
  obtain ⟨rfl, rfl, e_1⟩ := hp
  refine topc e_1 ?_
  refine topc (y := 0) (rg_m1 h) ?_
  exact retZ cx hw hr hk rfl dX8_isHold_11 ⟨rfl, rfl, rfl⟩

set_option maxHeartbeats 4000000 in
set_option maxRecDepth 100000 in
theorem c_X8_isItem (l : Launch) (D : va_G) (a : Nat → Nat) (cI cZ : ClassId) (f : FF) (u : UU) (h : Int32) (h36_11 : f 36 11 = 0)  : KI l yX8_isItem cX8_isItem 2 (some .boolean) ({ frames := 2, cells := 0, slots := 0, locals := 34 } : Room) D a cI cZ [.ref (a 36), .int h] f u (fun r f2 u2 => f = f2 ∧ u = u2 ∧ r = 0) := by
  refine KX.of (by decide) (Nat.le_of_ble_eq_true rfl) ?_
  intro p e s m below meth c cx hw hr hk ls hl
  have cx : Cx p s m _ c cX8_isItem RX8 2 D cI cZ := cx
  have hl : lv_has ls 2 [(0, .ref (a 36)), (1, .int h)] := hl
  have hx := cx.1.1
  have hb := cx.1.2.1
  refine lv_iload_n hx hb dX8_isItem_0 rfl (lv_at hl 1 rfl) ?_
  refine lv_iconst (v := 0) hx hb dX8_isItem_1 (by decide) ?_
  refine lv_aload_n hx hb dX8_isItem_2 rfl (lv_at hl 0 rfl) ?_
  refine gf_X8_106 cx hw dX8_isItem_3 ?_
  refine topc (y := 0) h36_11 ?_
  refine lv_iconst (v := 1) hx hb dX8_isItem_6 (by decide) ?_
  refine lv_isub hx hb dX8_isItem_7 ?_
  refine topc (y := (-1)) (by decide) ?_
  refine goI hw (runSW (As := [.int h, .int 0, .int (-1)]) (rest := []) cx hw (c_X8_isIn l D a cI cZ f u h 0 (-1) ) lk_X8_95 ⟨Nat.le_of_ble_eq_true rfl, Nat.le_of_ble_eq_true rfl⟩ ⟨rfl, rfl⟩ ⟨Nat.zero_le _, Nat.zero_le _⟩ rfl rfl hl.1 (Nat.le_of_ble_eq_true rfl) dX8_isItem_8) (fun r_1 f2 u2 H locs hp hw => ?_)
  obtain ⟨rfl, rfl, e_1⟩ := hp
  refine topc e_1 ?_
  refine topc (y := 0) (rg_m1 h) ?_
  exact retZ cx hw hr hk rfl dX8_isItem_11 ⟨rfl, rfl, rfl⟩

set_option maxHeartbeats 4000000 in
set_option maxRecDepth 100000 in
theorem c_X8_isSlot (l : Launch) (D : va_G) (a : Nat → Nat) (cI cZ : ClassId) (f : FF) (u : UU) (h : Int32) (k : Int32) (h36_3 : f 36 3 = 0)  : KI l yX8_isSlot cX8_isSlot 3 (some .boolean) ({ frames := 3, cells := 0, slots := 0, locals := 55 } : Room) D a cI cZ [.ref (a 36), .int h, .int k] f u (fun r f2 u2 => f = f2 ∧ u = u2 ∧ r = 0) := by
  refine KX.of (by decide) (Nat.le_of_ble_eq_true rfl) ?_
  intro p e s m below meth c cx hw hr hk ls hl
  have cx : Cx p s m _ c cX8_isSlot RX8 3 D cI cZ := cx
  have hl : lv_has ls 3 [(0, .ref (a 36)), (1, .int h), (2, .int k)] := hl
  have hx := cx.1.1
  have hb := cx.1.2.1
  refine lv_aload_n hx hb dX8_isSlot_0 rfl (lv_at hl 0 rfl) ?_
  refine lv_iload_n hx hb dX8_isSlot_1 rfl (lv_at hl 1 rfl) ?_
  refine goI hw (runVW (k := 36) (As := [.int h]) (rest := []) cx hw (c_X8_isHold l D a cI cZ f u h h36_3) lk_X8_102 rfl rfl ⟨Nat.le_of_ble_eq_true rfl, Nat.le_of_ble_eq_true rfl⟩ ⟨rfl, rfl⟩ ⟨Nat.zero_le _, Nat.zero_le _⟩ rfl rfl hl.1 (Nat.le_of_ble_eq_true rfl) dX8_isSlot_2) (fun r_1 f2 u2 H locs hp hw => ?_)
  obtain ⟨rfl, rfl, e_1⟩ := hp
  refine topc e_1 ?_
  refine lv_if_eq (tgt := 28) hx hb dX8_isSlot_5 (by decide) (fun _ => ?_) (fun q => absurd (by decide) q)
  refine lv_iconst (v := 0) hx hb dX8_isSlot_28 (by decide) ?_
  exact retZ cx hw hr hk rfl dX8_isSlot_29 ⟨rfl, rfl, rfl⟩

set_option maxHeartbeats 4000000 in
set_option maxRecDepth 100000 in
theorem c_X8_dryWeight (l : Launch) (D : va_G) (a : Nat → Nat) (cI cZ : ClassId) (f : FF) (u : UU)  (h36_1 : f 36 1 = 1000) (h36_3 : f 36 3 = 0) (h36_16 : f 36 16 = 0)  : KI l yX8_dryWeight cX8_dryWeight 3 (some .int) ({ frames := 1, cells := 0, slots := 0, locals := 12 } : Room) D a cI cZ [.ref (a 36)] f u (fun r f2 u2 => f = f2 ∧ u = u2 ∧ r = 1000) := by
  refine KX.of (by decide) (Nat.le_of_ble_eq_true rfl) ?_
  intro p e s m below meth c cx hw hr hk ls hl
  have cx : Cx p s m _ c cX8_dryWeight RX8 3 D cI cZ := cx
  have hl : lv_has ls 3 [(0, .ref (a 36))] := hl
  have hx := cx.1.1
  have hb := cx.1.2.1
  refine lv_aload_n hx hb dX8_dryWeight_0 rfl (lv_at hl 0 rfl) ?_
  refine gf_X8_15 cx hw dX8_dryWeight_1 ?_
  refine topc (y := 1000) h36_1 ?_
  refine lv_istore_n (lv' := [(1, .int 1000), (0, .ref (a 36))]) hx hb dX8_dryWeight_4 rfl hl (by decide) rfl (fun ls hl => ?_)
  refine lv_iconst (v := 0) hx hb dX8_dryWeight_5 (by decide) ?_
  refine lv_istore_n (lv' := [(2, .int 0), (1, .int 1000), (0, .ref (a 36))]) hx hb dX8_dryWeight_6 rfl hl (by decide) rfl (fun ls hl => ?_)
  refine lv_iload_n hx hb dX8_dryWeight_7 rfl (lv_at hl 0 rfl) ?_
  refine lv_aload_n hx hb dX8_dryWeight_8 rfl (lv_at hl 2 rfl) ?_
  refine gf_X8_99 cx hw dX8_dryWeight_9 ?_
  refine topc (y := 0) h36_3 ?_
  refine lv_icmp_ge (tgt := 29) hx hb dX8_dryWeight_12 (by decide) (fun _ => ?_) (fun q => absurd (by decide) q)
  refine lv_iconst (v := 0) hx hb dX8_dryWeight_29 (by decide) ?_
  refine lv_istore_n (lv' := [(2, .int 0), (1, .int 1000), (0, .ref (a 36))]) hx hb dX8_dryWeight_30 rfl hl (by decide) rfl (fun ls hl => ?_)
  refine lv_iload_n hx hb dX8_dryWeight_31 rfl (lv_at hl 0 rfl) ?_
  refine lv_aload_n hx hb dX8_dryWeight_32 rfl (lv_at hl 2 rfl) ?_
  refine gf_X8_116 cx hw dX8_dryWeight_33 ?_
  refine topc (y := 0) h36_16 ?_
  refine lv_icmp_ge (tgt := 59) hx hb dX8_dryWeight_36 (by decide) (fun _ => ?_) (fun q => absurd (by decide) q)
  refine lv_iload_n hx hb dX8_dryWeight_59 rfl (lv_at hl 1 rfl) ?_
  exact retI cx hw hr hk dX8_dryWeight_60 ⟨rfl, rfl, rfl⟩

set_option maxHeartbeats 4000000 in
set_option maxRecDepth 100000 in
theorem c_X8_dryMoment (l : Launch) (D : va_G) (a : Nat → Nat) (cI cZ : ClassId) (f : FF) (u : UU)  (h36_1 : f 36 1 = 1000) (h36_2 : f 36 2 = 0) (h36_3 : f 36 3 = 0) (h36_16 : f 36 16 = 0)  : KL l yX8_dryMoment cX8_dryMoment 5 (some .long) ({ frames := 1, cells := 0, slots := 0, locals := 12 } : Room) D a cI cZ [.ref (a 36)] f u (fun r f2 u2 => f = f2 ∧ u = u2 ∧ r = 0) := by
  refine KX.of (by decide) (Nat.le_of_ble_eq_true rfl) ?_
  intro p e s m below meth c cx hw hr hk ls hl
  have cx : Cx p s m _ c cX8_dryMoment RX8 5 D cI cZ := cx
  have hl : lv_has ls 5 [(0, .ref (a 36))] := hl
  have hx := cx.1.1
  have hb := cx.1.2.1
  refine lv_aload_n hx hb dX8_dryMoment_0 rfl (lv_at hl 0 rfl) ?_
  refine gf_X8_15 cx hw dX8_dryMoment_1 ?_
  refine topc (y := 1000) h36_1 ?_
  refine lv_i2l (v := 1000) hx hb dX8_dryMoment_4 (by decide) ?_
  refine lv_aload_n hx hb dX8_dryMoment_5 rfl (lv_at hl 0 rfl) ?_
  refine gf_X8_113 cx hw dX8_dryMoment_6 ?_
  refine topc (y := 0) h36_2 ?_
  refine lv_i2l (v := 0) hx hb dX8_dryMoment_9 (by decide) ?_
  refine lv_lmul hx hb dX8_dryMoment_10 ?_
  refine topL (y := 0) (by decide) ?_
  refine lv_lstore_n (lv' := [(1, .long 0), (0, .ref (a 36))]) hx hb dX8_dryMoment_11 rfl hl (by decide) rfl (fun ls hl => ?_)
  refine lv_iconst (v := 0) hx hb dX8_dryMoment_12 (by decide) ?_
  refine lv_istore_n (lv' := [(3, .int 0), (1, .long 0), (0, .ref (a 36))]) hx hb dX8_dryMoment_13 rfl hl (by decide) rfl (fun ls hl => ?_)
  refine lv_iload_n hx hb dX8_dryMoment_14 rfl (lv_at hl 0 rfl) ?_
  refine lv_aload_n hx hb dX8_dryMoment_15 rfl (lv_at hl 2 rfl) ?_
  refine gf_X8_99 cx hw dX8_dryMoment_16 ?_
  refine topc (y := 0) h36_3 ?_
  refine lv_icmp_ge (tgt := 77) hx hb dX8_dryMoment_19 (by decide) (fun _ => ?_) (fun q => absurd (by decide) q)
  refine lv_iconst (v := 0) hx hb dX8_dryMoment_77 (by decide) ?_
  refine lv_istore_n (lv' := [(3, .int 0), (1, .long 0), (0, .ref (a 36))]) hx hb dX8_dryMoment_78 rfl hl (by decide) rfl (fun ls hl => ?_)
  refine lv_iload_n hx hb dX8_dryMoment_79 rfl (lv_at hl 0 rfl) ?_
  refine lv_aload_n hx hb dX8_dryMoment_80 rfl (lv_at hl 2 rfl) ?_
  refine gf_X8_116 cx hw dX8_dryMoment_81 ?_
  refine topc (y := 0) h36_16 ?_
  refine lv_icmp_ge (tgt := 117) hx hb dX8_dryMoment_84 (by decide) (fun _ => ?_) (fun q => absurd (by decide) q)
  refine lv_lload_n hx hb dX8_dryMoment_117 rfl (lv_at hl 1 rfl) ?_
  exact retL cx hw hr hk dX8_dryMoment_118 ⟨rfl, rfl, rfl⟩

set_option maxHeartbeats 4000000 in
set_option maxRecDepth 100000 in
theorem c_X8_allFuel (l : Launch) (D : va_G) (a : Nat → Nat) (cI cZ : ClassId) (f : FF) (u : UU)  (h36_20 : f 36 20 = 0)  : KI l yX8_allFuel cX8_allFuel 3 (some .int) ({ frames := 1, cells := 0, slots := 0, locals := 12 } : Room) D a cI cZ [.ref (a 36)] f u (fun r f2 u2 => f = f2 ∧ u = u2 ∧ r = 0) := by
  refine KX.of (by decide) (Nat.le_of_ble_eq_true rfl) ?_
  intro p e s m below meth c cx hw hr hk ls hl
  have cx : Cx p s m _ c cX8_allFuel RX8 3 D cI cZ := cx
  have hl : lv_has ls 3 [(0, .ref (a 36))] := hl
  have hx := cx.1.1
  have hb := cx.1.2.1
  refine lv_iconst (v := 0) hx hb dX8_allFuel_0 (by decide) ?_
  refine lv_istore_n (lv' := [(1, .int 0), (0, .ref (a 36))]) hx hb dX8_allFuel_1 rfl hl (by decide) rfl (fun ls hl => ?_)
  refine lv_iconst (v := 0) hx hb dX8_allFuel_2 (by decide) ?_
  refine lv_istore_n (lv' := [(2, .int 0), (1, .int 0), (0, .ref (a 36))]) hx hb dX8_allFuel_3 rfl hl (by decide) rfl (fun ls hl => ?_)
  refine lv_iload_n hx hb dX8_allFuel_4 rfl (lv_at hl 0 rfl) ?_
  refine lv_aload_n hx hb dX8_allFuel_5 rfl (lv_at hl 2 rfl) ?_
  refine gf_X8_119 cx hw dX8_allFuel_6 ?_
  refine topc (y := 0) h36_20 ?_
  refine lv_icmp_ge (tgt := 27) hx hb dX8_allFuel_9 (by decide) (fun _ => ?_) (fun q => absurd (by decide) q)
  refine lv_iload_n hx hb dX8_allFuel_27 rfl (lv_at hl 1 rfl) ?_
  exact retI cx hw hr hk dX8_allFuel_28 ⟨rfl, rfl, rfl⟩

set_option maxHeartbeats 4000000 in
set_option maxRecDepth 100000 in
theorem c_X8_fuelMoment (l : Launch) (D : va_G) (a : Nat → Nat) (cI cZ : ClassId) (f : FF) (u : UU) (b : Int32) (h36_20 : f 36 20 = 0)  : KL l yX8_fuelMoment cX8_fuelMoment 7 (some .long) ({ frames := 1, cells := 0, slots := 0, locals := 12 } : Room) D a cI cZ [.ref (a 36), .int b] f u (fun r f2 u2 => f = f2 ∧ u = u2 ∧ r = 0) := by
  refine KX.of (by decide) (Nat.le_of_ble_eq_true rfl) ?_
  intro p e s m below meth c cx hw hr hk ls hl
  have cx : Cx p s m _ c cX8_fuelMoment RX8 7 D cI cZ := cx
  have hl : lv_has ls 7 [(0, .ref (a 36)), (1, .int b)] := hl
  have hx := cx.1.1
  have hb := cx.1.2.1
  refine lv_lconst (v := 0) hx hb dX8_fuelMoment_0 (by decide) ?_
  refine lv_lstore_n (lv' := [(2, .long 0), (0, .ref (a 36)), (1, .int b)]) hx hb dX8_fuelMoment_1 rfl hl (by decide) rfl (fun ls hl => ?_)
  refine lv_iload_n hx hb dX8_fuelMoment_2 rfl (lv_at hl 2 rfl) ?_
  refine lv_istore (lv' := [(4, .int b), (2, .long 0), (0, .ref (a 36)), (1, .int b)]) hx hb dX8_fuelMoment_3 hl (by decide) rfl (fun ls hl => ?_)
  refine lv_aload_n hx hb dX8_fuelMoment_5 rfl (lv_at hl 2 rfl) ?_
  refine gf_X8_119 cx hw dX8_fuelMoment_6 ?_
  refine topc (y := 0) h36_20 ?_
  refine lv_iconst (v := 1) hx hb dX8_fuelMoment_9 (by decide) ?_
  refine lv_isub hx hb dX8_fuelMoment_10 ?_
  refine topc (y := (-1)) (by decide) ?_
  refine lv_istore (lv' := [(5, .int (-1)), (4, .int b), (2, .long 0), (0, .ref (a 36)), (1, .int b)]) hx hb dX8_fuelMoment_11 hl (by decide) rfl (fun ls hl => ?_)
  refine lv_iload hx hb dX8_fuelMoment_13 (lv_at hl 0 rfl) ?_
  refine lv_if_lt (tgt := 80) hx hb dX8_fuelMoment_15 (by decide) (fun _ => ?_) (fun q => absurd (by decide) q)
  refine lv_lload_n hx hb dX8_fuelMoment_80 rfl (lv_at hl 2 rfl) ?_
  exact retL cx hw hr hk dX8_fuelMoment_81 ⟨rfl, rfl, rfl⟩

set_option maxHeartbeats 4000000 in
set_option maxRecDepth 100000 in
theorem c_X8_pushedAt (l : Launch) (D : va_G) (a : Nat → Nat) (cI cZ : ClassId) (f : FF) (u : UU) (s0 : Int32) (h36_3 : f 36 3 = 0)  : KI l yX8_pushedAt cX8_pushedAt 7 (some .int) ({ frames := 1, cells := 0, slots := 0, locals := 12 } : Room) D a cI cZ [.ref (a 36), .int s0] f u (fun r f2 u2 => f = f2 ∧ u = u2 ∧ r = 0) := by
  refine KX.of (by decide) (Nat.le_of_ble_eq_true rfl) ?_
  intro p e s m below meth c cx hw hr hk ls hl
  have cx : Cx p s m _ c cX8_pushedAt RX8 7 D cI cZ := cx
  have hl : lv_has ls 7 [(0, .ref (a 36)), (1, .int s0)] := hl
  have hx := cx.1.1
  have hb := cx.1.2.1
  refine lv_iconst (v := 0) hx hb dX8_pushedAt_0 (by decide) ?_
  refine lv_istore_n (lv' := [(2, .int 0), (0, .ref (a 36)), (1, .int s0)]) hx hb dX8_pushedAt_1 rfl hl (by decide) rfl (fun ls hl => ?_)
  refine lv_iconst (v := 0) hx hb dX8_pushedAt_2 (by decide) ?_
  refine lv_istore_n (lv' := [(3, .int 0), (2, .int 0), (0, .ref (a 36)), (1, .int s0)]) hx hb dX8_pushedAt_3 rfl hl (by decide) rfl (fun ls hl => ?_)
  refine lv_iload_n hx hb dX8_pushedAt_4 rfl (lv_at hl 0 rfl) ?_
  refine lv_aload_n hx hb dX8_pushedAt_5 rfl (lv_at hl 2 rfl) ?_
  refine gf_X8_99 cx hw dX8_pushedAt_6 ?_
  refine topc (y := 0) h36_3 ?_
  refine lv_icmp_ge (tgt := 106) hx hb dX8_pushedAt_9 (by decide) (fun _ => ?_) (fun q => absurd (by decide) q)
  refine lv_iload_n hx hb dX8_pushedAt_106 rfl (lv_at hl 1 rfl) ?_
  exact retI cx hw hr hk dX8_pushedAt_107 ⟨rfl, rfl, rfl⟩

set_option maxHeartbeats 4000000 in
set_option maxRecDepth 100000 in
theorem c_X8_pushedAll (l : Launch) (D : va_G) (a : Nat → Nat) (cI cZ : ClassId) (f : FF) (u : UU)  (h36_3 : f 36 3 = 0)  : KI l yX8_pushedAll cX8_pushedAll 3 (some .int) ({ frames := 2, cells := 0, slots := 0, locals := 38 } : Room) D a cI cZ [.ref (a 36)] f u (fun r f2 u2 => f = f2 ∧ u = u2 ∧ r = 0) := by
  refine KX.of (by decide) (Nat.le_of_ble_eq_true rfl) ?_
  intro p e s m below meth c cx hw hr hk ls hl
  have cx : Cx p s m _ c cX8_pushedAll RX8 3 D cI cZ := cx
  have hl : lv_has ls 3 [(0, .ref (a 36))] := hl
  have hx := cx.1.1
  have hb := cx.1.2.1
  refine lv_iconst (v := 0) hx hb dX8_pushedAll_0 (by decide) ?_
  refine lv_istore_n (lv' := [(1, .int 0), (0, .ref (a 36))]) hx hb dX8_pushedAll_1 rfl hl (by decide) rfl (fun ls hl => ?_)
  refine lv_iconst (v := 1) hx hb dX8_pushedAll_2 (by decide) ?_
  refine lv_istore_n (lv' := [(2, .int 1), (1, .int 0), (0, .ref (a 36))]) hx hb dX8_pushedAll_3 rfl hl (by decide) rfl (fun ls hl => ?_)
  refine lv_iload_n hx hb dX8_pushedAll_4 rfl (lv_at hl 0 rfl) ?_
  refine lv_iconst (v := 5) hx hb dX8_pushedAll_5 (by decide) ?_
  refine lv_icmp_ge (tgt := 23) hx hb dX8_pushedAll_6 (by decide) (fun q => absurd q (by decide)) (fun _ => ?_)
  refine lv_iload_n hx hb dX8_pushedAll_9 rfl (lv_at hl 1 rfl) ?_
  refine lv_aload_n hx hb dX8_pushedAll_10 rfl (lv_at hl 2 rfl) ?_
  refine lv_iload_n hx hb dX8_pushedAll_11 rfl (lv_at hl 0 rfl) ?_
  refine goI hw (runVW (k := 36) (As := [.int 1]) (rest := [.int 0]) cx hw (c_X8_pushedAt l D a cI cZ f u 1 h36_3) lk_X8_179 rfl rfl ⟨Nat.le_of_ble_eq_true rfl, Nat.le_of_ble_eq_true rfl⟩ ⟨rfl, rfl⟩ ⟨Nat.zero_le _, Nat.zero_le _⟩ rfl rfl hl.1 (Nat.le_of_ble_eq_true rfl) dX8_pushedAll_12) (fun r_2 f2 u2 H locs hp hw => ?_)
  obtain ⟨rfl, rfl, e_2⟩ := hp
  refine topc e_2 ?_
  refine lv_iadd hx hb dX8_pushedAll_15 ?_
  refine topc (y := 0) (by decide) ?_
  refine lv_istore_n (lv' := [(1, .int 0), (2, .int 1), (0, .ref (a 36))]) hx hb dX8_pushedAll_16 rfl hl (by decide) rfl (fun ls hl => ?_)
  refine lv_iinc (v := 2) (lv' := [(2, .int 2), (1, .int 0), (0, .ref (a 36))]) hx hb dX8_pushedAll_17 hl (k := 1) rfl (by decide) (by decide) rfl (fun ls hl => ?_)
  refine lv_goto (tgt := 4) hx hb dX8_pushedAll_20 (by decide) ?_
  refine lv_iload_n hx hb dX8_pushedAll_4 rfl (lv_at hl 0 rfl) ?_
  refine lv_iconst (v := 5) hx hb dX8_pushedAll_5 (by decide) ?_
  refine lv_icmp_ge (tgt := 23) hx hb dX8_pushedAll_6 (by decide) (fun q => absurd q (by decide)) (fun _ => ?_)
  refine lv_iload_n hx hb dX8_pushedAll_9 rfl (lv_at hl 1 rfl) ?_
  refine lv_aload_n hx hb dX8_pushedAll_10 rfl (lv_at hl 2 rfl) ?_
  refine lv_iload_n hx hb dX8_pushedAll_11 rfl (lv_at hl 0 rfl) ?_
  refine goI hw (runVW (k := 36) (As := [.int 2]) (rest := [.int 0]) cx hw (c_X8_pushedAt l D a cI cZ f u 2 h36_3) lk_X8_179 rfl rfl ⟨Nat.le_of_ble_eq_true rfl, Nat.le_of_ble_eq_true rfl⟩ ⟨rfl, rfl⟩ ⟨Nat.zero_le _, Nat.zero_le _⟩ rfl rfl hl.1 (Nat.le_of_ble_eq_true rfl) dX8_pushedAll_12) (fun r_4 f2 u2 H locs hp hw => ?_)
  obtain ⟨rfl, rfl, e_4⟩ := hp
  refine topc e_4 ?_
  refine lv_iadd hx hb dX8_pushedAll_15 ?_
  refine topc (y := 0) (by decide) ?_
  refine lv_istore_n (lv' := [(1, .int 0), (2, .int 2), (0, .ref (a 36))]) hx hb dX8_pushedAll_16 rfl hl (by decide) rfl (fun ls hl => ?_)
  refine lv_iinc (v := 3) (lv' := [(2, .int 3), (1, .int 0), (0, .ref (a 36))]) hx hb dX8_pushedAll_17 hl (k := 1) rfl (by decide) (by decide) rfl (fun ls hl => ?_)
  refine lv_goto (tgt := 4) hx hb dX8_pushedAll_20 (by decide) ?_
  refine lv_iload_n hx hb dX8_pushedAll_4 rfl (lv_at hl 0 rfl) ?_
  refine lv_iconst (v := 5) hx hb dX8_pushedAll_5 (by decide) ?_
  refine lv_icmp_ge (tgt := 23) hx hb dX8_pushedAll_6 (by decide) (fun q => absurd q (by decide)) (fun _ => ?_)
  refine lv_iload_n hx hb dX8_pushedAll_9 rfl (lv_at hl 1 rfl) ?_
  refine lv_aload_n hx hb dX8_pushedAll_10 rfl (lv_at hl 2 rfl) ?_
  refine lv_iload_n hx hb dX8_pushedAll_11 rfl (lv_at hl 0 rfl) ?_
  refine goI hw (runVW (k := 36) (As := [.int 3]) (rest := [.int 0]) cx hw (c_X8_pushedAt l D a cI cZ f u 3 h36_3) lk_X8_179 rfl rfl ⟨Nat.le_of_ble_eq_true rfl, Nat.le_of_ble_eq_true rfl⟩ ⟨rfl, rfl⟩ ⟨Nat.zero_le _, Nat.zero_le _⟩ rfl rfl hl.1 (Nat.le_of_ble_eq_true rfl) dX8_pushedAll_12) (fun r_6 f2 u2 H locs hp hw => ?_)
  obtain ⟨rfl, rfl, e_6⟩ := hp
  refine topc e_6 ?_
  refine lv_iadd hx hb dX8_pushedAll_15 ?_
  refine topc (y := 0) (by decide) ?_
  refine lv_istore_n (lv' := [(1, .int 0), (2, .int 3), (0, .ref (a 36))]) hx hb dX8_pushedAll_16 rfl hl (by decide) rfl (fun ls hl => ?_)
  refine lv_iinc (v := 4) (lv' := [(2, .int 4), (1, .int 0), (0, .ref (a 36))]) hx hb dX8_pushedAll_17 hl (k := 1) rfl (by decide) (by decide) rfl (fun ls hl => ?_)
  refine lv_goto (tgt := 4) hx hb dX8_pushedAll_20 (by decide) ?_
  refine lv_iload_n hx hb dX8_pushedAll_4 rfl (lv_at hl 0 rfl) ?_
  refine lv_iconst (v := 5) hx hb dX8_pushedAll_5 (by decide) ?_
  refine lv_icmp_ge (tgt := 23) hx hb dX8_pushedAll_6 (by decide) (fun q => absurd q (by decide)) (fun _ => ?_)
  refine lv_iload_n hx hb dX8_pushedAll_9 rfl (lv_at hl 1 rfl) ?_
  refine lv_aload_n hx hb dX8_pushedAll_10 rfl (lv_at hl 2 rfl) ?_
  refine lv_iload_n hx hb dX8_pushedAll_11 rfl (lv_at hl 0 rfl) ?_
  refine goI hw (runVW (k := 36) (As := [.int 4]) (rest := [.int 0]) cx hw (c_X8_pushedAt l D a cI cZ f u 4 h36_3) lk_X8_179 rfl rfl ⟨Nat.le_of_ble_eq_true rfl, Nat.le_of_ble_eq_true rfl⟩ ⟨rfl, rfl⟩ ⟨Nat.zero_le _, Nat.zero_le _⟩ rfl rfl hl.1 (Nat.le_of_ble_eq_true rfl) dX8_pushedAll_12) (fun r_8 f2 u2 H locs hp hw => ?_)
  obtain ⟨rfl, rfl, e_8⟩ := hp
  refine topc e_8 ?_
  refine lv_iadd hx hb dX8_pushedAll_15 ?_
  refine topc (y := 0) (by decide) ?_
  refine lv_istore_n (lv' := [(1, .int 0), (2, .int 4), (0, .ref (a 36))]) hx hb dX8_pushedAll_16 rfl hl (by decide) rfl (fun ls hl => ?_)
  refine lv_iinc (v := 5) (lv' := [(2, .int 5), (1, .int 0), (0, .ref (a 36))]) hx hb dX8_pushedAll_17 hl (k := 1) rfl (by decide) (by decide) rfl (fun ls hl => ?_)
  refine lv_goto (tgt := 4) hx hb dX8_pushedAll_20 (by decide) ?_
  refine lv_iload_n hx hb dX8_pushedAll_4 rfl (lv_at hl 0 rfl) ?_
  refine lv_iconst (v := 5) hx hb dX8_pushedAll_5 (by decide) ?_
  refine lv_icmp_ge (tgt := 23) hx hb dX8_pushedAll_6 (by decide) (fun _ => ?_) (fun q => absurd (by decide) q)
  refine lv_iload_n hx hb dX8_pushedAll_23 rfl (lv_at hl 1 rfl) ?_
  exact retI cx hw hr hk dX8_pushedAll_24 ⟨rfl, rfl, rfl⟩

set_option maxHeartbeats 4000000 in
set_option maxRecDepth 100000 in
theorem c_X8_far (l : Launch) (D : va_G) (a : Nat → Nat) (cI cZ : ClassId) (f : FF) (u : UU) (am : Int32) (we : Int32) (mm : Int64)   : KV l yX8_far cX8_far 5 none ({ frames := 1, cells := 0, slots := 0, locals := 12 } : Room) D a cI cZ [.ref (a 36), .int am, .int we, .long mm] f u (fun f2 u2 => up f 36 (upd (f 36) 30 we) = f2) := by
  refine KX.of (by decide) (Nat.le_of_ble_eq_true rfl) ?_
  intro p e s m below meth c cx hw hr hk ls hl
  have cx : Cx p s m _ c cX8_far RX8 5 D cI cZ := cx
  have hl : lv_has ls 5 [(0, .ref (a 36)), (1, .int am), (2, .int we), (3, .long mm)] := hl
  have hx := cx.1.1
  have hb := cx.1.2.1
  refine lv_aload_n hx hb dX8_far_0 rfl (lv_at hl 0 rfl) ?_
  refine lv_iload_n hx hb dX8_far_1 rfl (lv_at hl 2 rfl) ?_
  refine pf_X8_185 cx hw dX8_far_2 (fun H locs hw => ?_)
  refine lv_aload_n hx hb dX8_far_5 rfl (lv_at hl 0 rfl) ?_
  refine lv_lload_n hx hb dX8_far_6 rfl (lv_at hl 3 rfl) ?_
  refine lv_iload_n hx hb dX8_far_7 rfl (lv_at hl 1 rfl) ?_
  refine lv_i2l (v := am.toInt64) hx hb dX8_far_8 rfl ?_
  refine lv_iload_n hx hb dX8_far_9 rfl (lv_at hl 2 rfl) ?_
  refine lv_i2l (v := we.toInt64) hx hb dX8_far_10 rfl ?_
  refine lv_lmul hx hb dX8_far_11 ?_
  refine lv_lsub hx hb dX8_far_12 ?_
  refine pf_X8_188 cx hw dX8_far_13 (fun H locs hw => ?_)
  refine lv_aload_n hx hb dX8_far_16 rfl (lv_at hl 0 rfl) ?_
  refine lv_aload_n hx hb dX8_far_17 rfl (lv_at hl 0 rfl) ?_
  refine gf_X8_188 cx hw dX8_far_18 ?_
  refine lv_lconst (v := 0) hx hb dX8_far_21 (by decide) ?_
  refine W.lcmp hx hb dX8_far_22 ?_
  refine lv_if_ge (tgt := 34) hx hb dX8_far_23 (by decide) (fun c_1 => ?_) (fun c_1 => ?_)
  · refine lv_aload_n hx hb dX8_far_34 rfl (lv_at hl 0 rfl) ?_
    refine gf_X8_188 cx hw dX8_far_35 ?_
    refine pf_X8_188 cx hw dX8_far_38 (fun H locs hw => ?_)
    exact retV cx hw hr hk dX8_far_41 rfl
  · refine lv_aload_n hx hb dX8_far_26 rfl (lv_at hl 0 rfl) ?_
    refine gf_X8_188 cx hw dX8_far_27 ?_
    refine lv_lneg hx hb dX8_far_30 ?_
    refine lv_goto (tgt := 38) hx hb dX8_far_31 (by decide) ?_
    refine pf_X8_188 cx hw dX8_far_38 (fun H locs hw => ?_)
    exact retV cx hw hr hk dX8_far_41 rfl

set_option maxHeartbeats 4000000 in
set_option maxRecDepth 100000 in
theorem c_X8_betters (l : Launch) (D : va_G) (a : Nat → Nat) (cI cZ : ClassId) (f : FF) (u : UU) (am : Int32) (h36_1 : f 36 1 = 1000) (h36_2 : f 36 2 = 0) (h36_3 : f 36 3 = 0) (h36_16 : f 36 16 = 0) (h36_11 : f 36 11 = 0)  : KI l yX8_betters cX8_betters 4 (some .boolean) ({ frames := 2, cells := 0, slots := 0, locals := 36 } : Room) D a cI cZ [.ref (a 36), .int am] f u (fun r f2 _ => r = 0) := by
  refine KX.of (by decide) (Nat.le_of_ble_eq_true rfl) ?_
  intro p e s m below meth c cx hw hr hk ls hl
  have cx : Cx p s m _ c cX8_betters RX8 4 D cI cZ := cx
  have hl : lv_has ls 4 [(0, .ref (a 36)), (1, .int am)] := hl
  have hx := cx.1.1
  have hb := cx.1.2.1
  refine lv_aload_n hx hb dX8_betters_0 rfl (lv_at hl 0 rfl) ?_
  refine lv_iload_n hx hb dX8_betters_1 rfl (lv_at hl 1 rfl) ?_
  refine lv_aload_n hx hb dX8_betters_2 rfl (lv_at hl 0 rfl) ?_
  refine goI hw (runVW (k := 36) (As := []) (rest := [.int am, .ref (a 36)]) cx hw (c_X8_dryWeight l D a cI cZ f u  h36_1 h36_3 h36_16) lk_X8_153 rfl rfl ⟨Nat.le_of_ble_eq_true rfl, Nat.le_of_ble_eq_true rfl⟩ ⟨rfl, rfl⟩ ⟨Nat.zero_le _, Nat.zero_le _⟩ rfl rfl hl.1 (Nat.le_of_ble_eq_true rfl) dX8_betters_3) (fun r_1 f2 u2 H locs hp hw => ?_)
  obtain ⟨rfl, rfl, e_1⟩ := hp
  refine topc e_1 ?_
  refine lv_aload_n hx hb dX8_betters_6 rfl (lv_at hl 0 rfl) ?_
  refine goL hw (runVW (k := 36) (As := []) (rest := [.int 1000, .int am, .ref (a 36)]) cx hw (c_X8_dryMoment l D a cI cZ f u  h36_1 h36_2 h36_3 h36_16) lk_X8_160 rfl rfl ⟨Nat.le_of_ble_eq_true rfl, Nat.le_of_ble_eq_true rfl⟩ ⟨rfl, rfl⟩ ⟨Nat.zero_le _, Nat.zero_le _⟩ rfl rfl hl.1 (Nat.le_of_ble_eq_true rfl) dX8_betters_7) (fun r_2 f2 u2 H locs hp hw => ?_)
  obtain ⟨rfl, rfl, e_2⟩ := hp
  refine topL e_2 ?_
  refine goV hw (runVW (k := 36) (As := [.int am, .int 1000, .long 0]) (rest := []) cx hw (c_X8_far l D a cI cZ f u am 1000 0 ) lk_X8_192 rfl rfl ⟨Nat.le_of_ble_eq_true rfl, Nat.le_of_ble_eq_true rfl⟩ ⟨rfl, rfl⟩ ⟨Nat.zero_le _, Nat.zero_le _⟩ rfl rfl hl.1 (Nat.le_of_ble_eq_true rfl) dX8_betters_10) (fun f2 u2 H locs hp hw => ?_)
  subst hp
  refine lv_aload_n hx hb dX8_betters_13 rfl (lv_at hl 0 rfl) ?_
  refine lv_aload_n hx hb dX8_betters_14 rfl (lv_at hl 0 rfl) ?_
  refine gf_X8_188 cx hw dX8_betters_15 ?_
  refine pf_X8_199 cx hw dX8_betters_18 (fun H locs hw => ?_)
  refine lv_aload_n hx hb dX8_betters_21 rfl (lv_at hl 0 rfl) ?_
  refine lv_aload_n hx hb dX8_betters_22 rfl (lv_at hl 0 rfl) ?_
  refine gf_X8_185 cx hw dX8_betters_23 ?_
  refine topc (y := 1000) rfl ?_
  refine pf_X8_202 cx hw dX8_betters_26 (fun H locs hw => ?_)
  refine lv_iconst (v := 0) hx hb dX8_betters_29 (by decide) ?_
  refine lv_istore_n (lv' := [(2, .int 0), (0, .ref (a 36)), (1, .int am)]) hx hb dX8_betters_30 rfl hl (by decide) rfl (fun ls hl => ?_)
  refine lv_iload_n hx hb dX8_betters_31 rfl (lv_at hl 0 rfl) ?_
  refine lv_aload_n hx hb dX8_betters_32 rfl (lv_at hl 1 rfl) ?_
  refine gf_X8_106 cx hw dX8_betters_33 ?_
  refine topc (y := 0) h36_11 ?_
  refine lv_icmp_ge (tgt := 95) hx hb dX8_betters_36 (by decide) (fun _ => ?_) (fun q => absurd (by decide) q)
  refine lv_iconst (v := 0) hx hb dX8_betters_95 (by decide) ?_
  refine lv_istore_n (lv' := [(2, .int 0), (0, .ref (a 36)), (1, .int am)]) hx hb dX8_betters_96 rfl hl (by decide) rfl (fun ls hl => ?_)
  refine lv_iload_n hx hb dX8_betters_97 rfl (lv_at hl 0 rfl) ?_
  refine lv_aload_n hx hb dX8_betters_98 rfl (lv_at hl 1 rfl) ?_
  refine gf_X8_106 cx hw dX8_betters_99 ?_
  refine topc (y := 0) h36_11 ?_
  refine lv_icmp_ge (tgt := 162) hx hb dX8_betters_102 (by decide) (fun _ => ?_) (fun q => absurd (by decide) q)
  refine lv_iconst (v := 0) hx hb dX8_betters_162 (by decide) ?_
  exact retZ cx hw hr hk rfl dX8_betters_163 rfl

set_option maxHeartbeats 4000000 in
set_option maxRecDepth 100000 in
theorem c_X8_empty (l : Launch) (D : va_G) (a : Nat → Nat) (cI cZ : ClassId) (f : FF) (u : UU) (w : Int32) (am : Int32)   : KI l yX8_empty cX8_empty 3 (some .int) ({ frames := 3, cells := 0, slots := 0, locals := 54 } : Room) D a cI cZ [.ref (a 36), .int w, .int am] f u (fun r f2 u2 => r = an_empty w am) := by
  refine KX.of (by decide) (Nat.le_of_ble_eq_true rfl) ?_
  intro p e s m below meth c cx hw hr hk ls hl
  have cx : Cx p s m _ c cX8_empty RX8 3 D cI cZ := cx
  have hl : lv_has ls 3 [(0, .ref (a 36)), (1, .int w), (2, .int am)] := hl
  have hx := cx.1.1
  have hb := cx.1.2.1
  refine lv_iload_n hx hb dX8_empty_0 rfl (lv_at hl 1 rfl) ?_
  refine lv_sipush (v := 1000) hx hb dX8_empty_1 (by decide) ?_
  refine lv_ldc (v := 100000) hx hb cx.1.2.2.2.1 (cx.1.2.2.2.2 _ mm_4_146) dX8_empty_4 ?_
  refine goI hw (runSW (As := [.int w, .int 1000, .int 100000]) (rest := []) cx hw (c_X8_isIn l D a cI cZ f u w 1000 100000 ) lk_X8_95 ⟨Nat.le_of_ble_eq_true rfl, Nat.le_of_ble_eq_true rfl⟩ ⟨rfl, rfl⟩ ⟨Nat.zero_le _, Nat.zero_le _⟩ rfl rfl hl.1 (Nat.le_of_ble_eq_true rfl) dX8_empty_6) (fun r_1 f2 u2 H locs hp hw => ?_)
  obtain ⟨rfl, rfl, e_1⟩ := hp
  refine topc e_1 ?_
  refine lv_if_eq (tgt := 19) hx hb dX8_empty_9 (by decide) (fun c_2 => ?_) (fun c_2 => ?_)
  · refine lv_bipush (v := (-2)) hx hb dX8_empty_19 (by decide) ?_
    exact retI cx hw hr hk dX8_empty_21 (by simp [an_empty, c_2])
  · refine lv_iload_n hx hb dX8_empty_12 rfl (lv_at hl 2 rfl) ?_
    refine goI hw (runSW (As := [.int am]) (rest := []) cx hw (c_X8_isArm l D a cI cZ f u am ) lk_X8_110 ⟨Nat.le_of_ble_eq_true rfl, Nat.le_of_ble_eq_true rfl⟩ ⟨rfl, rfl⟩ ⟨Nat.zero_le _, Nat.zero_le _⟩ rfl rfl hl.1 (Nat.le_of_ble_eq_true rfl) dX8_empty_13) (fun r_3 f2 u2 H locs hp hw => ?_)
    obtain ⟨rfl, rfl, e_3⟩ := hp
    refine topc e_3 ?_
    refine lv_if_ne (tgt := 22) hx hb dX8_empty_16 (by decide) (fun c_4 => ?_) (fun c_4 => ?_)
    · refine lv_aload_n hx hb dX8_empty_22 rfl (lv_at hl 0 rfl) ?_
      refine lv_iload_n hx hb dX8_empty_23 rfl (lv_at hl 1 rfl) ?_
      refine pf_X8_15 cx hw dX8_empty_24 (fun H locs hw => ?_)
      refine lv_aload_n hx hb dX8_empty_27 rfl (lv_at hl 0 rfl) ?_
      refine lv_iload_n hx hb dX8_empty_28 rfl (lv_at hl 2 rfl) ?_
      refine pf_X8_113 cx hw dX8_empty_29 (fun H locs hw => ?_)
      refine lv_iconst (v := 0) hx hb dX8_empty_32 (by decide) ?_
      exact retI cx hw hr hk dX8_empty_33 (by simp [an_empty, c_2, c_4])
    · refine lv_bipush (v := (-2)) hx hb dX8_empty_19 (by decide) ?_
      exact retI cx hw hr hk dX8_empty_21 (by simp [an_empty, c_2, c_4])

set_option maxHeartbeats 4000000 in
set_option maxRecDepth 100000 in
theorem c_X8_hold (l : Launch) (D : va_G) (a : Nat → Nat) (cI cZ : ClassId) (f : FF) (u : UU) (mo : Int32) (fl : Int32) (h36_3 : f 36 3 = 0)  : KI l yX8_hold cX8_hold 3 (some .int) ({ frames := 2, cells := 0, slots := 0, locals := 34 } : Room) D a cI cZ [.ref (a 36), .int mo, .int fl] f u (fun r f2 u2 => r = an_hold mo fl) := by
  refine KX.of (by decide) (Nat.le_of_ble_eq_true rfl) ?_
  intro p e s m below meth c cx hw hr hk ls hl
  have cx : Cx p s m _ c cX8_hold RX8 3 D cI cZ := cx
  have hl : lv_has ls 3 [(0, .ref (a 36)), (1, .int mo), (2, .int fl)] := hl
  have hx := cx.1.1
  have hb := cx.1.2.1
  refine lv_iload_n hx hb dX8_hold_0 rfl (lv_at hl 1 rfl) ?_
  refine lv_iconst (v := 0) hx hb dX8_hold_1 (by decide) ?_
  refine lv_sipush (v := 20000) hx hb dX8_hold_2 (by decide) ?_
  refine goI hw (runSW (As := [.int mo, .int 0, .int 20000]) (rest := []) cx hw (c_X8_isIn l D a cI cZ f u mo 0 20000 ) lk_X8_95 ⟨Nat.le_of_ble_eq_true rfl, Nat.le_of_ble_eq_true rfl⟩ ⟨rfl, rfl⟩ ⟨Nat.zero_le _, Nat.zero_le _⟩ rfl rfl hl.1 (Nat.le_of_ble_eq_true rfl) dX8_hold_5) (fun r_1 f2 u2 H locs hp hw => ?_)
  obtain ⟨rfl, rfl, e_1⟩ := hp
  refine topc e_1 ?_
  refine lv_if_eq (tgt := 22) hx hb dX8_hold_8 (by decide) (fun c_2 => ?_) (fun c_2 => ?_)
  · refine lv_bipush (v := (-2)) hx hb dX8_hold_22 (by decide) ?_
    exact retI cx hw hr hk dX8_hold_24 (by simp [an_hold, c_2])
  · refine lv_iload_n hx hb dX8_hold_11 rfl (lv_at hl 2 rfl) ?_
    refine lv_iconst (v := 0) hx hb dX8_hold_12 (by decide) ?_
    refine lv_sipush (v := 20000) hx hb dX8_hold_13 (by decide) ?_
    refine goI hw (runSW (As := [.int fl, .int 0, .int 20000]) (rest := []) cx hw (c_X8_isIn l D a cI cZ f u fl 0 20000 ) lk_X8_95 ⟨Nat.le_of_ble_eq_true rfl, Nat.le_of_ble_eq_true rfl⟩ ⟨rfl, rfl⟩ ⟨Nat.zero_le _, Nat.zero_le _⟩ rfl rfl hl.1 (Nat.le_of_ble_eq_true rfl) dX8_hold_16) (fun r_3 f2 u2 H locs hp hw => ?_)
    obtain ⟨rfl, rfl, e_3⟩ := hp
    refine topc e_3 ?_
    refine lv_if_ne (tgt := 25) hx hb dX8_hold_19 (by decide) (fun c_4 => ?_) (fun c_4 => ?_)
    · refine lv_aload_n hx hb dX8_hold_25 rfl (lv_at hl 0 rfl) ?_
      refine gf_X8_99 cx hw dX8_hold_26 ?_
      refine topc (y := 0) h36_3 ?_
      refine lv_iconst (v := 4) hx hb dX8_hold_29 (by decide) ?_
      refine lv_icmp_ne (tgt := 36) hx hb dX8_hold_30 (by decide) (fun _ => ?_) (fun q => absurd q (by decide))
      refine lv_aload_n hx hb dX8_hold_36 rfl (lv_at hl 0 rfl) ?_
      refine gf_X8_18 cx hw dX8_hold_37 ?_
      refine lv_aload_n hx hb dX8_hold_40 rfl (lv_at hl 0 rfl) ?_
      refine gf_X8_99 cx hw dX8_hold_41 ?_
      refine topc (y := 0) h36_3 ?_
      refine lv_iload_n hx hb dX8_hold_44 rfl (lv_at hl 1 rfl) ?_
      refine astC 37 0 cx hw rfl ws_37 (by decide) (by decide) dX8_hold_45 (fun H locs hw => ?_)
      refine lv_aload_n hx hb dX8_hold_46 rfl (lv_at hl 0 rfl) ?_
      refine gf_X8_22 cx hw dX8_hold_47 ?_
      refine lv_aload_n hx hb dX8_hold_50 rfl (lv_at hl 0 rfl) ?_
      refine gf_X8_99 cx hw dX8_hold_51 ?_
      refine topc (y := 0) h36_3 ?_
      refine lv_iload_n hx hb dX8_hold_54 rfl (lv_at hl 2 rfl) ?_
      refine astC 38 0 cx hw rfl ws_38 (by decide) (by decide) dX8_hold_55 (fun H locs hw => ?_)
      refine lv_aload_n hx hb dX8_hold_56 rfl (lv_at hl 0 rfl) ?_
      refine lv_dup hx hb dX8_hold_57 rfl ?_
      refine gf_X8_99 cx hw dX8_hold_58 ?_
      refine topc (y := 0) h36_3 ?_
      refine lv_iconst (v := 1) hx hb dX8_hold_61 (by decide) ?_
      refine lv_iadd hx hb dX8_hold_62 ?_
      refine topc (y := 1) (by decide) ?_
      refine pf_X8_99 cx hw dX8_hold_63 (fun H locs hw => ?_)
      refine lv_aload_n hx hb dX8_hold_66 rfl (lv_at hl 0 rfl) ?_
      refine gf_X8_99 cx hw dX8_hold_67 ?_
      refine topc (y := 1) rfl ?_
      refine lv_iconst (v := 1) hx hb dX8_hold_70 (by decide) ?_
      refine lv_isub hx hb dX8_hold_71 ?_
      refine topc (y := 0) (by decide) ?_
      exact retI cx hw hr hk dX8_hold_72 (by simp [an_hold, c_2, c_4])
    · refine lv_bipush (v := (-2)) hx hb dX8_hold_22 (by decide) ?_
      exact retI cx hw hr hk dX8_hold_24 (by simp [an_hold, c_2, c_4])

set_option maxHeartbeats 4000000 in
set_option maxRecDepth 100000 in
theorem c_X8_slot (l : Launch) (D : va_G) (a : Nat → Nat) (cI cZ : ClassId) (f : FF) (u : UU) (h : Int32) (am : Int32) (mo : Int32) (h36_3 : f 36 3 = 0)  : KI l yX8_slot cX8_slot 5 (some .int) ({ frames := 3, cells := 0, slots := 0, locals := 55 } : Room) D a cI cZ [.ref (a 36), .int h, .int am, .int mo] f u (fun r f2 u2 => r = (-1)) := by
  refine KX.of (by decide) (Nat.le_of_ble_eq_true rfl) ?_
  intro p e s m below meth c cx hw hr hk ls hl
  have cx : Cx p s m _ c cX8_slot RX8 5 D cI cZ := cx
  have hl : lv_has ls 5 [(0, .ref (a 36)), (1, .int h), (2, .int am), (3, .int mo)] := hl
  have hx := cx.1.1
  have hb := cx.1.2.1
  refine lv_aload_n hx hb dX8_slot_0 rfl (lv_at hl 0 rfl) ?_
  refine lv_iload_n hx hb dX8_slot_1 rfl (lv_at hl 1 rfl) ?_
  refine goI hw (runVW (k := 36) (As := [.int h]) (rest := []) cx hw (c_X8_isHold l D a cI cZ f u h h36_3) lk_X8_102 rfl rfl ⟨Nat.le_of_ble_eq_true rfl, Nat.le_of_ble_eq_true rfl⟩ ⟨rfl, rfl⟩ ⟨Nat.zero_le _, Nat.zero_le _⟩ rfl rfl hl.1 (Nat.le_of_ble_eq_true rfl) dX8_slot_2) (fun r_1 f2 u2 H locs hp hw => ?_)
  obtain ⟨rfl, rfl, e_1⟩ := hp
  refine topc e_1 ?_
  refine lv_if_ne (tgt := 10) hx hb dX8_slot_5 (by decide) (fun q => absurd (by decide) q) (fun _ => ?_)
  refine lv_iconst (v := (-1)) hx hb dX8_slot_8 (by decide) ?_
  exact retI cx hw hr hk dX8_slot_9 (by simp [])

set_option maxHeartbeats 4000000 in
set_option maxRecDepth 100000 in
theorem c_X8_apart (l : Launch) (D : va_G) (a : Nat → Nat) (cI cZ : ClassId) (f : FF) (u : UU) (x : Int32) (y : Int32) (d : Int32)  (hz : ∀ i, f 43 i = 0) : KI l yX8_apart cX8_apart 5 (some .int) ({ frames := 2, cells := 0, slots := 0, locals := 34 } : Room) D a cI cZ [.ref (a 36), .int x, .int y, .int d] f u (fun r f2 u2 => r = an_apart x y d) := by
  refine KX.of (by decide) (Nat.le_of_ble_eq_true rfl) ?_
  intro p e s m below meth c cx hw hr hk ls hl
  have cx : Cx p s m _ c cX8_apart RX8 5 D cI cZ := cx
  have hl : lv_has ls 5 [(0, .ref (a 36)), (1, .int x), (2, .int y), (3, .int d)] := hl
  have hx := cx.1.1
  have hb := cx.1.2.1
  refine lv_iload_n hx hb dX8_apart_0 rfl (lv_at hl 1 rfl) ?_
  refine lv_iconst (v := 0) hx hb dX8_apart_1 (by decide) ?_
  refine lv_bipush (v := 7) hx hb dX8_apart_2 (by decide) ?_
  refine goI hw (runSW (As := [.int x, .int 0, .int 7]) (rest := []) cx hw (c_X8_isIn l D a cI cZ f u x 0 7 ) lk_X8_95 ⟨Nat.le_of_ble_eq_true rfl, Nat.le_of_ble_eq_true rfl⟩ ⟨rfl, rfl⟩ ⟨Nat.zero_le _, Nat.zero_le _⟩ rfl rfl hl.1 (Nat.le_of_ble_eq_true rfl) dX8_apart_4) (fun r_1 f2 u2 H locs hp hw => ?_)
  obtain ⟨rfl, rfl, e_1⟩ := hp
  refine topc e_1 ?_
  refine lv_if_eq (tgt := 20) hx hb dX8_apart_7 (by decide) (fun c_2 => ?_) (fun c_2 => ?_)
  · refine lv_iconst (v := (-1)) hx hb dX8_apart_20 (by decide) ?_
    exact retI cx hw hr hk dX8_apart_21 (by simp [an_apart, c_2])
  · refine lv_iload_n hx hb dX8_apart_10 rfl (lv_at hl 2 rfl) ?_
    refine lv_iconst (v := 0) hx hb dX8_apart_11 (by decide) ?_
    refine lv_bipush (v := 7) hx hb dX8_apart_12 (by decide) ?_
    refine goI hw (runSW (As := [.int y, .int 0, .int 7]) (rest := []) cx hw (c_X8_isIn l D a cI cZ f u y 0 7 ) lk_X8_95 ⟨Nat.le_of_ble_eq_true rfl, Nat.le_of_ble_eq_true rfl⟩ ⟨rfl, rfl⟩ ⟨Nat.zero_le _, Nat.zero_le _⟩ rfl rfl hl.1 (Nat.le_of_ble_eq_true rfl) dX8_apart_14) (fun r_3 f2 u2 H locs hp hw => ?_)
    obtain ⟨rfl, rfl, e_3⟩ := hp
    refine topc e_3 ?_
    refine lv_if_ne (tgt := 22) hx hb dX8_apart_17 (by decide) (fun c_4 => ?_) (fun c_4 => ?_)
    · refine lv_iload_n hx hb dX8_apart_22 rfl (lv_at hl 3 rfl) ?_
      refine lv_iconst (v := 0) hx hb dX8_apart_23 (by decide) ?_
      refine lv_bipush (v := 8) hx hb dX8_apart_24 (by decide) ?_
      refine goI hw (runSW (As := [.int d, .int 0, .int 8]) (rest := []) cx hw (c_X8_isIn l D a cI cZ f u d 0 8 ) lk_X8_95 ⟨Nat.le_of_ble_eq_true rfl, Nat.le_of_ble_eq_true rfl⟩ ⟨rfl, rfl⟩ ⟨Nat.zero_le _, Nat.zero_le _⟩ rfl rfl hl.1 (Nat.le_of_ble_eq_true rfl) dX8_apart_26) (fun r_5 f2 u2 H locs hp hw => ?_)
      obtain ⟨rfl, rfl, e_5⟩ := hp
      refine topc e_5 ?_
      refine lv_if_ne (tgt := 35) hx hb dX8_apart_29 (by decide) (fun c_6 => ?_) (fun c_6 => ?_)
      · refine lv_aload_n hx hb dX8_apart_35 rfl (lv_at hl 0 rfl) ?_
        refine gf_X8_37 cx hw dX8_apart_36 ?_
        refine lv_bipush (v := 8) hx hb dX8_apart_39 (by decide) ?_
        refine lv_iload_n hx hb dX8_apart_41 rfl (lv_at hl 1 rfl) ?_
        refine lv_imul hx hb dX8_apart_42 ?_
        refine lv_iload_n hx hb dX8_apart_43 rfl (lv_at hl 2 rfl) ?_
        refine lv_iadd hx hb dX8_apart_44 ?_
        refine aldW 43 cx hw rfl (ix8b c_2 c_4) dX8_apart_45 ?_
        refine topc (y := 0) (hz _) ?_
        refine lv_istore (lv' := [(4, .int 0), (0, .ref (a 36)), (1, .int x), (2, .int y), (3, .int d)]) hx hb dX8_apart_46 hl (by decide) rfl (fun ls hl => ?_)
        refine lv_aload_n hx hb dX8_apart_48 rfl (lv_at hl 1 rfl) ?_
        refine gf_X8_37 cx hw dX8_apart_49 ?_
        refine lv_bipush (v := 8) hx hb dX8_apart_52 (by decide) ?_
        refine lv_iload_n hx hb dX8_apart_54 rfl (lv_at hl 2 rfl) ?_
        refine lv_imul hx hb dX8_apart_55 ?_
        refine lv_iload_n hx hb dX8_apart_56 rfl (lv_at hl 3 rfl) ?_
        refine lv_iadd hx hb dX8_apart_57 ?_
        refine lv_iload_n hx hb dX8_apart_58 rfl (lv_at hl 4 rfl) ?_
        refine astW 43 cx hw rfl ws_43 (ix8b c_2 c_4) dX8_apart_59 (fun H locs hw => ?_)
        refine lv_aload_n hx hb dX8_apart_60 rfl (lv_at hl 1 rfl) ?_
        refine gf_X8_37 cx hw dX8_apart_61 ?_
        refine lv_bipush (v := 8) hx hb dX8_apart_64 (by decide) ?_
        refine lv_iload_n hx hb dX8_apart_66 rfl (lv_at hl 3 rfl) ?_
        refine lv_imul hx hb dX8_apart_67 ?_
        refine lv_iload_n hx hb dX8_apart_68 rfl (lv_at hl 2 rfl) ?_
        refine lv_iadd hx hb dX8_apart_69 ?_
        refine lv_iload_n hx hb dX8_apart_70 rfl (lv_at hl 4 rfl) ?_
        refine astW 43 cx hw rfl ws_43 (ix8b c_4 c_2) dX8_apart_71 (fun H locs hw => ?_)
        refine lv_iload hx hb dX8_apart_72 (lv_at hl 0 rfl) ?_
        exact retI cx hw hr hk dX8_apart_74 (by simp [an_apart, c_2, c_4, c_6])
      · refine lv_bipush (v := (-2)) hx hb dX8_apart_32 (by decide) ?_
        exact retI cx hw hr hk dX8_apart_34 (by simp [an_apart, c_2, c_4, c_6])
    · refine lv_iconst (v := (-1)) hx hb dX8_apart_20 (by decide) ?_
      exact retI cx hw hr hk dX8_apart_21 (by simp [an_apart, c_2, c_4])

set_option maxHeartbeats 4000000 in
set_option maxRecDepth 100000 in
theorem c_X8_item (l : Launch) (D : va_G) (a : Nat → Nat) (cI cZ : ClassId) (f : FF) (u : UU) (w : Int32) (ki : Int32) (sp : Int32) (h36_11 : f 36 11 = 0)  : KI l yX8_item cX8_item 4 (some .int) ({ frames := 2, cells := 0, slots := 0, locals := 34 } : Room) D a cI cZ [.ref (a 36), .int w, .int ki, .int sp] f u (fun r f2 u2 => r = an_item w ki sp) := by
  refine KX.of (by decide) (Nat.le_of_ble_eq_true rfl) ?_
  intro p e s m below meth c cx hw hr hk ls hl
  have cx : Cx p s m _ c cX8_item RX8 4 D cI cZ := cx
  have hl : lv_has ls 4 [(0, .ref (a 36)), (1, .int w), (2, .int ki), (3, .int sp)] := hl
  have hx := cx.1.1
  have hb := cx.1.2.1
  refine lv_iload_n hx hb dX8_item_0 rfl (lv_at hl 1 rfl) ?_
  refine lv_iconst (v := 1) hx hb dX8_item_1 (by decide) ?_
  refine lv_sipush (v := 5000) hx hb dX8_item_2 (by decide) ?_
  refine goI hw (runSW (As := [.int w, .int 1, .int 5000]) (rest := []) cx hw (c_X8_isIn l D a cI cZ f u w 1 5000 ) lk_X8_95 ⟨Nat.le_of_ble_eq_true rfl, Nat.le_of_ble_eq_true rfl⟩ ⟨rfl, rfl⟩ ⟨Nat.zero_le _, Nat.zero_le _⟩ rfl rfl hl.1 (Nat.le_of_ble_eq_true rfl) dX8_item_5) (fun r_1 f2 u2 H locs hp hw => ?_)
  obtain ⟨rfl, rfl, e_1⟩ := hp
  refine topc e_1 ?_
  refine lv_if_ne (tgt := 14) hx hb dX8_item_8 (by decide) (fun c_2 => ?_) (fun c_2 => ?_)
  · refine lv_iload_n hx hb dX8_item_14 rfl (lv_at hl 2 rfl) ?_
    refine lv_iconst (v := 0) hx hb dX8_item_15 (by decide) ?_
    refine lv_bipush (v := 7) hx hb dX8_item_16 (by decide) ?_
    refine goI hw (runSW (As := [.int ki, .int 0, .int 7]) (rest := []) cx hw (c_X8_isIn l D a cI cZ f u ki 0 7 ) lk_X8_95 ⟨Nat.le_of_ble_eq_true rfl, Nat.le_of_ble_eq_true rfl⟩ ⟨rfl, rfl⟩ ⟨Nat.zero_le _, Nat.zero_le _⟩ rfl rfl hl.1 (Nat.le_of_ble_eq_true rfl) dX8_item_18) (fun r_3 f2 u2 H locs hp hw => ?_)
    obtain ⟨rfl, rfl, e_3⟩ := hp
    refine topc e_3 ?_
    refine lv_if_eq (tgt := 33) hx hb dX8_item_21 (by decide) (fun c_4 => ?_) (fun c_4 => ?_)
    · refine lv_iconst (v := (-1)) hx hb dX8_item_33 (by decide) ?_
      exact retI cx hw hr hk dX8_item_34 (by simp [an_item, c_2, c_4])
    · refine lv_iload_n hx hb dX8_item_24 rfl (lv_at hl 3 rfl) ?_
      refine lv_iconst (v := 1) hx hb dX8_item_25 (by decide) ?_
      refine lv_iconst (v := 4) hx hb dX8_item_26 (by decide) ?_
      refine goI hw (runSW (As := [.int sp, .int 1, .int 4]) (rest := []) cx hw (c_X8_isIn l D a cI cZ f u sp 1 4 ) lk_X8_95 ⟨Nat.le_of_ble_eq_true rfl, Nat.le_of_ble_eq_true rfl⟩ ⟨rfl, rfl⟩ ⟨Nat.zero_le _, Nat.zero_le _⟩ rfl rfl hl.1 (Nat.le_of_ble_eq_true rfl) dX8_item_27) (fun r_5 f2 u2 H locs hp hw => ?_)
      obtain ⟨rfl, rfl, e_5⟩ := hp
      refine topc e_5 ?_
      refine lv_if_ne (tgt := 35) hx hb dX8_item_30 (by decide) (fun c_6 => ?_) (fun c_6 => ?_)
      · refine lv_aload_n hx hb dX8_item_35 rfl (lv_at hl 0 rfl) ?_
        refine gf_X8_106 cx hw dX8_item_36 ?_
        refine topc (y := 0) h36_11 ?_
        refine lv_bipush (v := 40) hx hb dX8_item_39 (by decide) ?_
        refine lv_icmp_ne (tgt := 47) hx hb dX8_item_41 (by decide) (fun _ => ?_) (fun q => absurd q (by decide))
        refine lv_aload_n hx hb dX8_item_47 rfl (lv_at hl 0 rfl) ?_
        refine gf_X8_40 cx hw dX8_item_48 ?_
        refine lv_aload_n hx hb dX8_item_51 rfl (lv_at hl 0 rfl) ?_
        refine gf_X8_106 cx hw dX8_item_52 ?_
        refine topc (y := 0) h36_11 ?_
        refine lv_iload_n hx hb dX8_item_55 rfl (lv_at hl 1 rfl) ?_
        refine astC 44 0 cx hw rfl ws_44 (by decide) (by decide) dX8_item_56 (fun H locs hw => ?_)
        refine lv_aload_n hx hb dX8_item_57 rfl (lv_at hl 0 rfl) ?_
        refine gf_X8_43 cx hw dX8_item_58 ?_
        refine lv_aload_n hx hb dX8_item_61 rfl (lv_at hl 0 rfl) ?_
        refine gf_X8_106 cx hw dX8_item_62 ?_
        refine topc (y := 0) h36_11 ?_
        refine lv_iload_n hx hb dX8_item_65 rfl (lv_at hl 2 rfl) ?_
        refine astC 45 0 cx hw rfl ws_45 (by decide) (by decide) dX8_item_66 (fun H locs hw => ?_)
        refine lv_aload_n hx hb dX8_item_67 rfl (lv_at hl 0 rfl) ?_
        refine gf_X8_46 cx hw dX8_item_68 ?_
        refine lv_aload_n hx hb dX8_item_71 rfl (lv_at hl 0 rfl) ?_
        refine gf_X8_106 cx hw dX8_item_72 ?_
        refine topc (y := 0) h36_11 ?_
        refine lv_iload_n hx hb dX8_item_75 rfl (lv_at hl 3 rfl) ?_
        refine astC 46 0 cx hw rfl ws_46 (by decide) (by decide) dX8_item_76 (fun H locs hw => ?_)
        refine lv_aload_n hx hb dX8_item_77 rfl (lv_at hl 0 rfl) ?_
        refine gf_X8_49 cx hw dX8_item_78 ?_
        refine lv_aload_n hx hb dX8_item_81 rfl (lv_at hl 0 rfl) ?_
        refine gf_X8_106 cx hw dX8_item_82 ?_
        refine topc (y := 0) h36_11 ?_
        refine lv_iconst (v := (-1)) hx hb dX8_item_85 (by decide) ?_
        refine astC 47 0 cx hw rfl ws_47 (by decide) (by decide) dX8_item_86 (fun H locs hw => ?_)
        refine lv_aload_n hx hb dX8_item_87 rfl (lv_at hl 0 rfl) ?_
        refine lv_dup hx hb dX8_item_88 rfl ?_
        refine gf_X8_106 cx hw dX8_item_89 ?_
        refine topc (y := 0) h36_11 ?_
        refine lv_iconst (v := 1) hx hb dX8_item_92 (by decide) ?_
        refine lv_iadd hx hb dX8_item_93 ?_
        refine topc (y := 1) (by decide) ?_
        refine pf_X8_106 cx hw dX8_item_94 (fun H locs hw => ?_)
        refine lv_aload_n hx hb dX8_item_97 rfl (lv_at hl 0 rfl) ?_
        refine gf_X8_106 cx hw dX8_item_98 ?_
        refine topc (y := 1) rfl ?_
        refine lv_iconst (v := 1) hx hb dX8_item_101 (by decide) ?_
        refine lv_isub hx hb dX8_item_102 ?_
        refine topc (y := 0) (by decide) ?_
        exact retI cx hw hr hk dX8_item_103 (by simp [an_item, c_2, c_4, c_6])
      · refine lv_iconst (v := (-1)) hx hb dX8_item_33 (by decide) ?_
        exact retI cx hw hr hk dX8_item_34 (by simp [an_item, c_2, c_4, c_6])
  · refine lv_bipush (v := (-2)) hx hb dX8_item_11 (by decide) ?_
    exact retI cx hw hr hk dX8_item_13 (by simp [an_item, c_2])

set_option maxHeartbeats 4000000 in
set_option maxRecDepth 100000 in
theorem c_X8_row (l : Launch) (D : va_G) (a : Nat → Nat) (cI cZ : ClassId) (f : FF) (u : UU) (am : Int32) (n : Int32) (h36_16 : f 36 16 = 0)  : KI l yX8_row cX8_row 3 (some .int) ({ frames := 3, cells := 0, slots := 0, locals := 54 } : Room) D a cI cZ [.ref (a 36), .int am, .int n] f u (fun r f2 u2 => r = an_row am n) := by
  refine KX.of (by decide) (Nat.le_of_ble_eq_true rfl) ?_
  intro p e s m below meth c cx hw hr hk ls hl
  have cx : Cx p s m _ c cX8_row RX8 3 D cI cZ := cx
  have hl : lv_has ls 3 [(0, .ref (a 36)), (1, .int am), (2, .int n)] := hl
  have hx := cx.1.1
  have hb := cx.1.2.1
  refine lv_iload_n hx hb dX8_row_0 rfl (lv_at hl 1 rfl) ?_
  refine goI hw (runSW (As := [.int am]) (rest := []) cx hw (c_X8_isArm l D a cI cZ f u am ) lk_X8_110 ⟨Nat.le_of_ble_eq_true rfl, Nat.le_of_ble_eq_true rfl⟩ ⟨rfl, rfl⟩ ⟨Nat.zero_le _, Nat.zero_le _⟩ rfl rfl hl.1 (Nat.le_of_ble_eq_true rfl) dX8_row_1) (fun r_1 f2 u2 H locs hp hw => ?_)
  obtain ⟨rfl, rfl, e_1⟩ := hp
  refine topc e_1 ?_
  refine lv_if_eq (tgt := 17) hx hb dX8_row_4 (by decide) (fun c_2 => ?_) (fun c_2 => ?_)
  · refine lv_bipush (v := (-2)) hx hb dX8_row_17 (by decide) ?_
    exact retI cx hw hr hk dX8_row_19 (by simp [an_row, c_2])
  · refine lv_iload_n hx hb dX8_row_7 rfl (lv_at hl 2 rfl) ?_
    refine lv_iconst (v := 1) hx hb dX8_row_8 (by decide) ?_
    refine lv_bipush (v := 8) hx hb dX8_row_9 (by decide) ?_
    refine goI hw (runSW (As := [.int n, .int 1, .int 8]) (rest := []) cx hw (c_X8_isIn l D a cI cZ f u n 1 8 ) lk_X8_95 ⟨Nat.le_of_ble_eq_true rfl, Nat.le_of_ble_eq_true rfl⟩ ⟨rfl, rfl⟩ ⟨Nat.zero_le _, Nat.zero_le _⟩ rfl rfl hl.1 (Nat.le_of_ble_eq_true rfl) dX8_row_11) (fun r_3 f2 u2 H locs hp hw => ?_)
    obtain ⟨rfl, rfl, e_3⟩ := hp
    refine topc e_3 ?_
    refine lv_if_ne (tgt := 20) hx hb dX8_row_14 (by decide) (fun c_4 => ?_) (fun c_4 => ?_)
    · refine lv_aload_n hx hb dX8_row_20 rfl (lv_at hl 0 rfl) ?_
      refine gf_X8_116 cx hw dX8_row_21 ?_
      refine topc (y := 0) h36_16 ?_
      refine lv_bipush (v := 10) hx hb dX8_row_24 (by decide) ?_
      refine lv_icmp_ne (tgt := 32) hx hb dX8_row_26 (by decide) (fun _ => ?_) (fun q => absurd q (by decide))
      refine lv_aload_n hx hb dX8_row_32 rfl (lv_at hl 0 rfl) ?_
      refine gf_X8_52 cx hw dX8_row_33 ?_
      refine lv_aload_n hx hb dX8_row_36 rfl (lv_at hl 0 rfl) ?_
      refine gf_X8_116 cx hw dX8_row_37 ?_
      refine topc (y := 0) h36_16 ?_
      refine lv_iload_n hx hb dX8_row_40 rfl (lv_at hl 1 rfl) ?_
      refine astC 48 0 cx hw rfl ws_48 (by decide) (by decide) dX8_row_41 (fun H locs hw => ?_)
      refine lv_aload_n hx hb dX8_row_42 rfl (lv_at hl 0 rfl) ?_
      refine gf_X8_55 cx hw dX8_row_43 ?_
      refine lv_aload_n hx hb dX8_row_46 rfl (lv_at hl 0 rfl) ?_
      refine gf_X8_116 cx hw dX8_row_47 ?_
      refine topc (y := 0) h36_16 ?_
      refine lv_iload_n hx hb dX8_row_50 rfl (lv_at hl 2 rfl) ?_
      refine astC 49 0 cx hw rfl ws_49 (by decide) (by decide) dX8_row_51 (fun H locs hw => ?_)
      refine lv_aload_n hx hb dX8_row_52 rfl (lv_at hl 0 rfl) ?_
      refine lv_dup hx hb dX8_row_53 rfl ?_
      refine gf_X8_116 cx hw dX8_row_54 ?_
      refine topc (y := 0) h36_16 ?_
      refine lv_iconst (v := 1) hx hb dX8_row_57 (by decide) ?_
      refine lv_iadd hx hb dX8_row_58 ?_
      refine topc (y := 1) (by decide) ?_
      refine pf_X8_116 cx hw dX8_row_59 (fun H locs hw => ?_)
      refine lv_aload_n hx hb dX8_row_62 rfl (lv_at hl 0 rfl) ?_
      refine gf_X8_116 cx hw dX8_row_63 ?_
      refine topc (y := 1) rfl ?_
      refine lv_iconst (v := 1) hx hb dX8_row_66 (by decide) ?_
      refine lv_isub hx hb dX8_row_67 ?_
      refine topc (y := 0) (by decide) ?_
      exact retI cx hw hr hk dX8_row_68 (by simp [an_row, c_2, c_4])
    · refine lv_bipush (v := (-2)) hx hb dX8_row_17 (by decide) ?_
      exact retI cx hw hr hk dX8_row_19 (by simp [an_row, c_2, c_4])

set_option maxHeartbeats 4000000 in
set_option maxRecDepth 100000 in
theorem c_X8_tank (l : Launch) (D : va_G) (a : Nat → Nat) (cI cZ : ClassId) (f : FF) (u : UU) (am : Int32) (mo : Int32) (h36_20 : f 36 20 = 0)  : KI l yX8_tank cX8_tank 3 (some .int) ({ frames := 3, cells := 0, slots := 0, locals := 54 } : Room) D a cI cZ [.ref (a 36), .int am, .int mo] f u (fun r f2 u2 => r = an_tank am mo) := by
  refine KX.of (by decide) (Nat.le_of_ble_eq_true rfl) ?_
  intro p e s m below meth c cx hw hr hk ls hl
  have cx : Cx p s m _ c cX8_tank RX8 3 D cI cZ := cx
  have hl : lv_has ls 3 [(0, .ref (a 36)), (1, .int am), (2, .int mo)] := hl
  have hx := cx.1.1
  have hb := cx.1.2.1
  refine lv_iload_n hx hb dX8_tank_0 rfl (lv_at hl 1 rfl) ?_
  refine goI hw (runSW (As := [.int am]) (rest := []) cx hw (c_X8_isArm l D a cI cZ f u am ) lk_X8_110 ⟨Nat.le_of_ble_eq_true rfl, Nat.le_of_ble_eq_true rfl⟩ ⟨rfl, rfl⟩ ⟨Nat.zero_le _, Nat.zero_le _⟩ rfl rfl hl.1 (Nat.le_of_ble_eq_true rfl) dX8_tank_1) (fun r_1 f2 u2 H locs hp hw => ?_)
  obtain ⟨rfl, rfl, e_1⟩ := hp
  refine topc e_1 ?_
  refine lv_if_eq (tgt := 18) hx hb dX8_tank_4 (by decide) (fun c_2 => ?_) (fun c_2 => ?_)
  · refine lv_bipush (v := (-2)) hx hb dX8_tank_18 (by decide) ?_
    exact retI cx hw hr hk dX8_tank_20 (by simp [an_tank, c_2])
  · refine lv_iload_n hx hb dX8_tank_7 rfl (lv_at hl 2 rfl) ?_
    refine lv_iconst (v := 0) hx hb dX8_tank_8 (by decide) ?_
    refine lv_sipush (v := 20000) hx hb dX8_tank_9 (by decide) ?_
    refine goI hw (runSW (As := [.int mo, .int 0, .int 20000]) (rest := []) cx hw (c_X8_isIn l D a cI cZ f u mo 0 20000 ) lk_X8_95 ⟨Nat.le_of_ble_eq_true rfl, Nat.le_of_ble_eq_true rfl⟩ ⟨rfl, rfl⟩ ⟨Nat.zero_le _, Nat.zero_le _⟩ rfl rfl hl.1 (Nat.le_of_ble_eq_true rfl) dX8_tank_12) (fun r_3 f2 u2 H locs hp hw => ?_)
    obtain ⟨rfl, rfl, e_3⟩ := hp
    refine topc e_3 ?_
    refine lv_if_ne (tgt := 21) hx hb dX8_tank_15 (by decide) (fun c_4 => ?_) (fun c_4 => ?_)
    · refine lv_aload_n hx hb dX8_tank_21 rfl (lv_at hl 0 rfl) ?_
      refine gf_X8_119 cx hw dX8_tank_22 ?_
      refine topc (y := 0) h36_20 ?_
      refine lv_iconst (v := 4) hx hb dX8_tank_25 (by decide) ?_
      refine lv_icmp_ne (tgt := 32) hx hb dX8_tank_26 (by decide) (fun _ => ?_) (fun q => absurd q (by decide))
      refine lv_aload_n hx hb dX8_tank_32 rfl (lv_at hl 0 rfl) ?_
      refine gf_X8_61 cx hw dX8_tank_33 ?_
      refine lv_aload_n hx hb dX8_tank_36 rfl (lv_at hl 0 rfl) ?_
      refine gf_X8_119 cx hw dX8_tank_37 ?_
      refine topc (y := 0) h36_20 ?_
      refine lv_iload_n hx hb dX8_tank_40 rfl (lv_at hl 1 rfl) ?_
      refine astC 51 0 cx hw rfl ws_51 (by decide) (by decide) dX8_tank_41 (fun H locs hw => ?_)
      refine lv_aload_n hx hb dX8_tank_42 rfl (lv_at hl 0 rfl) ?_
      refine gf_X8_64 cx hw dX8_tank_43 ?_
      refine lv_aload_n hx hb dX8_tank_46 rfl (lv_at hl 0 rfl) ?_
      refine gf_X8_119 cx hw dX8_tank_47 ?_
      refine topc (y := 0) h36_20 ?_
      refine lv_iload_n hx hb dX8_tank_50 rfl (lv_at hl 2 rfl) ?_
      refine astC 52 0 cx hw rfl ws_52 (by decide) (by decide) dX8_tank_51 (fun H locs hw => ?_)
      refine lv_aload_n hx hb dX8_tank_52 rfl (lv_at hl 0 rfl) ?_
      refine lv_dup hx hb dX8_tank_53 rfl ?_
      refine gf_X8_119 cx hw dX8_tank_54 ?_
      refine topc (y := 0) h36_20 ?_
      refine lv_iconst (v := 1) hx hb dX8_tank_57 (by decide) ?_
      refine lv_iadd hx hb dX8_tank_58 ?_
      refine topc (y := 1) (by decide) ?_
      refine pf_X8_119 cx hw dX8_tank_59 (fun H locs hw => ?_)
      refine lv_aload_n hx hb dX8_tank_62 rfl (lv_at hl 0 rfl) ?_
      refine gf_X8_119 cx hw dX8_tank_63 ?_
      refine topc (y := 1) rfl ?_
      refine lv_iconst (v := 1) hx hb dX8_tank_66 (by decide) ?_
      refine lv_isub hx hb dX8_tank_67 ?_
      refine topc (y := 0) (by decide) ?_
      exact retI cx hw hr hk dX8_tank_68 (by simp [an_tank, c_2, c_4])
    · refine lv_bipush (v := (-2)) hx hb dX8_tank_18 (by decide) ?_
      exact retI cx hw hr hk dX8_tank_20 (by simp [an_tank, c_2, c_4])

set_option maxHeartbeats 4000000 in
set_option maxRecDepth 100000 in
theorem c_X8_person (l : Launch) (D : va_G) (a : Nat → Nat) (cI cZ : ClassId) (f : FF) (u : UU) (w : Int32) (h36_24 : f 36 24 = 80)  : KI l yX8_person cX8_person 3 (some .int) ({ frames := 2, cells := 0, slots := 0, locals := 34 } : Room) D a cI cZ [.ref (a 36), .int w] f u (fun r f2 u2 => r = an_person w) := by
  refine KX.of (by decide) (Nat.le_of_ble_eq_true rfl) ?_
  intro p e s m below meth c cx hw hr hk ls hl
  have cx : Cx p s m _ c cX8_person RX8 3 D cI cZ := cx
  have hl : lv_has ls 3 [(0, .ref (a 36)), (1, .int w)] := hl
  have hx := cx.1.1
  have hb := cx.1.2.1
  refine lv_iload_n hx hb dX8_person_0 rfl (lv_at hl 1 rfl) ?_
  refine lv_bipush (v := 50) hx hb dX8_person_1 (by decide) ?_
  refine lv_sipush (v := 150) hx hb dX8_person_3 (by decide) ?_
  refine goI hw (runSW (As := [.int w, .int 50, .int 150]) (rest := []) cx hw (c_X8_isIn l D a cI cZ f u w 50 150 ) lk_X8_95 ⟨Nat.le_of_ble_eq_true rfl, Nat.le_of_ble_eq_true rfl⟩ ⟨rfl, rfl⟩ ⟨Nat.zero_le _, Nat.zero_le _⟩ rfl rfl hl.1 (Nat.le_of_ble_eq_true rfl) dX8_person_6) (fun r_1 f2 u2 H locs hp hw => ?_)
  obtain ⟨rfl, rfl, e_1⟩ := hp
  refine topc e_1 ?_
  refine lv_if_ne (tgt := 15) hx hb dX8_person_9 (by decide) (fun c_2 => ?_) (fun c_2 => ?_)
  · refine lv_aload_n hx hb dX8_person_15 rfl (lv_at hl 0 rfl) ?_
    refine gf_X8_70 cx hw dX8_person_16 ?_
    refine topc (y := 80) h36_24 ?_
    refine lv_istore_n (lv' := [(2, .int 80), (0, .ref (a 36)), (1, .int w)]) hx hb dX8_person_19 rfl hl (by decide) rfl (fun ls hl => ?_)
    refine lv_aload_n hx hb dX8_person_20 rfl (lv_at hl 1 rfl) ?_
    refine lv_iload_n hx hb dX8_person_21 rfl (lv_at hl 2 rfl) ?_
    refine pf_X8_70 cx hw dX8_person_22 (fun H locs hw => ?_)
    refine lv_iload_n hx hb dX8_person_25 rfl (lv_at hl 0 rfl) ?_
    exact retI cx hw hr hk dX8_person_26 (by simp [an_person, c_2])
  · refine lv_bipush (v := (-2)) hx hb dX8_person_12 (by decide) ?_
    exact retI cx hw hr hk dX8_person_14 (by simp [an_person, c_2])

set_option maxHeartbeats 4000000 in
set_option maxRecDepth 100000 in
theorem c_X8_seat (l : Launch) (D : va_G) (a : Nat → Nat) (cI cZ : ClassId) (f : FF) (u : UU) (ro : Int32) (n : Int32) (h36_16 : f 36 16 = 0)  : KI l yX8_seat cX8_seat 4 (some .int) ({ frames := 2, cells := 0, slots := 0, locals := 34 } : Room) D a cI cZ [.ref (a 36), .int ro, .int n] f u (fun r f2 u2 => r = (-1)) := by
  refine KX.of (by decide) (Nat.le_of_ble_eq_true rfl) ?_
  intro p e s m below meth c cx hw hr hk ls hl
  have cx : Cx p s m _ c cX8_seat RX8 4 D cI cZ := cx
  have hl : lv_has ls 4 [(0, .ref (a 36)), (1, .int ro), (2, .int n)] := hl
  have hx := cx.1.1
  have hb := cx.1.2.1
  refine lv_iload_n hx hb dX8_seat_0 rfl (lv_at hl 1 rfl) ?_
  refine lv_iconst (v := 0) hx hb dX8_seat_1 (by decide) ?_
  refine lv_aload_n hx hb dX8_seat_2 rfl (lv_at hl 0 rfl) ?_
  refine gf_X8_116 cx hw dX8_seat_3 ?_
  refine topc (y := 0) h36_16 ?_
  refine lv_iconst (v := 1) hx hb dX8_seat_6 (by decide) ?_
  refine lv_isub hx hb dX8_seat_7 ?_
  refine topc (y := (-1)) (by decide) ?_
  refine goI hw (runSW (As := [.int ro, .int 0, .int (-1)]) (rest := []) cx hw (c_X8_isIn l D a cI cZ f u ro 0 (-1) ) lk_X8_95 ⟨Nat.le_of_ble_eq_true rfl, Nat.le_of_ble_eq_true rfl⟩ ⟨rfl, rfl⟩ ⟨Nat.zero_le _, Nat.zero_le _⟩ rfl rfl hl.1 (Nat.le_of_ble_eq_true rfl) dX8_seat_8) (fun r_1 f2 u2 H locs hp hw => ?_)
  obtain ⟨rfl, rfl, e_1⟩ := hp
  refine topc e_1 ?_
  refine topc (y := 0) (rg_m1 ro) ?_
  refine lv_if_ne (tgt := 16) hx hb dX8_seat_11 (by decide) (fun q => absurd (by decide) q) (fun _ => ?_)
  refine lv_iconst (v := (-1)) hx hb dX8_seat_14 (by decide) ?_
  exact retI cx hw hr hk dX8_seat_15 (by simp [])

set_option maxHeartbeats 4000000 in
set_option maxRecDepth 100000 in
theorem c_X8_fuel (l : Launch) (D : va_G) (a : Nat → Nat) (cI cZ : ClassId) (f : FF) (u : UU) (t : Int32) (am : Int32) (h36_20 : f 36 20 = 0)  : KI l yX8_fuel cX8_fuel 4 (some .int) ({ frames := 2, cells := 0, slots := 0, locals := 34 } : Room) D a cI cZ [.ref (a 36), .int t, .int am] f u (fun r f2 u2 => r = (-1)) := by
  refine KX.of (by decide) (Nat.le_of_ble_eq_true rfl) ?_
  intro p e s m below meth c cx hw hr hk ls hl
  have cx : Cx p s m _ c cX8_fuel RX8 4 D cI cZ := cx
  have hl : lv_has ls 4 [(0, .ref (a 36)), (1, .int t), (2, .int am)] := hl
  have hx := cx.1.1
  have hb := cx.1.2.1
  refine lv_iload_n hx hb dX8_fuel_0 rfl (lv_at hl 1 rfl) ?_
  refine lv_iconst (v := 0) hx hb dX8_fuel_1 (by decide) ?_
  refine lv_aload_n hx hb dX8_fuel_2 rfl (lv_at hl 0 rfl) ?_
  refine gf_X8_119 cx hw dX8_fuel_3 ?_
  refine topc (y := 0) h36_20 ?_
  refine lv_iconst (v := 1) hx hb dX8_fuel_6 (by decide) ?_
  refine lv_isub hx hb dX8_fuel_7 ?_
  refine topc (y := (-1)) (by decide) ?_
  refine goI hw (runSW (As := [.int t, .int 0, .int (-1)]) (rest := []) cx hw (c_X8_isIn l D a cI cZ f u t 0 (-1) ) lk_X8_95 ⟨Nat.le_of_ble_eq_true rfl, Nat.le_of_ble_eq_true rfl⟩ ⟨rfl, rfl⟩ ⟨Nat.zero_le _, Nat.zero_le _⟩ rfl rfl hl.1 (Nat.le_of_ble_eq_true rfl) dX8_fuel_8) (fun r_1 f2 u2 H locs hp hw => ?_)
  obtain ⟨rfl, rfl, e_1⟩ := hp
  refine topc e_1 ?_
  refine topc (y := 0) (rg_m1 t) ?_
  refine lv_if_ne (tgt := 16) hx hb dX8_fuel_11 (by decide) (fun q => absurd (by decide) q) (fun _ => ?_)
  refine lv_iconst (v := (-1)) hx hb dX8_fuel_14 (by decide) ?_
  exact retI cx hw hr hk dX8_fuel_15 (by simp [])

set_option maxHeartbeats 4000000 in
set_option maxRecDepth 100000 in
theorem c_X8_point (l : Launch) (D : va_G) (a : Nat → Nat) (cI cZ : ClassId) (f : FF) (u : UU) (ph : Int32) (w : Int32) (lo : Int32) (hi : Int32) (h54_0 : f 54 0 = 0) (h54_1 : f 54 1 = 0)  : KI l yX8_point cX8_point 6 (some .int) ({ frames := 3, cells := 0, slots := 0, locals := 54 } : Room) D a cI cZ [.ref (a 36), .int ph, .int w, .int lo, .int hi] f u (fun r f2 u2 => r = an_point ph w lo hi) := by
  refine KX.of (by decide) (Nat.le_of_ble_eq_true rfl) ?_
  intro p e s m below meth c cx hw hr hk ls hl
  have cx : Cx p s m _ c cX8_point RX8 6 D cI cZ := cx
  have hl : lv_has ls 6 [(0, .ref (a 36)), (1, .int ph), (2, .int w), (3, .int lo), (4, .int hi)] := hl
  have hx := cx.1.1
  have hb := cx.1.2.1
  refine lv_iload_n hx hb dX8_point_0 rfl (lv_at hl 1 rfl) ?_
  refine lv_iconst (v := 0) hx hb dX8_point_1 (by decide) ?_
  refine lv_iconst (v := 1) hx hb dX8_point_2 (by decide) ?_
  refine goI hw (runSW (As := [.int ph, .int 0, .int 1]) (rest := []) cx hw (c_X8_isIn l D a cI cZ f u ph 0 1 ) lk_X8_95 ⟨Nat.le_of_ble_eq_true rfl, Nat.le_of_ble_eq_true rfl⟩ ⟨rfl, rfl⟩ ⟨Nat.zero_le _, Nat.zero_le _⟩ rfl rfl hl.1 (Nat.le_of_ble_eq_true rfl) dX8_point_3) (fun r_1 f2 u2 H locs hp hw => ?_)
  obtain ⟨rfl, rfl, e_1⟩ := hp
  refine topc e_1 ?_
  refine lv_if_ne (tgt := 11) hx hb dX8_point_6 (by decide) (fun c_2 => ?_) (fun c_2 => ?_)
  · rcases rg_01 c_2 with e_2 | e_2
    · subst e_2
      refine lv_aload_n hx hb dX8_point_11 rfl (lv_at hl 0 rfl) ?_
      refine gf_X8_73 cx hw dX8_point_12 ?_
      refine lv_iload_n hx hb dX8_point_15 rfl (lv_at hl 1 rfl) ?_
      refine aldC 54 0 cx hw rfl (by decide) (by decide) dX8_point_16 ?_
      refine topc (y := 0) h54_0 ?_
      refine lv_istore (lv' := [(5, .int 0), (0, .ref (a 36)), (1, .int 0), (2, .int w), (3, .int lo), (4, .int hi)]) hx hb dX8_point_17 hl (by decide) rfl (fun ls hl => ?_)
      refine lv_iload_n hx hb dX8_point_19 rfl (lv_at hl 3 rfl) ?_
      refine lv_iconst (v := 1) hx hb dX8_point_20 (by decide) ?_
      refine lv_ldc (v := 1000000) hx hb cx.1.2.2.2.1 (cx.1.2.2.2.2 _ mm_4_197) dX8_point_21 ?_
      refine goI hw (runSW (As := [.int w, .int 1, .int 1000000]) (rest := []) cx hw (c_X8_isIn l D a cI cZ f u w 1 1000000 ) lk_X8_95 ⟨Nat.le_of_ble_eq_true rfl, Nat.le_of_ble_eq_true rfl⟩ ⟨rfl, rfl⟩ ⟨Nat.zero_le _, Nat.zero_le _⟩ rfl rfl hl.1 (Nat.le_of_ble_eq_true rfl) dX8_point_23) (fun r_3 f2 u2 H locs hp hw => ?_)
      obtain ⟨rfl, rfl, e_3⟩ := hp
      refine topc e_3 ?_
      refine lv_if_eq (tgt := 73) hx hb dX8_point_26 (by decide) (fun c_4 => ?_) (fun c_4 => ?_)
      · refine lv_bipush (v := (-2)) hx hb dX8_point_73 (by decide) ?_
        exact retI cx hw hr hk dX8_point_75 (by simp [an_point, c_2, c_4])
      · refine lv_iload hx hb dX8_point_29 (lv_at hl 0 rfl) ?_
        refine lv_if_le (tgt := 52) hx hb dX8_point_31 (by decide) (fun _ => ?_) (fun q => absurd (by decide) q)
        refine lv_iload_n hx hb dX8_point_52 rfl (lv_at hl 4 rfl) ?_
        refine goI hw (runSW (As := [.int lo]) (rest := []) cx hw (c_X8_isArm l D a cI cZ f u lo ) lk_X8_110 ⟨Nat.le_of_ble_eq_true rfl, Nat.le_of_ble_eq_true rfl⟩ ⟨rfl, rfl⟩ ⟨Nat.zero_le _, Nat.zero_le _⟩ rfl rfl hl.1 (Nat.le_of_ble_eq_true rfl) dX8_point_53) (fun r_6 f2 u2 H locs hp hw => ?_)
        obtain ⟨rfl, rfl, e_6⟩ := hp
        refine topc e_6 ?_
        refine lv_if_eq (tgt := 73) hx hb dX8_point_56 (by decide) (fun c_7 => ?_) (fun c_7 => ?_)
        · refine lv_bipush (v := (-2)) hx hb dX8_point_73 (by decide) ?_
          exact retI cx hw hr hk dX8_point_75 (by simp [an_point, c_2, c_4, c_7])
        · refine lv_iload hx hb dX8_point_59 (lv_at hl 5 rfl) ?_
          refine goI hw (runSW (As := [.int hi]) (rest := []) cx hw (c_X8_isArm l D a cI cZ f u hi ) lk_X8_110 ⟨Nat.le_of_ble_eq_true rfl, Nat.le_of_ble_eq_true rfl⟩ ⟨rfl, rfl⟩ ⟨Nat.zero_le _, Nat.zero_le _⟩ rfl rfl hl.1 (Nat.le_of_ble_eq_true rfl) dX8_point_61) (fun r_8 f2 u2 H locs hp hw => ?_)
          obtain ⟨rfl, rfl, e_8⟩ := hp
          refine topc e_8 ?_
          refine lv_if_eq (tgt := 73) hx hb dX8_point_64 (by decide) (fun c_9 => ?_) (fun c_9 => ?_)
          · refine lv_bipush (v := (-2)) hx hb dX8_point_73 (by decide) ?_
            exact retI cx hw hr hk dX8_point_75 (by simp [an_point, c_2, c_4, c_7, c_9])
          · refine lv_iload_n hx hb dX8_point_67 rfl (lv_at hl 4 rfl) ?_
            refine lv_iload hx hb dX8_point_68 (lv_at hl 5 rfl) ?_
            refine lv_icmp_le (tgt := 76) hx hb dX8_point_70 (by decide) (fun c_10 => ?_) (fun c_10 => ?_)
            · refine lv_iload hx hb dX8_point_76 (lv_at hl 0 rfl) ?_
              refine lv_bipush (v := 10) hx hb dX8_point_78 (by decide) ?_
              refine lv_icmp_ne (tgt := 86) hx hb dX8_point_80 (by decide) (fun _ => ?_) (fun q => absurd q (by decide))
              refine lv_aload_n hx hb dX8_point_86 rfl (lv_at hl 1 rfl) ?_
              refine gf_X8_76 cx hw dX8_point_87 ?_
              refine lv_bipush (v := 10) hx hb dX8_point_90 (by decide) ?_
              refine lv_iload_n hx hb dX8_point_92 rfl (lv_at hl 2 rfl) ?_
              refine lv_imul hx hb dX8_point_93 ?_
              refine topc (y := 0) (by decide) ?_
              refine lv_iload hx hb dX8_point_94 (lv_at hl 0 rfl) ?_
              refine lv_iadd hx hb dX8_point_96 ?_
              refine topc (y := 0) (by decide) ?_
              refine lv_iload_n hx hb dX8_point_97 rfl (lv_at hl 3 rfl) ?_
              refine astC 55 0 cx hw rfl ws_55 (by decide) (by decide) dX8_point_98 (fun H locs hw => ?_)
              refine lv_aload_n hx hb dX8_point_99 rfl (lv_at hl 1 rfl) ?_
              refine gf_X8_79 cx hw dX8_point_100 ?_
              refine lv_bipush (v := 10) hx hb dX8_point_103 (by decide) ?_
              refine lv_iload_n hx hb dX8_point_105 rfl (lv_at hl 2 rfl) ?_
              refine lv_imul hx hb dX8_point_106 ?_
              refine topc (y := 0) (by decide) ?_
              refine lv_iload hx hb dX8_point_107 (lv_at hl 0 rfl) ?_
              refine lv_iadd hx hb dX8_point_109 ?_
              refine topc (y := 0) (by decide) ?_
              refine lv_iload_n hx hb dX8_point_110 rfl (lv_at hl 4 rfl) ?_
              refine astC 56 0 cx hw rfl ws_56 (by decide) (by decide) dX8_point_111 (fun H locs hw => ?_)
              refine lv_aload_n hx hb dX8_point_112 rfl (lv_at hl 1 rfl) ?_
              refine gf_X8_82 cx hw dX8_point_113 ?_
              refine lv_bipush (v := 10) hx hb dX8_point_116 (by decide) ?_
              refine lv_iload_n hx hb dX8_point_118 rfl (lv_at hl 2 rfl) ?_
              refine lv_imul hx hb dX8_point_119 ?_
              refine topc (y := 0) (by decide) ?_
              refine lv_iload hx hb dX8_point_120 (lv_at hl 0 rfl) ?_
              refine lv_iadd hx hb dX8_point_122 ?_
              refine topc (y := 0) (by decide) ?_
              refine lv_iload hx hb dX8_point_123 (lv_at hl 5 rfl) ?_
              refine astC 57 0 cx hw rfl ws_57 (by decide) (by decide) dX8_point_125 (fun H locs hw => ?_)
              refine lv_aload_n hx hb dX8_point_126 rfl (lv_at hl 1 rfl) ?_
              refine gf_X8_73 cx hw dX8_point_127 ?_
              refine lv_iload_n hx hb dX8_point_130 rfl (lv_at hl 2 rfl) ?_
              refine lv_dup2_11 hx hb dX8_point_131 rfl rfl ?_
              refine aldC 54 0 cx hw rfl (by decide) (by decide) dX8_point_132 ?_
              refine topc (y := 0) h54_0 ?_
              refine lv_iconst (v := 1) hx hb dX8_point_133 (by decide) ?_
              refine lv_iadd hx hb dX8_point_134 ?_
              refine topc (y := 1) (by decide) ?_
              refine astC 54 0 cx hw rfl ws_54 (by decide) (by decide) dX8_point_135 (fun H locs hw => ?_)
              refine lv_aload_n hx hb dX8_point_136 rfl (lv_at hl 1 rfl) ?_
              refine gf_X8_73 cx hw dX8_point_137 ?_
              refine lv_iload_n hx hb dX8_point_140 rfl (lv_at hl 2 rfl) ?_
              refine aldC 54 0 cx hw rfl (by decide) (by decide) dX8_point_141 ?_
              refine topc (y := 1) rfl ?_
              exact retI cx hw hr hk dX8_point_142 (by simp [an_point, c_2, c_4, c_7, c_9, c_10])
            · refine lv_bipush (v := (-2)) hx hb dX8_point_73 (by decide) ?_
              exact retI cx hw hr hk dX8_point_75 (by simp [an_point, c_2, c_4, c_7, c_9, c_10])
    · subst e_2
      refine lv_aload_n hx hb dX8_point_11 rfl (lv_at hl 0 rfl) ?_
      refine gf_X8_73 cx hw dX8_point_12 ?_
      refine lv_iload_n hx hb dX8_point_15 rfl (lv_at hl 1 rfl) ?_
      refine aldC 54 1 cx hw rfl (by decide) (by decide) dX8_point_16 ?_
      refine topc (y := 0) h54_1 ?_
      refine lv_istore (lv' := [(5, .int 0), (0, .ref (a 36)), (1, .int 1), (2, .int w), (3, .int lo), (4, .int hi)]) hx hb dX8_point_17 hl (by decide) rfl (fun ls hl => ?_)
      refine lv_iload_n hx hb dX8_point_19 rfl (lv_at hl 3 rfl) ?_
      refine lv_iconst (v := 1) hx hb dX8_point_20 (by decide) ?_
      refine lv_ldc (v := 1000000) hx hb cx.1.2.2.2.1 (cx.1.2.2.2.2 _ mm_4_197) dX8_point_21 ?_
      refine goI hw (runSW (As := [.int w, .int 1, .int 1000000]) (rest := []) cx hw (c_X8_isIn l D a cI cZ f u w 1 1000000 ) lk_X8_95 ⟨Nat.le_of_ble_eq_true rfl, Nat.le_of_ble_eq_true rfl⟩ ⟨rfl, rfl⟩ ⟨Nat.zero_le _, Nat.zero_le _⟩ rfl rfl hl.1 (Nat.le_of_ble_eq_true rfl) dX8_point_23) (fun r_12 f2 u2 H locs hp hw => ?_)
      obtain ⟨rfl, rfl, e_12⟩ := hp
      refine topc e_12 ?_
      refine lv_if_eq (tgt := 73) hx hb dX8_point_26 (by decide) (fun c_13 => ?_) (fun c_13 => ?_)
      · refine lv_bipush (v := (-2)) hx hb dX8_point_73 (by decide) ?_
        exact retI cx hw hr hk dX8_point_75 (by simp [an_point, c_2, c_13])
      · refine lv_iload hx hb dX8_point_29 (lv_at hl 0 rfl) ?_
        refine lv_if_le (tgt := 52) hx hb dX8_point_31 (by decide) (fun _ => ?_) (fun q => absurd (by decide) q)
        refine lv_iload_n hx hb dX8_point_52 rfl (lv_at hl 4 rfl) ?_
        refine goI hw (runSW (As := [.int lo]) (rest := []) cx hw (c_X8_isArm l D a cI cZ f u lo ) lk_X8_110 ⟨Nat.le_of_ble_eq_true rfl, Nat.le_of_ble_eq_true rfl⟩ ⟨rfl, rfl⟩ ⟨Nat.zero_le _, Nat.zero_le _⟩ rfl rfl hl.1 (Nat.le_of_ble_eq_true rfl) dX8_point_53) (fun r_15 f2 u2 H locs hp hw => ?_)
        obtain ⟨rfl, rfl, e_15⟩ := hp
        refine topc e_15 ?_
        refine lv_if_eq (tgt := 73) hx hb dX8_point_56 (by decide) (fun c_16 => ?_) (fun c_16 => ?_)
        · refine lv_bipush (v := (-2)) hx hb dX8_point_73 (by decide) ?_
          exact retI cx hw hr hk dX8_point_75 (by simp [an_point, c_2, c_13, c_16])
        · refine lv_iload hx hb dX8_point_59 (lv_at hl 5 rfl) ?_
          refine goI hw (runSW (As := [.int hi]) (rest := []) cx hw (c_X8_isArm l D a cI cZ f u hi ) lk_X8_110 ⟨Nat.le_of_ble_eq_true rfl, Nat.le_of_ble_eq_true rfl⟩ ⟨rfl, rfl⟩ ⟨Nat.zero_le _, Nat.zero_le _⟩ rfl rfl hl.1 (Nat.le_of_ble_eq_true rfl) dX8_point_61) (fun r_17 f2 u2 H locs hp hw => ?_)
          obtain ⟨rfl, rfl, e_17⟩ := hp
          refine topc e_17 ?_
          refine lv_if_eq (tgt := 73) hx hb dX8_point_64 (by decide) (fun c_18 => ?_) (fun c_18 => ?_)
          · refine lv_bipush (v := (-2)) hx hb dX8_point_73 (by decide) ?_
            exact retI cx hw hr hk dX8_point_75 (by simp [an_point, c_2, c_13, c_16, c_18])
          · refine lv_iload_n hx hb dX8_point_67 rfl (lv_at hl 4 rfl) ?_
            refine lv_iload hx hb dX8_point_68 (lv_at hl 5 rfl) ?_
            refine lv_icmp_le (tgt := 76) hx hb dX8_point_70 (by decide) (fun c_19 => ?_) (fun c_19 => ?_)
            · refine lv_iload hx hb dX8_point_76 (lv_at hl 0 rfl) ?_
              refine lv_bipush (v := 10) hx hb dX8_point_78 (by decide) ?_
              refine lv_icmp_ne (tgt := 86) hx hb dX8_point_80 (by decide) (fun _ => ?_) (fun q => absurd q (by decide))
              refine lv_aload_n hx hb dX8_point_86 rfl (lv_at hl 1 rfl) ?_
              refine gf_X8_76 cx hw dX8_point_87 ?_
              refine lv_bipush (v := 10) hx hb dX8_point_90 (by decide) ?_
              refine lv_iload_n hx hb dX8_point_92 rfl (lv_at hl 2 rfl) ?_
              refine lv_imul hx hb dX8_point_93 ?_
              refine topc (y := 10) (by decide) ?_
              refine lv_iload hx hb dX8_point_94 (lv_at hl 0 rfl) ?_
              refine lv_iadd hx hb dX8_point_96 ?_
              refine topc (y := 10) (by decide) ?_
              refine lv_iload_n hx hb dX8_point_97 rfl (lv_at hl 3 rfl) ?_
              refine astC 55 10 cx hw rfl ws_55 (by decide) (by decide) dX8_point_98 (fun H locs hw => ?_)
              refine lv_aload_n hx hb dX8_point_99 rfl (lv_at hl 1 rfl) ?_
              refine gf_X8_79 cx hw dX8_point_100 ?_
              refine lv_bipush (v := 10) hx hb dX8_point_103 (by decide) ?_
              refine lv_iload_n hx hb dX8_point_105 rfl (lv_at hl 2 rfl) ?_
              refine lv_imul hx hb dX8_point_106 ?_
              refine topc (y := 10) (by decide) ?_
              refine lv_iload hx hb dX8_point_107 (lv_at hl 0 rfl) ?_
              refine lv_iadd hx hb dX8_point_109 ?_
              refine topc (y := 10) (by decide) ?_
              refine lv_iload_n hx hb dX8_point_110 rfl (lv_at hl 4 rfl) ?_
              refine astC 56 10 cx hw rfl ws_56 (by decide) (by decide) dX8_point_111 (fun H locs hw => ?_)
              refine lv_aload_n hx hb dX8_point_112 rfl (lv_at hl 1 rfl) ?_
              refine gf_X8_82 cx hw dX8_point_113 ?_
              refine lv_bipush (v := 10) hx hb dX8_point_116 (by decide) ?_
              refine lv_iload_n hx hb dX8_point_118 rfl (lv_at hl 2 rfl) ?_
              refine lv_imul hx hb dX8_point_119 ?_
              refine topc (y := 10) (by decide) ?_
              refine lv_iload hx hb dX8_point_120 (lv_at hl 0 rfl) ?_
              refine lv_iadd hx hb dX8_point_122 ?_
              refine topc (y := 10) (by decide) ?_
              refine lv_iload hx hb dX8_point_123 (lv_at hl 5 rfl) ?_
              refine astC 57 10 cx hw rfl ws_57 (by decide) (by decide) dX8_point_125 (fun H locs hw => ?_)
              refine lv_aload_n hx hb dX8_point_126 rfl (lv_at hl 1 rfl) ?_
              refine gf_X8_73 cx hw dX8_point_127 ?_
              refine lv_iload_n hx hb dX8_point_130 rfl (lv_at hl 2 rfl) ?_
              refine lv_dup2_11 hx hb dX8_point_131 rfl rfl ?_
              refine aldC 54 1 cx hw rfl (by decide) (by decide) dX8_point_132 ?_
              refine topc (y := 0) h54_1 ?_
              refine lv_iconst (v := 1) hx hb dX8_point_133 (by decide) ?_
              refine lv_iadd hx hb dX8_point_134 ?_
              refine topc (y := 1) (by decide) ?_
              refine astC 54 1 cx hw rfl ws_54 (by decide) (by decide) dX8_point_135 (fun H locs hw => ?_)
              refine lv_aload_n hx hb dX8_point_136 rfl (lv_at hl 1 rfl) ?_
              refine gf_X8_73 cx hw dX8_point_137 ?_
              refine lv_iload_n hx hb dX8_point_140 rfl (lv_at hl 2 rfl) ?_
              refine aldC 54 1 cx hw rfl (by decide) (by decide) dX8_point_141 ?_
              refine topc (y := 1) rfl ?_
              exact retI cx hw hr hk dX8_point_142 (by simp [an_point, c_2, c_13, c_16, c_18, c_19])
            · refine lv_bipush (v := (-2)) hx hb dX8_point_73 (by decide) ?_
              exact retI cx hw hr hk dX8_point_75 (by simp [an_point, c_2, c_13, c_16, c_18, c_19])
  · refine lv_iconst (v := (-1)) hx hb dX8_point_9 (by decide) ?_
    exact retI cx hw hr hk dX8_point_10 (by simp [an_point, c_2])

set_option maxHeartbeats 4000000 in
set_option maxRecDepth 100000 in
theorem c_X8_wipe (l : Launch) (D : va_G) (a : Nat → Nat) (cI cZ : ClassId) (f : FF) (u : UU) (ph : Int32) (h54_0 : f 54 0 = 0) (h54_1 : f 54 1 = 0)  : KI l yX8_wipe cX8_wipe 3 (some .int) ({ frames := 2, cells := 0, slots := 0, locals := 34 } : Room) D a cI cZ [.ref (a 36), .int ph] f u (fun r f2 u2 => r = an_wipe ph) := by
  refine KX.of (by decide) (Nat.le_of_ble_eq_true rfl) ?_
  intro p e s m below meth c cx hw hr hk ls hl
  have cx : Cx p s m _ c cX8_wipe RX8 3 D cI cZ := cx
  have hl : lv_has ls 3 [(0, .ref (a 36)), (1, .int ph)] := hl
  have hx := cx.1.1
  have hb := cx.1.2.1
  refine lv_iload_n hx hb dX8_wipe_0 rfl (lv_at hl 1 rfl) ?_
  refine lv_iconst (v := 0) hx hb dX8_wipe_1 (by decide) ?_
  refine lv_iconst (v := 1) hx hb dX8_wipe_2 (by decide) ?_
  refine goI hw (runSW (As := [.int ph, .int 0, .int 1]) (rest := []) cx hw (c_X8_isIn l D a cI cZ f u ph 0 1 ) lk_X8_95 ⟨Nat.le_of_ble_eq_true rfl, Nat.le_of_ble_eq_true rfl⟩ ⟨rfl, rfl⟩ ⟨Nat.zero_le _, Nat.zero_le _⟩ rfl rfl hl.1 (Nat.le_of_ble_eq_true rfl) dX8_wipe_3) (fun r_1 f2 u2 H locs hp hw => ?_)
  obtain ⟨rfl, rfl, e_1⟩ := hp
  refine topc e_1 ?_
  refine lv_if_ne (tgt := 11) hx hb dX8_wipe_6 (by decide) (fun c_2 => ?_) (fun c_2 => ?_)
  · rcases rg_01 c_2 with e_2 | e_2
    · subst e_2
      refine lv_aload_n hx hb dX8_wipe_11 rfl (lv_at hl 0 rfl) ?_
      refine gf_X8_73 cx hw dX8_wipe_12 ?_
      refine lv_iload_n hx hb dX8_wipe_15 rfl (lv_at hl 1 rfl) ?_
      refine aldC 54 0 cx hw rfl (by decide) (by decide) dX8_wipe_16 ?_
      refine topc (y := 0) h54_0 ?_
      refine lv_istore_n (lv' := [(2, .int 0), (0, .ref (a 36)), (1, .int 0)]) hx hb dX8_wipe_17 rfl hl (by decide) rfl (fun ls hl => ?_)
      refine lv_aload_n hx hb dX8_wipe_18 rfl (lv_at hl 1 rfl) ?_
      refine gf_X8_73 cx hw dX8_wipe_19 ?_
      refine lv_iload_n hx hb dX8_wipe_22 rfl (lv_at hl 2 rfl) ?_
      refine lv_iconst (v := 0) hx hb dX8_wipe_23 (by decide) ?_
      refine astC 54 0 cx hw rfl ws_54 (by decide) (by decide) dX8_wipe_24 (fun H locs hw => ?_)
      refine lv_iload_n hx hb dX8_wipe_25 rfl (lv_at hl 0 rfl) ?_
      exact retI cx hw hr hk dX8_wipe_26 (by simp [an_wipe, c_2])
    · subst e_2
      refine lv_aload_n hx hb dX8_wipe_11 rfl (lv_at hl 0 rfl) ?_
      refine gf_X8_73 cx hw dX8_wipe_12 ?_
      refine lv_iload_n hx hb dX8_wipe_15 rfl (lv_at hl 1 rfl) ?_
      refine aldC 54 1 cx hw rfl (by decide) (by decide) dX8_wipe_16 ?_
      refine topc (y := 0) h54_1 ?_
      refine lv_istore_n (lv' := [(2, .int 0), (0, .ref (a 36)), (1, .int 1)]) hx hb dX8_wipe_17 rfl hl (by decide) rfl (fun ls hl => ?_)
      refine lv_aload_n hx hb dX8_wipe_18 rfl (lv_at hl 1 rfl) ?_
      refine gf_X8_73 cx hw dX8_wipe_19 ?_
      refine lv_iload_n hx hb dX8_wipe_22 rfl (lv_at hl 2 rfl) ?_
      refine lv_iconst (v := 0) hx hb dX8_wipe_23 (by decide) ?_
      refine astC 54 1 cx hw rfl ws_54 (by decide) (by decide) dX8_wipe_24 (fun H locs hw => ?_)
      refine lv_iload_n hx hb dX8_wipe_25 rfl (lv_at hl 0 rfl) ?_
      exact retI cx hw hr hk dX8_wipe_26 (by simp [an_wipe, c_2])
  · refine lv_iconst (v := (-1)) hx hb dX8_wipe_9 (by decide) ?_
    exact retI cx hw hr hk dX8_wipe_10 (by simp [an_wipe, c_2])

set_option maxHeartbeats 4000000 in
set_option maxRecDepth 100000 in
theorem c_X8_fits (l : Launch) (D : va_G) (a : Nat → Nat) (cI cZ : ClassId) (f : FF) (u : UU) (i : Int32) (h : Int32) (k : Int32) (h36_11 : f 36 11 = 0)  : KI l yX8_fits cX8_fits 4 (some .int) ({ frames := 3, cells := 0, slots := 0, locals := 55 } : Room) D a cI cZ [.ref (a 36), .int i, .int h, .int k] f u (fun r f2 _ => r = (-1)) := by
  refine KX.of (by decide) (Nat.le_of_ble_eq_true rfl) ?_
  intro p e s m below meth c cx hw hr hk ls hl
  have cx : Cx p s m _ c cX8_fits RX8 4 D cI cZ := cx
  have hl : lv_has ls 4 [(0, .ref (a 36)), (1, .int i), (2, .int h), (3, .int k)] := hl
  have hx := cx.1.1
  have hb := cx.1.2.1
  refine lv_aload_n hx hb dX8_fits_0 rfl (lv_at hl 0 rfl) ?_
  refine lv_iload_n hx hb dX8_fits_1 rfl (lv_at hl 1 rfl) ?_
  refine goI hw (runVW (k := 36) (As := [.int i]) (rest := []) cx hw (c_X8_isItem l D a cI cZ f u i h36_11) lk_X8_130 rfl rfl ⟨Nat.le_of_ble_eq_true rfl, Nat.le_of_ble_eq_true rfl⟩ ⟨rfl, rfl⟩ ⟨Nat.zero_le _, Nat.zero_le _⟩ rfl rfl hl.1 (Nat.le_of_ble_eq_true rfl) dX8_fits_2) (fun r_1 f2 u2 H locs hp hw => ?_)
  obtain ⟨rfl, rfl, e_1⟩ := hp
  refine topc e_1 ?_
  refine lv_if_eq (tgt := 17) hx hb dX8_fits_5 (by decide) (fun _ => ?_) (fun q => absurd (by decide) q)
  refine lv_iconst (v := (-1)) hx hb dX8_fits_17 (by decide) ?_
  exact retI cx hw hr hk dX8_fits_18 rfl

set_option maxHeartbeats 4000000 in
set_option maxRecDepth 100000 in
theorem c_X8_load (l : Launch) (D : va_G) (a : Nat → Nat) (cI cZ : ClassId) (f : FF) (u : UU) (i : Int32) (h : Int32) (k : Int32) (h36_11 : f 36 11 = 0)  : KI l yX8_load cX8_load 5 (some .int) ({ frames := 4, cells := 0, slots := 0, locals := 78 } : Room) D a cI cZ [.ref (a 36), .int i, .int h, .int k] f u (fun r f2 u2 => r = (-1)) := by
  refine KX.of (by decide) (Nat.le_of_ble_eq_true rfl) ?_
  intro p e s m below meth c cx hw hr hk ls hl
  have cx : Cx p s m _ c cX8_load RX8 5 D cI cZ := cx
  have hl : lv_has ls 5 [(0, .ref (a 36)), (1, .int i), (2, .int h), (3, .int k)] := hl
  have hx := cx.1.1
  have hb := cx.1.2.1
  refine lv_aload_n hx hb dX8_load_0 rfl (lv_at hl 0 rfl) ?_
  refine lv_iload_n hx hb dX8_load_1 rfl (lv_at hl 1 rfl) ?_
  refine lv_iload_n hx hb dX8_load_2 rfl (lv_at hl 2 rfl) ?_
  refine lv_iload_n hx hb dX8_load_3 rfl (lv_at hl 3 rfl) ?_
  refine goI hw (runVW (k := 36) (As := [.int i, .int h, .int k]) (rest := []) cx hw (c_X8_fits l D a cI cZ f u i h k h36_11) lk_X8_141 rfl rfl ⟨Nat.le_of_ble_eq_true rfl, Nat.le_of_ble_eq_true rfl⟩ ⟨rfl, rfl⟩ ⟨Nat.zero_le _, Nat.zero_le _⟩ rfl rfl hl.1 (Nat.le_of_ble_eq_true rfl) dX8_load_4) (fun r_1 f_1 u_1 H locs hp_1 hw => ?_)
  refine topc (y := (-1)) hp_1 ?_
  refine lv_istore (lv' := [(4, .int (-1)), (0, .ref (a 36)), (1, .int i), (2, .int h), (3, .int k)]) hx hb dX8_load_7 hl (by decide) rfl (fun ls hl => ?_)
  refine lv_iload hx hb dX8_load_9 (lv_at hl 0 rfl) ?_
  refine lv_if_ne (tgt := 25) hx hb dX8_load_11 (by decide) (fun _ => ?_) (fun q => absurd q (by decide))
  refine lv_iload hx hb dX8_load_25 (lv_at hl 0 rfl) ?_
  exact retI cx hw hr hk dX8_load_27 (by simp [])

set_option maxHeartbeats 4000000 in
set_option maxRecDepth 100000 in
theorem c_X8_unload (l : Launch) (D : va_G) (a : Nat → Nat) (cI cZ : ClassId) (f : FF) (u : UU) (i : Int32) (h36_11 : f 36 11 = 0)  : KI l yX8_unload cX8_unload 2 (some .int) ({ frames := 3, cells := 0, slots := 0, locals := 55 } : Room) D a cI cZ [.ref (a 36), .int i] f u (fun r f2 u2 => r = (-1)) := by
  refine KX.of (by decide) (Nat.le_of_ble_eq_true rfl) ?_
  intro p e s m below meth c cx hw hr hk ls hl
  have cx : Cx p s m _ c cX8_unload RX8 2 D cI cZ := cx
  have hl : lv_has ls 2 [(0, .ref (a 36)), (1, .int i)] := hl
  have hx := cx.1.1
  have hb := cx.1.2.1
  refine lv_aload_n hx hb dX8_unload_0 rfl (lv_at hl 0 rfl) ?_
  refine lv_iload_n hx hb dX8_unload_1 rfl (lv_at hl 1 rfl) ?_
  refine goI hw (runVW (k := 36) (As := [.int i]) (rest := []) cx hw (c_X8_isItem l D a cI cZ f u i h36_11) lk_X8_130 rfl rfl ⟨Nat.le_of_ble_eq_true rfl, Nat.le_of_ble_eq_true rfl⟩ ⟨rfl, rfl⟩ ⟨Nat.zero_le _, Nat.zero_le _⟩ rfl rfl hl.1 (Nat.le_of_ble_eq_true rfl) dX8_unload_2) (fun r_1 f2 u2 H locs hp hw => ?_)
  obtain ⟨rfl, rfl, e_1⟩ := hp
  refine topc e_1 ?_
  refine lv_if_ne (tgt := 10) hx hb dX8_unload_5 (by decide) (fun q => absurd (by decide) q) (fun _ => ?_)
  refine lv_iconst (v := (-1)) hx hb dX8_unload_8 (by decide) ?_
  exact retI cx hw hr hk dX8_unload_9 (by simp [])

set_option maxHeartbeats 4000000 in
set_option maxRecDepth 100000 in
theorem c_X8_where (l : Launch) (D : va_G) (a : Nat → Nat) (cI cZ : ClassId) (f : FF) (u : UU) (i : Int32) (h36_11 : f 36 11 = 0)  : KI l yX8_where cX8_where 2 (some .int) ({ frames := 3, cells := 0, slots := 0, locals := 55 } : Room) D a cI cZ [.ref (a 36), .int i] f u (fun r f2 u2 => r = (-1)) := by
  refine KX.of (by decide) (Nat.le_of_ble_eq_true rfl) ?_
  intro p e s m below meth c cx hw hr hk ls hl
  have cx : Cx p s m _ c cX8_where RX8 2 D cI cZ := cx
  have hl : lv_has ls 2 [(0, .ref (a 36)), (1, .int i)] := hl
  have hx := cx.1.1
  have hb := cx.1.2.1
  refine lv_aload_n hx hb dX8_where_0 rfl (lv_at hl 0 rfl) ?_
  refine lv_iload_n hx hb dX8_where_1 rfl (lv_at hl 1 rfl) ?_
  refine goI hw (runVW (k := 36) (As := [.int i]) (rest := []) cx hw (c_X8_isItem l D a cI cZ f u i h36_11) lk_X8_130 rfl rfl ⟨Nat.le_of_ble_eq_true rfl, Nat.le_of_ble_eq_true rfl⟩ ⟨rfl, rfl⟩ ⟨Nat.zero_le _, Nat.zero_le _⟩ rfl rfl hl.1 (Nat.le_of_ble_eq_true rfl) dX8_where_2) (fun r_1 f2 u2 H locs hp hw => ?_)
  obtain ⟨rfl, rfl, e_1⟩ := hp
  refine topc e_1 ?_
  refine lv_if_eq (tgt := 17) hx hb dX8_where_5 (by decide) (fun _ => ?_) (fun q => absurd (by decide) q)
  refine lv_iconst (v := (-1)) hx hb dX8_where_17 (by decide) ?_
  exact retI cx hw hr hk dX8_where_18 (by simp [])

set_option maxHeartbeats 4000000 in
set_option maxRecDepth 100000 in
theorem c_X8_in (l : Launch) (D : va_G) (a : Nat → Nat) (cI cZ : ClassId) (f : FF) (u : UU) (h : Int32) (k : Int32) (h36_3 : f 36 3 = 0)  : KI l yX8_in cX8_in 3 (some .int) ({ frames := 4, cells := 0, slots := 0, locals := 77 } : Room) D a cI cZ [.ref (a 36), .int h, .int k] f u (fun r f2 u2 => r = (-1)) := by
  refine KX.of (by decide) (Nat.le_of_ble_eq_true rfl) ?_
  intro p e s m below meth c cx hw hr hk ls hl
  have cx : Cx p s m _ c cX8_in RX8 3 D cI cZ := cx
  have hl : lv_has ls 3 [(0, .ref (a 36)), (1, .int h), (2, .int k)] := hl
  have hx := cx.1.1
  have hb := cx.1.2.1
  refine lv_aload_n hx hb dX8_in_0 rfl (lv_at hl 0 rfl) ?_
  refine lv_iload_n hx hb dX8_in_1 rfl (lv_at hl 1 rfl) ?_
  refine lv_iload_n hx hb dX8_in_2 rfl (lv_at hl 2 rfl) ?_
  refine goI hw (runVW (k := 36) (As := [.int h, .int k]) (rest := []) cx hw (c_X8_isSlot l D a cI cZ f u h k h36_3) lk_X8_133 rfl rfl ⟨Nat.le_of_ble_eq_true rfl, Nat.le_of_ble_eq_true rfl⟩ ⟨rfl, rfl⟩ ⟨Nat.zero_le _, Nat.zero_le _⟩ rfl rfl hl.1 (Nat.le_of_ble_eq_true rfl) dX8_in_3) (fun r_1 f2 u2 H locs hp hw => ?_)
  obtain ⟨rfl, rfl, e_1⟩ := hp
  refine topc e_1 ?_
  refine lv_if_eq (tgt := 23) hx hb dX8_in_6 (by decide) (fun _ => ?_) (fun q => absurd (by decide) q)
  refine lv_iconst (v := (-1)) hx hb dX8_in_23 (by decide) ?_
  exact retI cx hw hr hk dX8_in_24 (by simp [])

set_option maxHeartbeats 4000000 in
set_option maxRecDepth 100000 in
theorem c_X8_about (l : Launch) (D : va_G) (a : Nat → Nat) (cI cZ : ClassId) (f : FF) (u : UU) (h : Int32) (w : Int32) (h36_3 : f 36 3 = 0)  : KI l yX8_about cX8_about 6 (some .int) ({ frames := 3, cells := 0, slots := 0, locals := 55 } : Room) D a cI cZ [.ref (a 36), .int h, .int w] f u (fun r f2 u2 => r = (-1)) := by
  refine KX.of (by decide) (Nat.le_of_ble_eq_true rfl) ?_
  intro p e s m below meth c cx hw hr hk ls hl
  have cx : Cx p s m _ c cX8_about RX8 6 D cI cZ := cx
  have hl : lv_has ls 6 [(0, .ref (a 36)), (1, .int h), (2, .int w)] := hl
  have hx := cx.1.1
  have hb := cx.1.2.1
  refine lv_aload_n hx hb dX8_about_0 rfl (lv_at hl 0 rfl) ?_
  refine lv_iload_n hx hb dX8_about_1 rfl (lv_at hl 1 rfl) ?_
  refine goI hw (runVW (k := 36) (As := [.int h]) (rest := []) cx hw (c_X8_isHold l D a cI cZ f u h h36_3) lk_X8_102 rfl rfl ⟨Nat.le_of_ble_eq_true rfl, Nat.le_of_ble_eq_true rfl⟩ ⟨rfl, rfl⟩ ⟨Nat.zero_le _, Nat.zero_le _⟩ rfl rfl hl.1 (Nat.le_of_ble_eq_true rfl) dX8_about_2) (fun r_1 f2 u2 H locs hp hw => ?_)
  obtain ⟨rfl, rfl, e_1⟩ := hp
  refine topc e_1 ?_
  refine lv_if_ne (tgt := 10) hx hb dX8_about_5 (by decide) (fun q => absurd (by decide) q) (fun _ => ?_)
  refine lv_iconst (v := (-1)) hx hb dX8_about_8 (by decide) ?_
  exact retI cx hw hr hk dX8_about_9 (by simp [])

set_option maxHeartbeats 4000000 in
set_option maxRecDepth 100000 in
theorem c_X8_weight (l : Launch) (D : va_G) (a : Nat → Nat) (cI cZ : ClassId) (f : FF) (u : UU) (w : Int32) (h36_1 : f 36 1 = 1000) (h36_3 : f 36 3 = 0) (h36_16 : f 36 16 = 0) (h36_20 : f 36 20 = 0)  : KI l yX8_weight cX8_weight 2 (some .int) ({ frames := 2, cells := 0, slots := 0, locals := 34 } : Room) D a cI cZ [.ref (a 36), .int w] f u (fun r f2 u2 => r = an_weight w) := by
  refine KX.of (by decide) (Nat.le_of_ble_eq_true rfl) ?_
  intro p e s m below meth c cx hw hr hk ls hl
  have cx : Cx p s m _ c cX8_weight RX8 2 D cI cZ := cx
  have hl : lv_has ls 2 [(0, .ref (a 36)), (1, .int w)] := hl
  have hx := cx.1.1
  have hb := cx.1.2.1
  refine lv_iload_n hx hb dX8_weight_0 rfl (lv_at hl 1 rfl) ?_
  rcases Decidable.em (w = 0) with c_1 | c_1
  · refine lv_tableIn (off := 27) (tgt := 28) hx hb dX8_weight_1 (by rw [c_1]; decide) (by rw [c_1]; decide) (by rw [c_1]; rfl) (by decide) ?_
    refine lv_aload_n hx hb dX8_weight_28 rfl (lv_at hl 0 rfl) ?_
    refine goI hw (runVW (k := 36) (As := []) (rest := []) cx hw (c_X8_dryWeight l D a cI cZ f u  h36_1 h36_3 h36_16) lk_X8_153 rfl rfl ⟨Nat.le_of_ble_eq_true rfl, Nat.le_of_ble_eq_true rfl⟩ ⟨rfl, rfl⟩ ⟨Nat.zero_le _, Nat.zero_le _⟩ rfl rfl hl.1 (Nat.le_of_ble_eq_true rfl) dX8_weight_29) (fun r_2 f2 u2 H locs hp hw => ?_)
    obtain ⟨rfl, rfl, e_2⟩ := hp
    refine topc e_2 ?_
    exact retI cx hw hr hk dX8_weight_32 (by simp [an_weight, c_1])
  rcases Decidable.em (w = 1) with c_3 | c_3
  · refine lv_tableIn (off := 32) (tgt := 33) hx hb dX8_weight_1 (by rw [c_3]; decide) (by rw [c_3]; decide) (by rw [c_3]; rfl) (by decide) ?_
    refine lv_aload_n hx hb dX8_weight_33 rfl (lv_at hl 0 rfl) ?_
    refine goI hw (runVW (k := 36) (As := []) (rest := []) cx hw (c_X8_dryWeight l D a cI cZ f u  h36_1 h36_3 h36_16) lk_X8_153 rfl rfl ⟨Nat.le_of_ble_eq_true rfl, Nat.le_of_ble_eq_true rfl⟩ ⟨rfl, rfl⟩ ⟨Nat.zero_le _, Nat.zero_le _⟩ rfl rfl hl.1 (Nat.le_of_ble_eq_true rfl) dX8_weight_34) (fun r_4 f2 u2 H locs hp hw => ?_)
    obtain ⟨rfl, rfl, e_4⟩ := hp
    refine topc e_4 ?_
    refine lv_aload_n hx hb dX8_weight_37 rfl (lv_at hl 0 rfl) ?_
    refine goI hw (runVW (k := 36) (As := []) (rest := [.int 1000]) cx hw (c_X8_allFuel l D a cI cZ f u  h36_20) lk_X8_157 rfl rfl ⟨Nat.le_of_ble_eq_true rfl, Nat.le_of_ble_eq_true rfl⟩ ⟨rfl, rfl⟩ ⟨Nat.zero_le _, Nat.zero_le _⟩ rfl rfl hl.1 (Nat.le_of_ble_eq_true rfl) dX8_weight_38) (fun r_5 f2 u2 H locs hp hw => ?_)
    obtain ⟨rfl, rfl, e_5⟩ := hp
    refine topc e_5 ?_
    refine lv_iadd hx hb dX8_weight_41 ?_
    refine topc (y := 1000) (by decide) ?_
    exact retI cx hw hr hk dX8_weight_42 (by simp [an_weight, c_1, c_3])
  rcases Decidable.em (w = 2) with c_6 | c_6
  · refine lv_tableIn (off := 42) (tgt := 43) hx hb dX8_weight_1 (by rw [c_6]; decide) (by rw [c_6]; decide) (by rw [c_6]; rfl) (by decide) ?_
    refine lv_aload_n hx hb dX8_weight_43 rfl (lv_at hl 0 rfl) ?_
    refine goI hw (runVW (k := 36) (As := []) (rest := []) cx hw (c_X8_allFuel l D a cI cZ f u  h36_20) lk_X8_157 rfl rfl ⟨Nat.le_of_ble_eq_true rfl, Nat.le_of_ble_eq_true rfl⟩ ⟨rfl, rfl⟩ ⟨Nat.zero_le _, Nat.zero_le _⟩ rfl rfl hl.1 (Nat.le_of_ble_eq_true rfl) dX8_weight_44) (fun r_7 f2 u2 H locs hp hw => ?_)
    obtain ⟨rfl, rfl, e_7⟩ := hp
    refine topc e_7 ?_
    exact retI cx hw hr hk dX8_weight_47 (by simp [an_weight, c_1, c_3, c_6])
  refine lv_tableOut (tgt := 48) hx hb dX8_weight_1 (by have z0 := lv_neT (a := 0) c_1 rfl; have z1 := lv_neT (a := 1) c_3 rfl; have z2 := lv_neT (a := 2) c_6 rfl; omega) (by decide) ?_
  refine lv_iconst (v := (-1)) hx hb dX8_weight_48 (by decide) ?_
  exact retI cx hw hr hk dX8_weight_49 (by simp [an_weight, c_1, c_3, c_6])

set_option maxHeartbeats 4000000 in
set_option maxRecDepth 100000 in
theorem c_X8_moment (l : Launch) (D : va_G) (a : Nat → Nat) (cI cZ : ClassId) (f : FF) (u : UU) (w : Int32) (h36_1 : f 36 1 = 1000) (h36_2 : f 36 2 = 0) (h36_3 : f 36 3 = 0) (h36_16 : f 36 16 = 0) (h36_20 : f 36 20 = 0)  : KL l yX8_moment cX8_moment 2 (some .long) ({ frames := 2, cells := 0, slots := 0, locals := 38 } : Room) D a cI cZ [.ref (a 36), .int w] f u (fun r f2 u2 => r = an_moment w) := by
  refine KX.of (by decide) (Nat.le_of_ble_eq_true rfl) ?_
  intro p e s m below meth c cx hw hr hk ls hl
  have cx : Cx p s m _ c cX8_moment RX8 2 D cI cZ := cx
  have hl : lv_has ls 2 [(0, .ref (a 36)), (1, .int w)] := hl
  have hx := cx.1.1
  have hb := cx.1.2.1
  refine lv_iload_n hx hb dX8_moment_0 rfl (lv_at hl 1 rfl) ?_
  rcases Decidable.em (w = 0) with c_1 | c_1
  · refine lv_tableIn (off := 27) (tgt := 28) hx hb dX8_moment_1 (by rw [c_1]; decide) (by rw [c_1]; decide) (by rw [c_1]; rfl) (by decide) ?_
    refine lv_aload_n hx hb dX8_moment_28 rfl (lv_at hl 0 rfl) ?_
    refine goL hw (runVW (k := 36) (As := []) (rest := []) cx hw (c_X8_dryMoment l D a cI cZ f u  h36_1 h36_2 h36_3 h36_16) lk_X8_160 rfl rfl ⟨Nat.le_of_ble_eq_true rfl, Nat.le_of_ble_eq_true rfl⟩ ⟨rfl, rfl⟩ ⟨Nat.zero_le _, Nat.zero_le _⟩ rfl rfl hl.1 (Nat.le_of_ble_eq_true rfl) dX8_moment_29) (fun r_2 f2 u2 H locs hp hw => ?_)
    obtain ⟨rfl, rfl, e_2⟩ := hp
    refine topL e_2 ?_
    exact retL cx hw hr hk dX8_moment_32 (by simp [an_moment, c_1])
  rcases Decidable.em (w = 1) with c_3 | c_3
  · refine lv_tableIn (off := 32) (tgt := 33) hx hb dX8_moment_1 (by rw [c_3]; decide) (by rw [c_3]; decide) (by rw [c_3]; rfl) (by decide) ?_
    refine lv_aload_n hx hb dX8_moment_33 rfl (lv_at hl 0 rfl) ?_
    refine goL hw (runVW (k := 36) (As := []) (rest := []) cx hw (c_X8_dryMoment l D a cI cZ f u  h36_1 h36_2 h36_3 h36_16) lk_X8_160 rfl rfl ⟨Nat.le_of_ble_eq_true rfl, Nat.le_of_ble_eq_true rfl⟩ ⟨rfl, rfl⟩ ⟨Nat.zero_le _, Nat.zero_le _⟩ rfl rfl hl.1 (Nat.le_of_ble_eq_true rfl) dX8_moment_34) (fun r_4 f2 u2 H locs hp hw => ?_)
    obtain ⟨rfl, rfl, e_4⟩ := hp
    refine topL e_4 ?_
    refine lv_aload_n hx hb dX8_moment_37 rfl (lv_at hl 0 rfl) ?_
    refine lv_iconst (v := 0) hx hb dX8_moment_38 (by decide) ?_
    refine goL hw (runVW (k := 36) (As := [.int 0]) (rest := [.long 0]) cx hw (c_X8_fuelMoment l D a cI cZ f u 0 h36_20) lk_X8_164 rfl rfl ⟨Nat.le_of_ble_eq_true rfl, Nat.le_of_ble_eq_true rfl⟩ ⟨rfl, rfl⟩ ⟨Nat.zero_le _, Nat.zero_le _⟩ rfl rfl hl.1 (Nat.le_of_ble_eq_true rfl) dX8_moment_39) (fun r_5 f2 u2 H locs hp hw => ?_)
    obtain ⟨rfl, rfl, e_5⟩ := hp
    refine topL e_5 ?_
    refine lv_ladd hx hb dX8_moment_42 ?_
    refine topL (y := 0) (by decide) ?_
    exact retL cx hw hr hk dX8_moment_43 (by simp [an_moment, c_1, c_3])
  rcases Decidable.em (w = 2) with c_6 | c_6
  · refine lv_tableIn (off := 43) (tgt := 44) hx hb dX8_moment_1 (by rw [c_6]; decide) (by rw [c_6]; decide) (by rw [c_6]; rfl) (by decide) ?_
    refine lv_aload_n hx hb dX8_moment_44 rfl (lv_at hl 0 rfl) ?_
    refine lv_iconst (v := 0) hx hb dX8_moment_45 (by decide) ?_
    refine goL hw (runVW (k := 36) (As := [.int 0]) (rest := []) cx hw (c_X8_fuelMoment l D a cI cZ f u 0 h36_20) lk_X8_164 rfl rfl ⟨Nat.le_of_ble_eq_true rfl, Nat.le_of_ble_eq_true rfl⟩ ⟨rfl, rfl⟩ ⟨Nat.zero_le _, Nat.zero_le _⟩ rfl rfl hl.1 (Nat.le_of_ble_eq_true rfl) dX8_moment_46) (fun r_7 f2 u2 H locs hp hw => ?_)
    obtain ⟨rfl, rfl, e_7⟩ := hp
    refine topL e_7 ?_
    exact retL cx hw hr hk dX8_moment_49 (by simp [an_moment, c_1, c_3, c_6])
  refine lv_tableOut (tgt := 50) hx hb dX8_moment_1 (by have z0 := lv_neT (a := 0) c_1 rfl; have z1 := lv_neT (a := 1) c_3 rfl; have z2 := lv_neT (a := 2) c_6 rfl; omega) (by decide) ?_
  refine lv_ldc2 (v := (-9223372036854775808)) hx hb cx.1.2.2.2.1 (cx.1.2.2.2.2 _ mm_5_39) dX8_moment_50 ?_
  exact retL cx hw hr hk dX8_moment_53 (by simp [an_moment, c_1, c_3, c_6])

set_option maxHeartbeats 4000000 in
set_option maxRecDepth 100000 in
theorem c_X8_burnt (l : Launch) (D : va_G) (a : Nat → Nat) (cI cZ : ClassId) (f : FF) (u : UU) (b : Int32) (w : Int32) (h36_1 : f 36 1 = 1000) (h36_2 : f 36 2 = 0) (h36_3 : f 36 3 = 0) (h36_16 : f 36 16 = 0) (h36_20 : f 36 20 = 0)  : KL l yX8_burnt cX8_burnt 3 (some .long) ({ frames := 2, cells := 0, slots := 0, locals := 38 } : Room) D a cI cZ [.ref (a 36), .int b, .int w] f u (fun r f2 u2 => r = an_burnt b w) := by
  refine KX.of (by decide) (Nat.le_of_ble_eq_true rfl) ?_
  intro p e s m below meth c cx hw hr hk ls hl
  have cx : Cx p s m _ c cX8_burnt RX8 3 D cI cZ := cx
  have hl : lv_has ls 3 [(0, .ref (a 36)), (1, .int b), (2, .int w)] := hl
  have hx := cx.1.1
  have hb := cx.1.2.1
  refine lv_iload_n hx hb dX8_burnt_0 rfl (lv_at hl 1 rfl) ?_
  refine lv_iconst (v := 0) hx hb dX8_burnt_1 (by decide) ?_
  refine lv_aload_n hx hb dX8_burnt_2 rfl (lv_at hl 0 rfl) ?_
  refine goI hw (runVW (k := 36) (As := []) (rest := [.int 0, .int b]) cx hw (c_X8_allFuel l D a cI cZ f u  h36_20) lk_X8_157 rfl rfl ⟨Nat.le_of_ble_eq_true rfl, Nat.le_of_ble_eq_true rfl⟩ ⟨rfl, rfl⟩ ⟨Nat.zero_le _, Nat.zero_le _⟩ rfl rfl hl.1 (Nat.le_of_ble_eq_true rfl) dX8_burnt_3) (fun r_1 f2 u2 H locs hp hw => ?_)
  obtain ⟨rfl, rfl, e_1⟩ := hp
  refine topc e_1 ?_
  refine goI hw (runSW (As := [.int b, .int 0, .int 0]) (rest := []) cx hw (c_X8_isIn l D a cI cZ f u b 0 0 ) lk_X8_95 ⟨Nat.le_of_ble_eq_true rfl, Nat.le_of_ble_eq_true rfl⟩ ⟨rfl, rfl⟩ ⟨Nat.zero_le _, Nat.zero_le _⟩ rfl rfl hl.1 (Nat.le_of_ble_eq_true rfl) dX8_burnt_6) (fun r_2 f2 u2 H locs hp hw => ?_)
  obtain ⟨rfl, rfl, e_2⟩ := hp
  refine topc e_2 ?_
  refine lv_if_ne (tgt := 16) hx hb dX8_burnt_9 (by decide) (fun c_3 => ?_) (fun c_3 => ?_)
  · refine lv_iload_n hx hb dX8_burnt_16 rfl (lv_at hl 2 rfl) ?_
    refine lv_if_ne (tgt := 33) hx hb dX8_burnt_17 (by decide) (fun c_4 => ?_) (fun c_4 => ?_)
    · refine lv_iload_n hx hb dX8_burnt_33 rfl (lv_at hl 2 rfl) ?_
      refine lv_iconst (v := 1) hx hb dX8_burnt_34 (by decide) ?_
      refine lv_icmp_ne (tgt := 53) hx hb dX8_burnt_35 (by decide) (fun c_5 => ?_) (fun c_5 => ?_)
      · refine lv_ldc2 (v := (-9223372036854775808)) hx hb cx.1.2.2.2.1 (cx.1.2.2.2.2 _ mm_5_39) dX8_burnt_53 ?_
        exact retL cx hw hr hk dX8_burnt_56 (by simp [an_burnt, c_3, c_4, c_5])
      · refine lv_aload_n hx hb dX8_burnt_38 rfl (lv_at hl 0 rfl) ?_
        refine goI hw (runVW (k := 36) (As := []) (rest := []) cx hw (c_X8_dryWeight l D a cI cZ f u  h36_1 h36_3 h36_16) lk_X8_153 rfl rfl ⟨Nat.le_of_ble_eq_true rfl, Nat.le_of_ble_eq_true rfl⟩ ⟨rfl, rfl⟩ ⟨Nat.zero_le _, Nat.zero_le _⟩ rfl rfl hl.1 (Nat.le_of_ble_eq_true rfl) dX8_burnt_39) (fun r_6 f2 u2 H locs hp hw => ?_)
        obtain ⟨rfl, rfl, e_6⟩ := hp
        refine topc e_6 ?_
        refine lv_aload_n hx hb dX8_burnt_42 rfl (lv_at hl 0 rfl) ?_
        refine goI hw (runVW (k := 36) (As := []) (rest := [.int 1000]) cx hw (c_X8_allFuel l D a cI cZ f u  h36_20) lk_X8_157 rfl rfl ⟨Nat.le_of_ble_eq_true rfl, Nat.le_of_ble_eq_true rfl⟩ ⟨rfl, rfl⟩ ⟨Nat.zero_le _, Nat.zero_le _⟩ rfl rfl hl.1 (Nat.le_of_ble_eq_true rfl) dX8_burnt_43) (fun r_7 f2 u2 H locs hp hw => ?_)
        obtain ⟨rfl, rfl, e_7⟩ := hp
        refine topc e_7 ?_
        refine lv_iadd hx hb dX8_burnt_46 ?_
        refine topc (y := 1000) (by decide) ?_
        refine lv_iload_n hx hb dX8_burnt_47 rfl (lv_at hl 1 rfl) ?_
        refine lv_isub hx hb dX8_burnt_48 ?_
        refine lv_i2l (v := (1000 - b).toInt64) hx hb dX8_burnt_49 rfl ?_
        refine lv_goto (tgt := 56) hx hb dX8_burnt_50 (by decide) ?_
        exact retL cx hw hr hk dX8_burnt_56 (by simp [an_burnt, c_3, c_4, c_5])
    · refine lv_aload_n hx hb dX8_burnt_20 rfl (lv_at hl 0 rfl) ?_
      refine goL hw (runVW (k := 36) (As := []) (rest := []) cx hw (c_X8_dryMoment l D a cI cZ f u  h36_1 h36_2 h36_3 h36_16) lk_X8_160 rfl rfl ⟨Nat.le_of_ble_eq_true rfl, Nat.le_of_ble_eq_true rfl⟩ ⟨rfl, rfl⟩ ⟨Nat.zero_le _, Nat.zero_le _⟩ rfl rfl hl.1 (Nat.le_of_ble_eq_true rfl) dX8_burnt_21) (fun r_8 f2 u2 H locs hp hw => ?_)
      obtain ⟨rfl, rfl, e_8⟩ := hp
      refine topL e_8 ?_
      refine lv_aload_n hx hb dX8_burnt_24 rfl (lv_at hl 0 rfl) ?_
      refine lv_iload_n hx hb dX8_burnt_25 rfl (lv_at hl 1 rfl) ?_
      refine goL hw (runVW (k := 36) (As := [.int b]) (rest := [.long 0]) cx hw (c_X8_fuelMoment l D a cI cZ f u b h36_20) lk_X8_164 rfl rfl ⟨Nat.le_of_ble_eq_true rfl, Nat.le_of_ble_eq_true rfl⟩ ⟨rfl, rfl⟩ ⟨Nat.zero_le _, Nat.zero_le _⟩ rfl rfl hl.1 (Nat.le_of_ble_eq_true rfl) dX8_burnt_26) (fun r_9 f2 u2 H locs hp hw => ?_)
      obtain ⟨rfl, rfl, e_9⟩ := hp
      refine topL e_9 ?_
      refine lv_ladd hx hb dX8_burnt_29 ?_
      refine topL (y := 0) (by decide) ?_
      refine lv_goto (tgt := 56) hx hb dX8_burnt_30 (by decide) ?_
      exact retL cx hw hr hk dX8_burnt_56 (by simp [an_burnt, c_3, c_4])
  · refine lv_ldc2 (v := (-9223372036854775808)) hx hb cx.1.2.2.2.1 (cx.1.2.2.2.2 _ mm_5_39) dX8_burnt_12 ?_
    exact retL cx hw hr hk dX8_burnt_15 (by simp [an_burnt, c_3])

set_option maxHeartbeats 4000000 in
set_option maxRecDepth 100000 in
theorem c_X8_within (l : Launch) (D : va_G) (a : Nat → Nat) (cI cZ : ClassId) (f : FF) (u : UU) (ph : Int32) (h54_0 : f 54 0 = 0) (h54_1 : f 54 1 = 0)  : KI l yX8_within cX8_within 2 (some .int) ({ frames := 2, cells := 0, slots := 0, locals := 34 } : Room) D a cI cZ [.ref (a 36), .int ph] f u (fun r f2 u2 => r = an_within ph) := by
  refine KX.of (by decide) (Nat.le_of_ble_eq_true rfl) ?_
  intro p e s m below meth c cx hw hr hk ls hl
  have cx : Cx p s m _ c cX8_within RX8 2 D cI cZ := cx
  have hl : lv_has ls 2 [(0, .ref (a 36)), (1, .int ph)] := hl
  have hx := cx.1.1
  have hb := cx.1.2.1
  refine lv_iload_n hx hb dX8_within_0 rfl (lv_at hl 1 rfl) ?_
  refine lv_iconst (v := 0) hx hb dX8_within_1 (by decide) ?_
  refine lv_iconst (v := 1) hx hb dX8_within_2 (by decide) ?_
  refine goI hw (runSW (As := [.int ph, .int 0, .int 1]) (rest := []) cx hw (c_X8_isIn l D a cI cZ f u ph 0 1 ) lk_X8_95 ⟨Nat.le_of_ble_eq_true rfl, Nat.le_of_ble_eq_true rfl⟩ ⟨rfl, rfl⟩ ⟨Nat.zero_le _, Nat.zero_le _⟩ rfl rfl hl.1 (Nat.le_of_ble_eq_true rfl) dX8_within_3) (fun r_1 f2 u2 H locs hp hw => ?_)
  obtain ⟨rfl, rfl, e_1⟩ := hp
  refine topc e_1 ?_
  refine lv_if_ne (tgt := 11) hx hb dX8_within_6 (by decide) (fun c_2 => ?_) (fun c_2 => ?_)
  · rcases rg_01 c_2 with e_2 | e_2
    · subst e_2
      refine lv_aload_n hx hb dX8_within_11 rfl (lv_at hl 0 rfl) ?_
      refine gf_X8_73 cx hw dX8_within_12 ?_
      refine lv_iload_n hx hb dX8_within_15 rfl (lv_at hl 1 rfl) ?_
      refine aldC 54 0 cx hw rfl (by decide) (by decide) dX8_within_16 ?_
      refine topc (y := 0) h54_0 ?_
      refine lv_if_ne (tgt := 23) hx hb dX8_within_17 (by decide) (fun q => absurd (by decide) q) (fun _ => ?_)
      refine lv_bipush (v := (-3)) hx hb dX8_within_20 (by decide) ?_
      exact retI cx hw hr hk dX8_within_22 (by simp [an_within, c_2])
    · subst e_2
      refine lv_aload_n hx hb dX8_within_11 rfl (lv_at hl 0 rfl) ?_
      refine gf_X8_73 cx hw dX8_within_12 ?_
      refine lv_iload_n hx hb dX8_within_15 rfl (lv_at hl 1 rfl) ?_
      refine aldC 54 1 cx hw rfl (by decide) (by decide) dX8_within_16 ?_
      refine topc (y := 0) h54_1 ?_
      refine lv_if_ne (tgt := 23) hx hb dX8_within_17 (by decide) (fun q => absurd (by decide) q) (fun _ => ?_)
      refine lv_bipush (v := (-3)) hx hb dX8_within_20 (by decide) ?_
      exact retI cx hw hr hk dX8_within_22 (by simp [an_within, c_2])
  · refine lv_iconst (v := (-1)) hx hb dX8_within_9 (by decide) ?_
    exact retI cx hw hr hk dX8_within_10 (by simp [an_within, c_2])

set_option maxHeartbeats 4000000 in
set_option maxRecDepth 100000 in
theorem c_X8_safe (l : Launch) (D : va_G) (a : Nat → Nat) (cI cZ : ClassId) (f : FF) (u : UU) (n : Int32) (h54_0 : f 54 0 = 0)  : KI l yX8_safe cX8_safe 2 (some .int) ({ frames := 1, cells := 0, slots := 0, locals := 12 } : Room) D a cI cZ [.ref (a 36), .int n] f u (fun r f2 u2 => r = an_safe n) := by
  refine KX.of (by decide) (Nat.le_of_ble_eq_true rfl) ?_
  intro p e s m below meth c cx hw hr hk ls hl
  have cx : Cx p s m _ c cX8_safe RX8 2 D cI cZ := cx
  have hl : lv_has ls 2 [(0, .ref (a 36)), (1, .int n)] := hl
  have hx := cx.1.1
  have hb := cx.1.2.1
  refine lv_iload_n hx hb dX8_safe_0 rfl (lv_at hl 1 rfl) ?_
  refine lv_if_ge (tgt := 7) hx hb dX8_safe_1 (by decide) (fun c_1 => ?_) (fun c_1 => ?_)
  · refine lv_aload_n hx hb dX8_safe_7 rfl (lv_at hl 0 rfl) ?_
    refine gf_X8_73 cx hw dX8_safe_8 ?_
    refine lv_iconst (v := 0) hx hb dX8_safe_11 (by decide) ?_
    refine aldC 54 0 cx hw rfl (by decide) (by decide) dX8_safe_12 ?_
    refine topc (y := 0) h54_0 ?_
    refine lv_if_eq (tgt := 25) hx hb dX8_safe_13 (by decide) (fun _ => ?_) (fun q => absurd (by decide) q)
    refine lv_bipush (v := (-3)) hx hb dX8_safe_25 (by decide) ?_
    exact retI cx hw hr hk dX8_safe_27 (by simp [an_safe, c_1])
  · refine lv_bipush (v := (-2)) hx hb dX8_safe_4 (by decide) ?_
    exact retI cx hw hr hk dX8_safe_6 (by simp [an_safe, c_1])

set_option maxHeartbeats 4000000 in
set_option maxRecDepth 100000 in
theorem c_X8_wrong (l : Launch) (D : va_G) (a : Nat → Nat) (cI cZ : ClassId) (f : FF) (u : UU) (n : Int32) (h54_1 : f 54 1 = 0)  : KI l yX8_wrong cX8_wrong 2 (some .int) ({ frames := 1, cells := 0, slots := 0, locals := 12 } : Room) D a cI cZ [.ref (a 36), .int n] f u (fun r f2 u2 => r = an_safe n) := by
  refine KX.of (by decide) (Nat.le_of_ble_eq_true rfl) ?_
  intro p e s m below meth c cx hw hr hk ls hl
  have cx : Cx p s m _ c cX8_wrong RX8 2 D cI cZ := cx
  have hl : lv_has ls 2 [(0, .ref (a 36)), (1, .int n)] := hl
  have hx := cx.1.1
  have hb := cx.1.2.1
  refine lv_iload_n hx hb dX8_wrong_0 rfl (lv_at hl 1 rfl) ?_
  refine lv_if_ge (tgt := 7) hx hb dX8_wrong_1 (by decide) (fun c_1 => ?_) (fun c_1 => ?_)
  · refine lv_aload_n hx hb dX8_wrong_7 rfl (lv_at hl 0 rfl) ?_
    refine gf_X8_73 cx hw dX8_wrong_8 ?_
    refine lv_iconst (v := 1) hx hb dX8_wrong_11 (by decide) ?_
    refine aldC 54 1 cx hw rfl (by decide) (by decide) dX8_wrong_12 ?_
    refine topc (y := 0) h54_1 ?_
    refine lv_if_ne (tgt := 21) hx hb dX8_wrong_13 (by decide) (fun q => absurd (by decide) q) (fun _ => ?_)
    refine lv_bipush (v := (-3)) hx hb dX8_wrong_16 (by decide) ?_
    refine lv_goto (tgt := 26) hx hb dX8_wrong_18 (by decide) ?_
    exact retI cx hw hr hk dX8_wrong_26 (by simp [an_safe, c_1])
  · refine lv_bipush (v := (-2)) hx hb dX8_wrong_4 (by decide) ?_
    exact retI cx hw hr hk dX8_wrong_6 (by simp [an_safe, c_1])

set_option maxHeartbeats 4000000 in
set_option maxRecDepth 100000 in
theorem c_X8_pushed (l : Launch) (D : va_G) (a : Nat → Nat) (cI cZ : ClassId) (f : FF) (u : UU) (sp : Int32) (h36_3 : f 36 3 = 0)  : KI l yX8_pushed cX8_pushed 2 (some .int) ({ frames := 3, cells := 0, slots := 0, locals := 60 } : Room) D a cI cZ [.ref (a 36), .int sp] f u (fun r f2 u2 => r = an_pushed sp) := by
  refine KX.of (by decide) (Nat.le_of_ble_eq_true rfl) ?_
  intro p e s m below meth c cx hw hr hk ls hl
  have cx : Cx p s m _ c cX8_pushed RX8 2 D cI cZ := cx
  have hl : lv_has ls 2 [(0, .ref (a 36)), (1, .int sp)] := hl
  have hx := cx.1.1
  have hb := cx.1.2.1
  refine lv_iload_n hx hb dX8_pushed_0 rfl (lv_at hl 1 rfl) ?_
  refine lv_iconst (v := 0) hx hb dX8_pushed_1 (by decide) ?_
  refine lv_iconst (v := 4) hx hb dX8_pushed_2 (by decide) ?_
  refine goI hw (runSW (As := [.int sp, .int 0, .int 4]) (rest := []) cx hw (c_X8_isIn l D a cI cZ f u sp 0 4 ) lk_X8_95 ⟨Nat.le_of_ble_eq_true rfl, Nat.le_of_ble_eq_true rfl⟩ ⟨rfl, rfl⟩ ⟨Nat.zero_le _, Nat.zero_le _⟩ rfl rfl hl.1 (Nat.le_of_ble_eq_true rfl) dX8_pushed_3) (fun r_1 f2 u2 H locs hp hw => ?_)
  obtain ⟨rfl, rfl, e_1⟩ := hp
  refine topc e_1 ?_
  refine lv_if_ne (tgt := 13) hx hb dX8_pushed_6 (by decide) (fun c_2 => ?_) (fun c_2 => ?_)
  · refine lv_iload_n hx hb dX8_pushed_13 rfl (lv_at hl 1 rfl) ?_
    refine lv_if_ne (tgt := 24) hx hb dX8_pushed_14 (by decide) (fun c_3 => ?_) (fun c_3 => ?_)
    · refine lv_aload_n hx hb dX8_pushed_24 rfl (lv_at hl 0 rfl) ?_
      refine lv_iload_n hx hb dX8_pushed_25 rfl (lv_at hl 1 rfl) ?_
      refine goI hw (runVW (k := 36) (As := [.int sp]) (rest := []) cx hw (c_X8_pushedAt l D a cI cZ f u sp h36_3) lk_X8_179 rfl rfl ⟨Nat.le_of_ble_eq_true rfl, Nat.le_of_ble_eq_true rfl⟩ ⟨rfl, rfl⟩ ⟨Nat.zero_le _, Nat.zero_le _⟩ rfl rfl hl.1 (Nat.le_of_ble_eq_true rfl) dX8_pushed_26) (fun r_4 f2 u2 H locs hp hw => ?_)
      obtain ⟨rfl, rfl, e_4⟩ := hp
      refine topc e_4 ?_
      exact retI cx hw hr hk dX8_pushed_29 (by simp [an_pushed, c_2])
    · refine lv_aload_n hx hb dX8_pushed_17 rfl (lv_at hl 0 rfl) ?_
      refine goI hw (runVW (k := 36) (As := []) (rest := []) cx hw (c_X8_pushedAll l D a cI cZ f u  h36_3) lk_X8_182 rfl rfl ⟨Nat.le_of_ble_eq_true rfl, Nat.le_of_ble_eq_true rfl⟩ ⟨rfl, rfl⟩ ⟨Nat.zero_le _, Nat.zero_le _⟩ rfl rfl hl.1 (Nat.le_of_ble_eq_true rfl) dX8_pushed_18) (fun r_5 f2 u2 H locs hp hw => ?_)
      obtain ⟨rfl, rfl, e_5⟩ := hp
      refine topc e_5 ?_
      refine lv_goto (tgt := 29) hx hb dX8_pushed_21 (by decide) ?_
      exact retI cx hw hr hk dX8_pushed_29 (by simp [an_pushed, c_2])
  · refine lv_iconst (v := (-1)) hx hb dX8_pushed_9 (by decide) ?_
    refine lv_goto (tgt := 29) hx hb dX8_pushed_10 (by decide) ?_
    exact retI cx hw hr hk dX8_pushed_29 (by simp [an_pushed, c_2])

set_option maxHeartbeats 4000000 in
set_option maxRecDepth 100000 in
theorem c_X8_arrive (l : Launch) (D : va_G) (a : Nat → Nat) (cI cZ : ClassId) (f : FF) (u : UU) (sp : Int32) (h36_11 : f 36 11 = 0)  : KI l yX8_arrive cX8_arrive 4 (some .int) ({ frames := 2, cells := 0, slots := 0, locals := 34 } : Room) D a cI cZ [.ref (a 36), .int sp] f u (fun r f2 u2 => r = an_arrive sp) := by
  refine KX.of (by decide) (Nat.le_of_ble_eq_true rfl) ?_
  intro p e s m below meth c cx hw hr hk ls hl
  have cx : Cx p s m _ c cX8_arrive RX8 4 D cI cZ := cx
  have hl : lv_has ls 4 [(0, .ref (a 36)), (1, .int sp)] := hl
  have hx := cx.1.1
  have hb := cx.1.2.1
  refine lv_iload_n hx hb dX8_arrive_0 rfl (lv_at hl 1 rfl) ?_
  refine lv_iconst (v := 1) hx hb dX8_arrive_1 (by decide) ?_
  refine lv_iconst (v := 4) hx hb dX8_arrive_2 (by decide) ?_
  refine goI hw (runSW (As := [.int sp, .int 1, .int 4]) (rest := []) cx hw (c_X8_isIn l D a cI cZ f u sp 1 4 ) lk_X8_95 ⟨Nat.le_of_ble_eq_true rfl, Nat.le_of_ble_eq_true rfl⟩ ⟨rfl, rfl⟩ ⟨Nat.zero_le _, Nat.zero_le _⟩ rfl rfl hl.1 (Nat.le_of_ble_eq_true rfl) dX8_arrive_3) (fun r_1 f2 u2 H locs hp hw => ?_)
  obtain ⟨rfl, rfl, e_1⟩ := hp
  refine topc e_1 ?_
  refine lv_if_ne (tgt := 11) hx hb dX8_arrive_6 (by decide) (fun c_2 => ?_) (fun c_2 => ?_)
  · refine lv_iconst (v := 0) hx hb dX8_arrive_11 (by decide) ?_
    refine lv_istore_n (lv' := [(2, .int 0), (0, .ref (a 36)), (1, .int sp)]) hx hb dX8_arrive_12 rfl hl (by decide) rfl (fun ls hl => ?_)
    refine lv_iconst (v := 0) hx hb dX8_arrive_13 (by decide) ?_
    refine lv_istore_n (lv' := [(3, .int 0), (2, .int 0), (0, .ref (a 36)), (1, .int sp)]) hx hb dX8_arrive_14 rfl hl (by decide) rfl (fun ls hl => ?_)
    refine lv_iload_n hx hb dX8_arrive_15 rfl (lv_at hl 0 rfl) ?_
    refine lv_aload_n hx hb dX8_arrive_16 rfl (lv_at hl 2 rfl) ?_
    refine gf_X8_106 cx hw dX8_arrive_17 ?_
    refine topc (y := 0) h36_11 ?_
    refine lv_icmp_ge (tgt := 60) hx hb dX8_arrive_20 (by decide) (fun _ => ?_) (fun q => absurd (by decide) q)
    refine lv_iload_n hx hb dX8_arrive_60 rfl (lv_at hl 1 rfl) ?_
    exact retI cx hw hr hk dX8_arrive_61 (by simp [an_arrive, c_2])
  · refine lv_iconst (v := (-1)) hx hb dX8_arrive_9 (by decide) ?_
    exact retI cx hw hr hk dX8_arrive_10 (by simp [an_arrive, c_2])

set_option maxHeartbeats 4000000 in
set_option maxRecDepth 100000 in
theorem c_X8_loadAll (l : Launch) (D : va_G) (a : Nat → Nat) (cI cZ : ClassId) (f : FF) (u : UU) (am : Int32) (h36_11 : f 36 11 = 0)  : KI l yX8_loadAll cX8_loadAll 6 (some .int) ({ frames := 3, cells := 0, slots := 0, locals := 54 } : Room) D a cI cZ [.ref (a 36), .int am] f u (fun r f2 u2 => r = an_arm am) := by
  refine KX.of (by decide) (Nat.le_of_ble_eq_true rfl) ?_
  intro p e s m below meth c cx hw hr hk ls hl
  have cx : Cx p s m _ c cX8_loadAll RX8 6 D cI cZ := cx
  have hl : lv_has ls 6 [(0, .ref (a 36)), (1, .int am)] := hl
  have hx := cx.1.1
  have hb := cx.1.2.1
  refine lv_iload_n hx hb dX8_loadAll_0 rfl (lv_at hl 1 rfl) ?_
  refine goI hw (runSW (As := [.int am]) (rest := []) cx hw (c_X8_isArm l D a cI cZ f u am ) lk_X8_110 ⟨Nat.le_of_ble_eq_true rfl, Nat.le_of_ble_eq_true rfl⟩ ⟨rfl, rfl⟩ ⟨Nat.zero_le _, Nat.zero_le _⟩ rfl rfl hl.1 (Nat.le_of_ble_eq_true rfl) dX8_loadAll_1) (fun r_1 f2 u2 H locs hp hw => ?_)
  obtain ⟨rfl, rfl, e_1⟩ := hp
  refine topc e_1 ?_
  refine lv_if_ne (tgt := 10) hx hb dX8_loadAll_4 (by decide) (fun c_2 => ?_) (fun c_2 => ?_)
  · refine lv_iconst (v := 0) hx hb dX8_loadAll_10 (by decide) ?_
    refine lv_istore_n (lv' := [(2, .int 0), (0, .ref (a 36)), (1, .int am)]) hx hb dX8_loadAll_11 rfl hl (by decide) rfl (fun ls hl => ?_)
    refine lv_iconst (v := 0) hx hb dX8_loadAll_12 (by decide) ?_
    refine lv_istore_n (lv' := [(3, .int 0), (2, .int 0), (0, .ref (a 36)), (1, .int am)]) hx hb dX8_loadAll_13 rfl hl (by decide) rfl (fun ls hl => ?_)
    refine lv_iload_n hx hb dX8_loadAll_14 rfl (lv_at hl 0 rfl) ?_
    refine lv_aload_n hx hb dX8_loadAll_15 rfl (lv_at hl 2 rfl) ?_
    refine gf_X8_106 cx hw dX8_loadAll_16 ?_
    refine topc (y := 0) h36_11 ?_
    refine lv_icmp_ge (tgt := 49) hx hb dX8_loadAll_19 (by decide) (fun _ => ?_) (fun q => absurd (by decide) q)
    refine lv_iconst (v := 0) hx hb dX8_loadAll_49 (by decide) ?_
    refine lv_istore_n (lv' := [(3, .int 0), (2, .int 0), (0, .ref (a 36)), (1, .int am)]) hx hb dX8_loadAll_50 rfl hl (by decide) rfl (fun ls hl => ?_)
    refine lv_iload_n hx hb dX8_loadAll_51 rfl (lv_at hl 0 rfl) ?_
    refine lv_aload_n hx hb dX8_loadAll_52 rfl (lv_at hl 2 rfl) ?_
    refine gf_X8_106 cx hw dX8_loadAll_53 ?_
    refine topc (y := 0) h36_11 ?_
    refine lv_icmp_ge (tgt := 168) hx hb dX8_loadAll_56 (by decide) (fun _ => ?_) (fun q => absurd (by decide) q)
    refine lv_iload_n hx hb dX8_loadAll_168 rfl (lv_at hl 1 rfl) ?_
    exact retI cx hw hr hk dX8_loadAll_169 (by simp [an_arm, c_2])
  · refine lv_bipush (v := (-2)) hx hb dX8_loadAll_7 (by decide) ?_
    exact retI cx hw hr hk dX8_loadAll_9 (by simp [an_arm, c_2])

set_option maxHeartbeats 4000000 in
set_option maxRecDepth 100000 in
theorem c_X8_better (l : Launch) (D : va_G) (a : Nat → Nat) (cI cZ : ClassId) (f : FF) (u : UU) (am : Int32) (h36_1 : f 36 1 = 1000) (h36_2 : f 36 2 = 0) (h36_3 : f 36 3 = 0) (h36_16 : f 36 16 = 0) (h36_11 : f 36 11 = 0)  : KI l yX8_better cX8_better 3 (some .int) ({ frames := 3, cells := 0, slots := 0, locals := 59 } : Room) D a cI cZ [.ref (a 36), .int am] f u (fun r f2 u2 => r = an_arm am) := by
  refine KX.of (by decide) (Nat.le_of_ble_eq_true rfl) ?_
  intro p e s m below meth c cx hw hr hk ls hl
  have cx : Cx p s m _ c cX8_better RX8 3 D cI cZ := cx
  have hl : lv_has ls 3 [(0, .ref (a 36)), (1, .int am)] := hl
  have hx := cx.1.1
  have hb := cx.1.2.1
  refine lv_iload_n hx hb dX8_better_0 rfl (lv_at hl 1 rfl) ?_
  refine goI hw (runSW (As := [.int am]) (rest := []) cx hw (c_X8_isArm l D a cI cZ f u am ) lk_X8_110 ⟨Nat.le_of_ble_eq_true rfl, Nat.le_of_ble_eq_true rfl⟩ ⟨rfl, rfl⟩ ⟨Nat.zero_le _, Nat.zero_le _⟩ rfl rfl hl.1 (Nat.le_of_ble_eq_true rfl) dX8_better_1) (fun r_1 f2 u2 H locs hp hw => ?_)
  obtain ⟨rfl, rfl, e_1⟩ := hp
  refine topc e_1 ?_
  refine lv_if_ne (tgt := 10) hx hb dX8_better_4 (by decide) (fun c_2 => ?_) (fun c_2 => ?_)
  · refine lv_iconst (v := 0) hx hb dX8_better_10 (by decide) ?_
    refine lv_istore_n (lv' := [(2, .int 0), (0, .ref (a 36)), (1, .int am)]) hx hb dX8_better_11 rfl hl (by decide) rfl (fun ls hl => ?_)
    refine lv_iload_n hx hb dX8_better_12 rfl (lv_at hl 0 rfl) ?_
    refine lv_bipush (v := 50) hx hb dX8_better_13 (by decide) ?_
    refine lv_icmp_ge (tgt := 32) hx hb dX8_better_15 (by decide) (fun q => absurd q (by decide)) (fun _ => ?_)
    refine lv_aload_n hx hb dX8_better_18 rfl (lv_at hl 1 rfl) ?_
    refine lv_iload_n hx hb dX8_better_19 rfl (lv_at hl 2 rfl) ?_
    refine goI hw (runVW (k := 36) (As := [.int am]) (rest := []) cx hw (c_X8_betters l D a cI cZ f u am h36_1 h36_2 h36_3 h36_16 h36_11) lk_X8_218 rfl rfl ⟨Nat.le_of_ble_eq_true rfl, Nat.le_of_ble_eq_true rfl⟩ ⟨rfl, rfl⟩ ⟨Nat.zero_le _, Nat.zero_le _⟩ rfl rfl hl.1 (Nat.le_of_ble_eq_true rfl) dX8_better_20) (fun r_4 f_4 u_4 H locs hp_4 hw => ?_)
    refine topc (y := 0) hp_4 ?_
    refine lv_if_eq (tgt := 32) hx hb dX8_better_23 (by decide) (fun _ => ?_) (fun q => absurd (by decide) q)
    refine lv_iload_n hx hb dX8_better_32 rfl (lv_at hl 0 rfl) ?_
    exact retI cx hw hr hk dX8_better_33 (by simp [an_arm, c_2])
  · refine lv_bipush (v := (-2)) hx hb dX8_better_7 (by decide) ?_
    exact retI cx hw hr hk dX8_better_9 (by simp [an_arm, c_2])

set_option maxHeartbeats 4000000 in
set_option maxRecDepth 100000 in
theorem c_X8_best (l : Launch) (D : va_G) (a : Nat → Nat) (cI cZ : ClassId) (f : FF) (u : UU) (am : Int32) (h36_11 : f 36 11 = 0) (h36_3 : f 36 3 = 0)  : KI l yX8_best cX8_best 4 (some .int) ({ frames := 4, cells := 0, slots := 0, locals := 77 } : Room) D a cI cZ [.ref (a 36), .int am] f u (fun r f2 u2 => r = an_best am) := by
  refine KX.of (by decide) (Nat.le_of_ble_eq_true rfl) ?_
  intro p e s m below meth c cx hw hr hk ls hl
  have cx : Cx p s m _ c cX8_best RX8 4 D cI cZ := cx
  have hl : lv_has ls 4 [(0, .ref (a 36)), (1, .int am)] := hl
  have hx := cx.1.1
  have hb := cx.1.2.1
  refine lv_iload_n hx hb dX8_best_0 rfl (lv_at hl 1 rfl) ?_
  refine goI hw (runSW (As := [.int am]) (rest := []) cx hw (c_X8_isArm l D a cI cZ f u am ) lk_X8_110 ⟨Nat.le_of_ble_eq_true rfl, Nat.le_of_ble_eq_true rfl⟩ ⟨rfl, rfl⟩ ⟨Nat.zero_le _, Nat.zero_le _⟩ rfl rfl hl.1 (Nat.le_of_ble_eq_true rfl) dX8_best_1) (fun r_1 f2 u2 H locs hp hw => ?_)
  obtain ⟨rfl, rfl, e_1⟩ := hp
  refine topc e_1 ?_
  refine lv_if_ne (tgt := 10) hx hb dX8_best_4 (by decide) (fun c_2 => ?_) (fun c_2 => ?_)
  · refine lv_iconst (v := 0) hx hb dX8_best_10 (by decide) ?_
    refine lv_istore_n (lv' := [(2, .int 0), (0, .ref (a 36)), (1, .int am)]) hx hb dX8_best_11 rfl hl (by decide) rfl (fun ls hl => ?_)
    refine lv_iconst (v := 0) hx hb dX8_best_12 (by decide) ?_
    refine lv_istore_n (lv' := [(3, .int 0), (2, .int 0), (0, .ref (a 36)), (1, .int am)]) hx hb dX8_best_13 rfl hl (by decide) rfl (fun ls hl => ?_)
    refine lv_iload_n hx hb dX8_best_14 rfl (lv_at hl 0 rfl) ?_
    refine lv_bipush (v := 32) hx hb dX8_best_15 (by decide) ?_
    refine lv_icmp_ge (tgt := 59) hx hb dX8_best_17 (by decide) (fun q => absurd q (by decide)) (fun _ => ?_)
    refine lv_iload_n hx hb dX8_best_20 rfl (lv_at hl 1 rfl) ?_
    refine lv_aload_n hx hb dX8_best_21 rfl (lv_at hl 2 rfl) ?_
    refine lv_iload_n hx hb dX8_best_22 rfl (lv_at hl 0 rfl) ?_
    refine lv_bipush (v := 8) hx hb dX8_best_23 (by decide) ?_
    refine lv_idiv hx hb dX8_best_25 (by decide) ?_
    refine topc (y := 0) (by decide) ?_
    refine lv_iload_n hx hb dX8_best_26 rfl (lv_at hl 0 rfl) ?_
    refine lv_bipush (v := 8) hx hb dX8_best_27 (by decide) ?_
    refine lv_irem hx hb dX8_best_29 (by decide) ?_
    refine topc (y := 0) (by decide) ?_
    refine goI hw (runVW (k := 36) (As := [.int 0, .int 0]) (rest := [.int 0]) cx hw (c_X8_isSlot l D a cI cZ f u 0 0 h36_3) lk_X8_133 rfl rfl ⟨Nat.le_of_ble_eq_true rfl, Nat.le_of_ble_eq_true rfl⟩ ⟨rfl, rfl⟩ ⟨Nat.zero_le _, Nat.zero_le _⟩ rfl rfl hl.1 (Nat.le_of_ble_eq_true rfl) dX8_best_30) (fun r_4 f2 u2 H locs hp hw => ?_)
    obtain ⟨rfl, rfl, e_4⟩ := hp
    refine topc e_4 ?_
    refine lv_if_eq (tgt := 50) hx hb dX8_best_33 (by decide) (fun _ => ?_) (fun q => absurd (by decide) q)
    refine lv_iconst (v := 0) hx hb dX8_best_50 (by decide) ?_
    refine lv_iadd hx hb dX8_best_51 ?_
    refine topc (y := 0) (by decide) ?_
    refine lv_istore_n (lv' := [(2, .int 0), (3, .int 0), (0, .ref (a 36)), (1, .int am)]) hx hb dX8_best_52 rfl hl (by decide) rfl (fun ls hl => ?_)
    refine lv_iinc (v := 1) (lv' := [(3, .int 1), (2, .int 0), (0, .ref (a 36)), (1, .int am)]) hx hb dX8_best_53 hl (k := 1) rfl (by decide) (by decide) rfl (fun ls hl => ?_)
    refine lv_goto (tgt := 14) hx hb dX8_best_56 (by decide) ?_
    refine lv_iload_n hx hb dX8_best_14 rfl (lv_at hl 0 rfl) ?_
    refine lv_bipush (v := 32) hx hb dX8_best_15 (by decide) ?_
    refine lv_icmp_ge (tgt := 59) hx hb dX8_best_17 (by decide) (fun q => absurd q (by decide)) (fun _ => ?_)
    refine lv_iload_n hx hb dX8_best_20 rfl (lv_at hl 1 rfl) ?_
    refine lv_aload_n hx hb dX8_best_21 rfl (lv_at hl 2 rfl) ?_
    refine lv_iload_n hx hb dX8_best_22 rfl (lv_at hl 0 rfl) ?_
    refine lv_bipush (v := 8) hx hb dX8_best_23 (by decide) ?_
    refine lv_idiv hx hb dX8_best_25 (by decide) ?_
    refine topc (y := 0) (by decide) ?_
    refine lv_iload_n hx hb dX8_best_26 rfl (lv_at hl 0 rfl) ?_
    refine lv_bipush (v := 8) hx hb dX8_best_27 (by decide) ?_
    refine lv_irem hx hb dX8_best_29 (by decide) ?_
    refine topc (y := 1) (by decide) ?_
    refine goI hw (runVW (k := 36) (As := [.int 0, .int 1]) (rest := [.int 0]) cx hw (c_X8_isSlot l D a cI cZ f u 0 1 h36_3) lk_X8_133 rfl rfl ⟨Nat.le_of_ble_eq_true rfl, Nat.le_of_ble_eq_true rfl⟩ ⟨rfl, rfl⟩ ⟨Nat.zero_le _, Nat.zero_le _⟩ rfl rfl hl.1 (Nat.le_of_ble_eq_true rfl) dX8_best_30) (fun r_7 f2 u2 H locs hp hw => ?_)
    obtain ⟨rfl, rfl, e_7⟩ := hp
    refine topc e_7 ?_
    refine lv_if_eq (tgt := 50) hx hb dX8_best_33 (by decide) (fun _ => ?_) (fun q => absurd (by decide) q)
    refine lv_iconst (v := 0) hx hb dX8_best_50 (by decide) ?_
    refine lv_iadd hx hb dX8_best_51 ?_
    refine topc (y := 0) (by decide) ?_
    refine lv_istore_n (lv' := [(2, .int 0), (3, .int 1), (0, .ref (a 36)), (1, .int am)]) hx hb dX8_best_52 rfl hl (by decide) rfl (fun ls hl => ?_)
    refine lv_iinc (v := 2) (lv' := [(3, .int 2), (2, .int 0), (0, .ref (a 36)), (1, .int am)]) hx hb dX8_best_53 hl (k := 1) rfl (by decide) (by decide) rfl (fun ls hl => ?_)
    refine lv_goto (tgt := 14) hx hb dX8_best_56 (by decide) ?_
    refine lv_iload_n hx hb dX8_best_14 rfl (lv_at hl 0 rfl) ?_
    refine lv_bipush (v := 32) hx hb dX8_best_15 (by decide) ?_
    refine lv_icmp_ge (tgt := 59) hx hb dX8_best_17 (by decide) (fun q => absurd q (by decide)) (fun _ => ?_)
    refine lv_iload_n hx hb dX8_best_20 rfl (lv_at hl 1 rfl) ?_
    refine lv_aload_n hx hb dX8_best_21 rfl (lv_at hl 2 rfl) ?_
    refine lv_iload_n hx hb dX8_best_22 rfl (lv_at hl 0 rfl) ?_
    refine lv_bipush (v := 8) hx hb dX8_best_23 (by decide) ?_
    refine lv_idiv hx hb dX8_best_25 (by decide) ?_
    refine topc (y := 0) (by decide) ?_
    refine lv_iload_n hx hb dX8_best_26 rfl (lv_at hl 0 rfl) ?_
    refine lv_bipush (v := 8) hx hb dX8_best_27 (by decide) ?_
    refine lv_irem hx hb dX8_best_29 (by decide) ?_
    refine topc (y := 2) (by decide) ?_
    refine goI hw (runVW (k := 36) (As := [.int 0, .int 2]) (rest := [.int 0]) cx hw (c_X8_isSlot l D a cI cZ f u 0 2 h36_3) lk_X8_133 rfl rfl ⟨Nat.le_of_ble_eq_true rfl, Nat.le_of_ble_eq_true rfl⟩ ⟨rfl, rfl⟩ ⟨Nat.zero_le _, Nat.zero_le _⟩ rfl rfl hl.1 (Nat.le_of_ble_eq_true rfl) dX8_best_30) (fun r_10 f2 u2 H locs hp hw => ?_)
    obtain ⟨rfl, rfl, e_10⟩ := hp
    refine topc e_10 ?_
    refine lv_if_eq (tgt := 50) hx hb dX8_best_33 (by decide) (fun _ => ?_) (fun q => absurd (by decide) q)
    refine lv_iconst (v := 0) hx hb dX8_best_50 (by decide) ?_
    refine lv_iadd hx hb dX8_best_51 ?_
    refine topc (y := 0) (by decide) ?_
    refine lv_istore_n (lv' := [(2, .int 0), (3, .int 2), (0, .ref (a 36)), (1, .int am)]) hx hb dX8_best_52 rfl hl (by decide) rfl (fun ls hl => ?_)
    refine lv_iinc (v := 3) (lv' := [(3, .int 3), (2, .int 0), (0, .ref (a 36)), (1, .int am)]) hx hb dX8_best_53 hl (k := 1) rfl (by decide) (by decide) rfl (fun ls hl => ?_)
    refine lv_goto (tgt := 14) hx hb dX8_best_56 (by decide) ?_
    refine lv_iload_n hx hb dX8_best_14 rfl (lv_at hl 0 rfl) ?_
    refine lv_bipush (v := 32) hx hb dX8_best_15 (by decide) ?_
    refine lv_icmp_ge (tgt := 59) hx hb dX8_best_17 (by decide) (fun q => absurd q (by decide)) (fun _ => ?_)
    refine lv_iload_n hx hb dX8_best_20 rfl (lv_at hl 1 rfl) ?_
    refine lv_aload_n hx hb dX8_best_21 rfl (lv_at hl 2 rfl) ?_
    refine lv_iload_n hx hb dX8_best_22 rfl (lv_at hl 0 rfl) ?_
    refine lv_bipush (v := 8) hx hb dX8_best_23 (by decide) ?_
    refine lv_idiv hx hb dX8_best_25 (by decide) ?_
    refine topc (y := 0) (by decide) ?_
    refine lv_iload_n hx hb dX8_best_26 rfl (lv_at hl 0 rfl) ?_
    refine lv_bipush (v := 8) hx hb dX8_best_27 (by decide) ?_
    refine lv_irem hx hb dX8_best_29 (by decide) ?_
    refine topc (y := 3) (by decide) ?_
    refine goI hw (runVW (k := 36) (As := [.int 0, .int 3]) (rest := [.int 0]) cx hw (c_X8_isSlot l D a cI cZ f u 0 3 h36_3) lk_X8_133 rfl rfl ⟨Nat.le_of_ble_eq_true rfl, Nat.le_of_ble_eq_true rfl⟩ ⟨rfl, rfl⟩ ⟨Nat.zero_le _, Nat.zero_le _⟩ rfl rfl hl.1 (Nat.le_of_ble_eq_true rfl) dX8_best_30) (fun r_13 f2 u2 H locs hp hw => ?_)
    obtain ⟨rfl, rfl, e_13⟩ := hp
    refine topc e_13 ?_
    refine lv_if_eq (tgt := 50) hx hb dX8_best_33 (by decide) (fun _ => ?_) (fun q => absurd (by decide) q)
    refine lv_iconst (v := 0) hx hb dX8_best_50 (by decide) ?_
    refine lv_iadd hx hb dX8_best_51 ?_
    refine topc (y := 0) (by decide) ?_
    refine lv_istore_n (lv' := [(2, .int 0), (3, .int 3), (0, .ref (a 36)), (1, .int am)]) hx hb dX8_best_52 rfl hl (by decide) rfl (fun ls hl => ?_)
    refine lv_iinc (v := 4) (lv' := [(3, .int 4), (2, .int 0), (0, .ref (a 36)), (1, .int am)]) hx hb dX8_best_53 hl (k := 1) rfl (by decide) (by decide) rfl (fun ls hl => ?_)
    refine lv_goto (tgt := 14) hx hb dX8_best_56 (by decide) ?_
    refine lv_iload_n hx hb dX8_best_14 rfl (lv_at hl 0 rfl) ?_
    refine lv_bipush (v := 32) hx hb dX8_best_15 (by decide) ?_
    refine lv_icmp_ge (tgt := 59) hx hb dX8_best_17 (by decide) (fun q => absurd q (by decide)) (fun _ => ?_)
    refine lv_iload_n hx hb dX8_best_20 rfl (lv_at hl 1 rfl) ?_
    refine lv_aload_n hx hb dX8_best_21 rfl (lv_at hl 2 rfl) ?_
    refine lv_iload_n hx hb dX8_best_22 rfl (lv_at hl 0 rfl) ?_
    refine lv_bipush (v := 8) hx hb dX8_best_23 (by decide) ?_
    refine lv_idiv hx hb dX8_best_25 (by decide) ?_
    refine topc (y := 0) (by decide) ?_
    refine lv_iload_n hx hb dX8_best_26 rfl (lv_at hl 0 rfl) ?_
    refine lv_bipush (v := 8) hx hb dX8_best_27 (by decide) ?_
    refine lv_irem hx hb dX8_best_29 (by decide) ?_
    refine topc (y := 4) (by decide) ?_
    refine goI hw (runVW (k := 36) (As := [.int 0, .int 4]) (rest := [.int 0]) cx hw (c_X8_isSlot l D a cI cZ f u 0 4 h36_3) lk_X8_133 rfl rfl ⟨Nat.le_of_ble_eq_true rfl, Nat.le_of_ble_eq_true rfl⟩ ⟨rfl, rfl⟩ ⟨Nat.zero_le _, Nat.zero_le _⟩ rfl rfl hl.1 (Nat.le_of_ble_eq_true rfl) dX8_best_30) (fun r_16 f2 u2 H locs hp hw => ?_)
    obtain ⟨rfl, rfl, e_16⟩ := hp
    refine topc e_16 ?_
    refine lv_if_eq (tgt := 50) hx hb dX8_best_33 (by decide) (fun _ => ?_) (fun q => absurd (by decide) q)
    refine lv_iconst (v := 0) hx hb dX8_best_50 (by decide) ?_
    refine lv_iadd hx hb dX8_best_51 ?_
    refine topc (y := 0) (by decide) ?_
    refine lv_istore_n (lv' := [(2, .int 0), (3, .int 4), (0, .ref (a 36)), (1, .int am)]) hx hb dX8_best_52 rfl hl (by decide) rfl (fun ls hl => ?_)
    refine lv_iinc (v := 5) (lv' := [(3, .int 5), (2, .int 0), (0, .ref (a 36)), (1, .int am)]) hx hb dX8_best_53 hl (k := 1) rfl (by decide) (by decide) rfl (fun ls hl => ?_)
    refine lv_goto (tgt := 14) hx hb dX8_best_56 (by decide) ?_
    refine lv_iload_n hx hb dX8_best_14 rfl (lv_at hl 0 rfl) ?_
    refine lv_bipush (v := 32) hx hb dX8_best_15 (by decide) ?_
    refine lv_icmp_ge (tgt := 59) hx hb dX8_best_17 (by decide) (fun q => absurd q (by decide)) (fun _ => ?_)
    refine lv_iload_n hx hb dX8_best_20 rfl (lv_at hl 1 rfl) ?_
    refine lv_aload_n hx hb dX8_best_21 rfl (lv_at hl 2 rfl) ?_
    refine lv_iload_n hx hb dX8_best_22 rfl (lv_at hl 0 rfl) ?_
    refine lv_bipush (v := 8) hx hb dX8_best_23 (by decide) ?_
    refine lv_idiv hx hb dX8_best_25 (by decide) ?_
    refine topc (y := 0) (by decide) ?_
    refine lv_iload_n hx hb dX8_best_26 rfl (lv_at hl 0 rfl) ?_
    refine lv_bipush (v := 8) hx hb dX8_best_27 (by decide) ?_
    refine lv_irem hx hb dX8_best_29 (by decide) ?_
    refine topc (y := 5) (by decide) ?_
    refine goI hw (runVW (k := 36) (As := [.int 0, .int 5]) (rest := [.int 0]) cx hw (c_X8_isSlot l D a cI cZ f u 0 5 h36_3) lk_X8_133 rfl rfl ⟨Nat.le_of_ble_eq_true rfl, Nat.le_of_ble_eq_true rfl⟩ ⟨rfl, rfl⟩ ⟨Nat.zero_le _, Nat.zero_le _⟩ rfl rfl hl.1 (Nat.le_of_ble_eq_true rfl) dX8_best_30) (fun r_19 f2 u2 H locs hp hw => ?_)
    obtain ⟨rfl, rfl, e_19⟩ := hp
    refine topc e_19 ?_
    refine lv_if_eq (tgt := 50) hx hb dX8_best_33 (by decide) (fun _ => ?_) (fun q => absurd (by decide) q)
    refine lv_iconst (v := 0) hx hb dX8_best_50 (by decide) ?_
    refine lv_iadd hx hb dX8_best_51 ?_
    refine topc (y := 0) (by decide) ?_
    refine lv_istore_n (lv' := [(2, .int 0), (3, .int 5), (0, .ref (a 36)), (1, .int am)]) hx hb dX8_best_52 rfl hl (by decide) rfl (fun ls hl => ?_)
    refine lv_iinc (v := 6) (lv' := [(3, .int 6), (2, .int 0), (0, .ref (a 36)), (1, .int am)]) hx hb dX8_best_53 hl (k := 1) rfl (by decide) (by decide) rfl (fun ls hl => ?_)
    refine lv_goto (tgt := 14) hx hb dX8_best_56 (by decide) ?_
    refine lv_iload_n hx hb dX8_best_14 rfl (lv_at hl 0 rfl) ?_
    refine lv_bipush (v := 32) hx hb dX8_best_15 (by decide) ?_
    refine lv_icmp_ge (tgt := 59) hx hb dX8_best_17 (by decide) (fun q => absurd q (by decide)) (fun _ => ?_)
    refine lv_iload_n hx hb dX8_best_20 rfl (lv_at hl 1 rfl) ?_
    refine lv_aload_n hx hb dX8_best_21 rfl (lv_at hl 2 rfl) ?_
    refine lv_iload_n hx hb dX8_best_22 rfl (lv_at hl 0 rfl) ?_
    refine lv_bipush (v := 8) hx hb dX8_best_23 (by decide) ?_
    refine lv_idiv hx hb dX8_best_25 (by decide) ?_
    refine topc (y := 0) (by decide) ?_
    refine lv_iload_n hx hb dX8_best_26 rfl (lv_at hl 0 rfl) ?_
    refine lv_bipush (v := 8) hx hb dX8_best_27 (by decide) ?_
    refine lv_irem hx hb dX8_best_29 (by decide) ?_
    refine topc (y := 6) (by decide) ?_
    refine goI hw (runVW (k := 36) (As := [.int 0, .int 6]) (rest := [.int 0]) cx hw (c_X8_isSlot l D a cI cZ f u 0 6 h36_3) lk_X8_133 rfl rfl ⟨Nat.le_of_ble_eq_true rfl, Nat.le_of_ble_eq_true rfl⟩ ⟨rfl, rfl⟩ ⟨Nat.zero_le _, Nat.zero_le _⟩ rfl rfl hl.1 (Nat.le_of_ble_eq_true rfl) dX8_best_30) (fun r_22 f2 u2 H locs hp hw => ?_)
    obtain ⟨rfl, rfl, e_22⟩ := hp
    refine topc e_22 ?_
    refine lv_if_eq (tgt := 50) hx hb dX8_best_33 (by decide) (fun _ => ?_) (fun q => absurd (by decide) q)
    refine lv_iconst (v := 0) hx hb dX8_best_50 (by decide) ?_
    refine lv_iadd hx hb dX8_best_51 ?_
    refine topc (y := 0) (by decide) ?_
    refine lv_istore_n (lv' := [(2, .int 0), (3, .int 6), (0, .ref (a 36)), (1, .int am)]) hx hb dX8_best_52 rfl hl (by decide) rfl (fun ls hl => ?_)
    refine lv_iinc (v := 7) (lv' := [(3, .int 7), (2, .int 0), (0, .ref (a 36)), (1, .int am)]) hx hb dX8_best_53 hl (k := 1) rfl (by decide) (by decide) rfl (fun ls hl => ?_)
    refine lv_goto (tgt := 14) hx hb dX8_best_56 (by decide) ?_
    refine lv_iload_n hx hb dX8_best_14 rfl (lv_at hl 0 rfl) ?_
    refine lv_bipush (v := 32) hx hb dX8_best_15 (by decide) ?_
    refine lv_icmp_ge (tgt := 59) hx hb dX8_best_17 (by decide) (fun q => absurd q (by decide)) (fun _ => ?_)
    refine lv_iload_n hx hb dX8_best_20 rfl (lv_at hl 1 rfl) ?_
    refine lv_aload_n hx hb dX8_best_21 rfl (lv_at hl 2 rfl) ?_
    refine lv_iload_n hx hb dX8_best_22 rfl (lv_at hl 0 rfl) ?_
    refine lv_bipush (v := 8) hx hb dX8_best_23 (by decide) ?_
    refine lv_idiv hx hb dX8_best_25 (by decide) ?_
    refine topc (y := 0) (by decide) ?_
    refine lv_iload_n hx hb dX8_best_26 rfl (lv_at hl 0 rfl) ?_
    refine lv_bipush (v := 8) hx hb dX8_best_27 (by decide) ?_
    refine lv_irem hx hb dX8_best_29 (by decide) ?_
    refine topc (y := 7) (by decide) ?_
    refine goI hw (runVW (k := 36) (As := [.int 0, .int 7]) (rest := [.int 0]) cx hw (c_X8_isSlot l D a cI cZ f u 0 7 h36_3) lk_X8_133 rfl rfl ⟨Nat.le_of_ble_eq_true rfl, Nat.le_of_ble_eq_true rfl⟩ ⟨rfl, rfl⟩ ⟨Nat.zero_le _, Nat.zero_le _⟩ rfl rfl hl.1 (Nat.le_of_ble_eq_true rfl) dX8_best_30) (fun r_25 f2 u2 H locs hp hw => ?_)
    obtain ⟨rfl, rfl, e_25⟩ := hp
    refine topc e_25 ?_
    refine lv_if_eq (tgt := 50) hx hb dX8_best_33 (by decide) (fun _ => ?_) (fun q => absurd (by decide) q)
    refine lv_iconst (v := 0) hx hb dX8_best_50 (by decide) ?_
    refine lv_iadd hx hb dX8_best_51 ?_
    refine topc (y := 0) (by decide) ?_
    refine lv_istore_n (lv' := [(2, .int 0), (3, .int 7), (0, .ref (a 36)), (1, .int am)]) hx hb dX8_best_52 rfl hl (by decide) rfl (fun ls hl => ?_)
    refine lv_iinc (v := 8) (lv' := [(3, .int 8), (2, .int 0), (0, .ref (a 36)), (1, .int am)]) hx hb dX8_best_53 hl (k := 1) rfl (by decide) (by decide) rfl (fun ls hl => ?_)
    refine lv_goto (tgt := 14) hx hb dX8_best_56 (by decide) ?_
    refine lv_iload_n hx hb dX8_best_14 rfl (lv_at hl 0 rfl) ?_
    refine lv_bipush (v := 32) hx hb dX8_best_15 (by decide) ?_
    refine lv_icmp_ge (tgt := 59) hx hb dX8_best_17 (by decide) (fun q => absurd q (by decide)) (fun _ => ?_)
    refine lv_iload_n hx hb dX8_best_20 rfl (lv_at hl 1 rfl) ?_
    refine lv_aload_n hx hb dX8_best_21 rfl (lv_at hl 2 rfl) ?_
    refine lv_iload_n hx hb dX8_best_22 rfl (lv_at hl 0 rfl) ?_
    refine lv_bipush (v := 8) hx hb dX8_best_23 (by decide) ?_
    refine lv_idiv hx hb dX8_best_25 (by decide) ?_
    refine topc (y := 1) (by decide) ?_
    refine lv_iload_n hx hb dX8_best_26 rfl (lv_at hl 0 rfl) ?_
    refine lv_bipush (v := 8) hx hb dX8_best_27 (by decide) ?_
    refine lv_irem hx hb dX8_best_29 (by decide) ?_
    refine topc (y := 0) (by decide) ?_
    refine goI hw (runVW (k := 36) (As := [.int 1, .int 0]) (rest := [.int 0]) cx hw (c_X8_isSlot l D a cI cZ f u 1 0 h36_3) lk_X8_133 rfl rfl ⟨Nat.le_of_ble_eq_true rfl, Nat.le_of_ble_eq_true rfl⟩ ⟨rfl, rfl⟩ ⟨Nat.zero_le _, Nat.zero_le _⟩ rfl rfl hl.1 (Nat.le_of_ble_eq_true rfl) dX8_best_30) (fun r_28 f2 u2 H locs hp hw => ?_)
    obtain ⟨rfl, rfl, e_28⟩ := hp
    refine topc e_28 ?_
    refine lv_if_eq (tgt := 50) hx hb dX8_best_33 (by decide) (fun _ => ?_) (fun q => absurd (by decide) q)
    refine lv_iconst (v := 0) hx hb dX8_best_50 (by decide) ?_
    refine lv_iadd hx hb dX8_best_51 ?_
    refine topc (y := 0) (by decide) ?_
    refine lv_istore_n (lv' := [(2, .int 0), (3, .int 8), (0, .ref (a 36)), (1, .int am)]) hx hb dX8_best_52 rfl hl (by decide) rfl (fun ls hl => ?_)
    refine lv_iinc (v := 9) (lv' := [(3, .int 9), (2, .int 0), (0, .ref (a 36)), (1, .int am)]) hx hb dX8_best_53 hl (k := 1) rfl (by decide) (by decide) rfl (fun ls hl => ?_)
    refine lv_goto (tgt := 14) hx hb dX8_best_56 (by decide) ?_
    refine lv_iload_n hx hb dX8_best_14 rfl (lv_at hl 0 rfl) ?_
    refine lv_bipush (v := 32) hx hb dX8_best_15 (by decide) ?_
    refine lv_icmp_ge (tgt := 59) hx hb dX8_best_17 (by decide) (fun q => absurd q (by decide)) (fun _ => ?_)
    refine lv_iload_n hx hb dX8_best_20 rfl (lv_at hl 1 rfl) ?_
    refine lv_aload_n hx hb dX8_best_21 rfl (lv_at hl 2 rfl) ?_
    refine lv_iload_n hx hb dX8_best_22 rfl (lv_at hl 0 rfl) ?_
    refine lv_bipush (v := 8) hx hb dX8_best_23 (by decide) ?_
    refine lv_idiv hx hb dX8_best_25 (by decide) ?_
    refine topc (y := 1) (by decide) ?_
    refine lv_iload_n hx hb dX8_best_26 rfl (lv_at hl 0 rfl) ?_
    refine lv_bipush (v := 8) hx hb dX8_best_27 (by decide) ?_
    refine lv_irem hx hb dX8_best_29 (by decide) ?_
    refine topc (y := 1) (by decide) ?_
    refine goI hw (runVW (k := 36) (As := [.int 1, .int 1]) (rest := [.int 0]) cx hw (c_X8_isSlot l D a cI cZ f u 1 1 h36_3) lk_X8_133 rfl rfl ⟨Nat.le_of_ble_eq_true rfl, Nat.le_of_ble_eq_true rfl⟩ ⟨rfl, rfl⟩ ⟨Nat.zero_le _, Nat.zero_le _⟩ rfl rfl hl.1 (Nat.le_of_ble_eq_true rfl) dX8_best_30) (fun r_31 f2 u2 H locs hp hw => ?_)
    obtain ⟨rfl, rfl, e_31⟩ := hp
    refine topc e_31 ?_
    refine lv_if_eq (tgt := 50) hx hb dX8_best_33 (by decide) (fun _ => ?_) (fun q => absurd (by decide) q)
    refine lv_iconst (v := 0) hx hb dX8_best_50 (by decide) ?_
    refine lv_iadd hx hb dX8_best_51 ?_
    refine topc (y := 0) (by decide) ?_
    refine lv_istore_n (lv' := [(2, .int 0), (3, .int 9), (0, .ref (a 36)), (1, .int am)]) hx hb dX8_best_52 rfl hl (by decide) rfl (fun ls hl => ?_)
    refine lv_iinc (v := 10) (lv' := [(3, .int 10), (2, .int 0), (0, .ref (a 36)), (1, .int am)]) hx hb dX8_best_53 hl (k := 1) rfl (by decide) (by decide) rfl (fun ls hl => ?_)
    refine lv_goto (tgt := 14) hx hb dX8_best_56 (by decide) ?_
    refine lv_iload_n hx hb dX8_best_14 rfl (lv_at hl 0 rfl) ?_
    refine lv_bipush (v := 32) hx hb dX8_best_15 (by decide) ?_
    refine lv_icmp_ge (tgt := 59) hx hb dX8_best_17 (by decide) (fun q => absurd q (by decide)) (fun _ => ?_)
    refine lv_iload_n hx hb dX8_best_20 rfl (lv_at hl 1 rfl) ?_
    refine lv_aload_n hx hb dX8_best_21 rfl (lv_at hl 2 rfl) ?_
    refine lv_iload_n hx hb dX8_best_22 rfl (lv_at hl 0 rfl) ?_
    refine lv_bipush (v := 8) hx hb dX8_best_23 (by decide) ?_
    refine lv_idiv hx hb dX8_best_25 (by decide) ?_
    refine topc (y := 1) (by decide) ?_
    refine lv_iload_n hx hb dX8_best_26 rfl (lv_at hl 0 rfl) ?_
    refine lv_bipush (v := 8) hx hb dX8_best_27 (by decide) ?_
    refine lv_irem hx hb dX8_best_29 (by decide) ?_
    refine topc (y := 2) (by decide) ?_
    refine goI hw (runVW (k := 36) (As := [.int 1, .int 2]) (rest := [.int 0]) cx hw (c_X8_isSlot l D a cI cZ f u 1 2 h36_3) lk_X8_133 rfl rfl ⟨Nat.le_of_ble_eq_true rfl, Nat.le_of_ble_eq_true rfl⟩ ⟨rfl, rfl⟩ ⟨Nat.zero_le _, Nat.zero_le _⟩ rfl rfl hl.1 (Nat.le_of_ble_eq_true rfl) dX8_best_30) (fun r_34 f2 u2 H locs hp hw => ?_)
    obtain ⟨rfl, rfl, e_34⟩ := hp
    refine topc e_34 ?_
    refine lv_if_eq (tgt := 50) hx hb dX8_best_33 (by decide) (fun _ => ?_) (fun q => absurd (by decide) q)
    refine lv_iconst (v := 0) hx hb dX8_best_50 (by decide) ?_
    refine lv_iadd hx hb dX8_best_51 ?_
    refine topc (y := 0) (by decide) ?_
    refine lv_istore_n (lv' := [(2, .int 0), (3, .int 10), (0, .ref (a 36)), (1, .int am)]) hx hb dX8_best_52 rfl hl (by decide) rfl (fun ls hl => ?_)
    refine lv_iinc (v := 11) (lv' := [(3, .int 11), (2, .int 0), (0, .ref (a 36)), (1, .int am)]) hx hb dX8_best_53 hl (k := 1) rfl (by decide) (by decide) rfl (fun ls hl => ?_)
    refine lv_goto (tgt := 14) hx hb dX8_best_56 (by decide) ?_
    refine lv_iload_n hx hb dX8_best_14 rfl (lv_at hl 0 rfl) ?_
    refine lv_bipush (v := 32) hx hb dX8_best_15 (by decide) ?_
    refine lv_icmp_ge (tgt := 59) hx hb dX8_best_17 (by decide) (fun q => absurd q (by decide)) (fun _ => ?_)
    refine lv_iload_n hx hb dX8_best_20 rfl (lv_at hl 1 rfl) ?_
    refine lv_aload_n hx hb dX8_best_21 rfl (lv_at hl 2 rfl) ?_
    refine lv_iload_n hx hb dX8_best_22 rfl (lv_at hl 0 rfl) ?_
    refine lv_bipush (v := 8) hx hb dX8_best_23 (by decide) ?_
    refine lv_idiv hx hb dX8_best_25 (by decide) ?_
    refine topc (y := 1) (by decide) ?_
    refine lv_iload_n hx hb dX8_best_26 rfl (lv_at hl 0 rfl) ?_
    refine lv_bipush (v := 8) hx hb dX8_best_27 (by decide) ?_
    refine lv_irem hx hb dX8_best_29 (by decide) ?_
    refine topc (y := 3) (by decide) ?_
    refine goI hw (runVW (k := 36) (As := [.int 1, .int 3]) (rest := [.int 0]) cx hw (c_X8_isSlot l D a cI cZ f u 1 3 h36_3) lk_X8_133 rfl rfl ⟨Nat.le_of_ble_eq_true rfl, Nat.le_of_ble_eq_true rfl⟩ ⟨rfl, rfl⟩ ⟨Nat.zero_le _, Nat.zero_le _⟩ rfl rfl hl.1 (Nat.le_of_ble_eq_true rfl) dX8_best_30) (fun r_37 f2 u2 H locs hp hw => ?_)
    obtain ⟨rfl, rfl, e_37⟩ := hp
    refine topc e_37 ?_
    refine lv_if_eq (tgt := 50) hx hb dX8_best_33 (by decide) (fun _ => ?_) (fun q => absurd (by decide) q)
    refine lv_iconst (v := 0) hx hb dX8_best_50 (by decide) ?_
    refine lv_iadd hx hb dX8_best_51 ?_
    refine topc (y := 0) (by decide) ?_
    refine lv_istore_n (lv' := [(2, .int 0), (3, .int 11), (0, .ref (a 36)), (1, .int am)]) hx hb dX8_best_52 rfl hl (by decide) rfl (fun ls hl => ?_)
    refine lv_iinc (v := 12) (lv' := [(3, .int 12), (2, .int 0), (0, .ref (a 36)), (1, .int am)]) hx hb dX8_best_53 hl (k := 1) rfl (by decide) (by decide) rfl (fun ls hl => ?_)
    refine lv_goto (tgt := 14) hx hb dX8_best_56 (by decide) ?_
    refine lv_iload_n hx hb dX8_best_14 rfl (lv_at hl 0 rfl) ?_
    refine lv_bipush (v := 32) hx hb dX8_best_15 (by decide) ?_
    refine lv_icmp_ge (tgt := 59) hx hb dX8_best_17 (by decide) (fun q => absurd q (by decide)) (fun _ => ?_)
    refine lv_iload_n hx hb dX8_best_20 rfl (lv_at hl 1 rfl) ?_
    refine lv_aload_n hx hb dX8_best_21 rfl (lv_at hl 2 rfl) ?_
    refine lv_iload_n hx hb dX8_best_22 rfl (lv_at hl 0 rfl) ?_
    refine lv_bipush (v := 8) hx hb dX8_best_23 (by decide) ?_
    refine lv_idiv hx hb dX8_best_25 (by decide) ?_
    refine topc (y := 1) (by decide) ?_
    refine lv_iload_n hx hb dX8_best_26 rfl (lv_at hl 0 rfl) ?_
    refine lv_bipush (v := 8) hx hb dX8_best_27 (by decide) ?_
    refine lv_irem hx hb dX8_best_29 (by decide) ?_
    refine topc (y := 4) (by decide) ?_
    refine goI hw (runVW (k := 36) (As := [.int 1, .int 4]) (rest := [.int 0]) cx hw (c_X8_isSlot l D a cI cZ f u 1 4 h36_3) lk_X8_133 rfl rfl ⟨Nat.le_of_ble_eq_true rfl, Nat.le_of_ble_eq_true rfl⟩ ⟨rfl, rfl⟩ ⟨Nat.zero_le _, Nat.zero_le _⟩ rfl rfl hl.1 (Nat.le_of_ble_eq_true rfl) dX8_best_30) (fun r_40 f2 u2 H locs hp hw => ?_)
    obtain ⟨rfl, rfl, e_40⟩ := hp
    refine topc e_40 ?_
    refine lv_if_eq (tgt := 50) hx hb dX8_best_33 (by decide) (fun _ => ?_) (fun q => absurd (by decide) q)
    refine lv_iconst (v := 0) hx hb dX8_best_50 (by decide) ?_
    refine lv_iadd hx hb dX8_best_51 ?_
    refine topc (y := 0) (by decide) ?_
    refine lv_istore_n (lv' := [(2, .int 0), (3, .int 12), (0, .ref (a 36)), (1, .int am)]) hx hb dX8_best_52 rfl hl (by decide) rfl (fun ls hl => ?_)
    refine lv_iinc (v := 13) (lv' := [(3, .int 13), (2, .int 0), (0, .ref (a 36)), (1, .int am)]) hx hb dX8_best_53 hl (k := 1) rfl (by decide) (by decide) rfl (fun ls hl => ?_)
    refine lv_goto (tgt := 14) hx hb dX8_best_56 (by decide) ?_
    refine lv_iload_n hx hb dX8_best_14 rfl (lv_at hl 0 rfl) ?_
    refine lv_bipush (v := 32) hx hb dX8_best_15 (by decide) ?_
    refine lv_icmp_ge (tgt := 59) hx hb dX8_best_17 (by decide) (fun q => absurd q (by decide)) (fun _ => ?_)
    refine lv_iload_n hx hb dX8_best_20 rfl (lv_at hl 1 rfl) ?_
    refine lv_aload_n hx hb dX8_best_21 rfl (lv_at hl 2 rfl) ?_
    refine lv_iload_n hx hb dX8_best_22 rfl (lv_at hl 0 rfl) ?_
    refine lv_bipush (v := 8) hx hb dX8_best_23 (by decide) ?_
    refine lv_idiv hx hb dX8_best_25 (by decide) ?_
    refine topc (y := 1) (by decide) ?_
    refine lv_iload_n hx hb dX8_best_26 rfl (lv_at hl 0 rfl) ?_
    refine lv_bipush (v := 8) hx hb dX8_best_27 (by decide) ?_
    refine lv_irem hx hb dX8_best_29 (by decide) ?_
    refine topc (y := 5) (by decide) ?_
    refine goI hw (runVW (k := 36) (As := [.int 1, .int 5]) (rest := [.int 0]) cx hw (c_X8_isSlot l D a cI cZ f u 1 5 h36_3) lk_X8_133 rfl rfl ⟨Nat.le_of_ble_eq_true rfl, Nat.le_of_ble_eq_true rfl⟩ ⟨rfl, rfl⟩ ⟨Nat.zero_le _, Nat.zero_le _⟩ rfl rfl hl.1 (Nat.le_of_ble_eq_true rfl) dX8_best_30) (fun r_43 f2 u2 H locs hp hw => ?_)
    obtain ⟨rfl, rfl, e_43⟩ := hp
    refine topc e_43 ?_
    refine lv_if_eq (tgt := 50) hx hb dX8_best_33 (by decide) (fun _ => ?_) (fun q => absurd (by decide) q)
    refine lv_iconst (v := 0) hx hb dX8_best_50 (by decide) ?_
    refine lv_iadd hx hb dX8_best_51 ?_
    refine topc (y := 0) (by decide) ?_
    refine lv_istore_n (lv' := [(2, .int 0), (3, .int 13), (0, .ref (a 36)), (1, .int am)]) hx hb dX8_best_52 rfl hl (by decide) rfl (fun ls hl => ?_)
    refine lv_iinc (v := 14) (lv' := [(3, .int 14), (2, .int 0), (0, .ref (a 36)), (1, .int am)]) hx hb dX8_best_53 hl (k := 1) rfl (by decide) (by decide) rfl (fun ls hl => ?_)
    refine lv_goto (tgt := 14) hx hb dX8_best_56 (by decide) ?_
    refine lv_iload_n hx hb dX8_best_14 rfl (lv_at hl 0 rfl) ?_
    refine lv_bipush (v := 32) hx hb dX8_best_15 (by decide) ?_
    refine lv_icmp_ge (tgt := 59) hx hb dX8_best_17 (by decide) (fun q => absurd q (by decide)) (fun _ => ?_)
    refine lv_iload_n hx hb dX8_best_20 rfl (lv_at hl 1 rfl) ?_
    refine lv_aload_n hx hb dX8_best_21 rfl (lv_at hl 2 rfl) ?_
    refine lv_iload_n hx hb dX8_best_22 rfl (lv_at hl 0 rfl) ?_
    refine lv_bipush (v := 8) hx hb dX8_best_23 (by decide) ?_
    refine lv_idiv hx hb dX8_best_25 (by decide) ?_
    refine topc (y := 1) (by decide) ?_
    refine lv_iload_n hx hb dX8_best_26 rfl (lv_at hl 0 rfl) ?_
    refine lv_bipush (v := 8) hx hb dX8_best_27 (by decide) ?_
    refine lv_irem hx hb dX8_best_29 (by decide) ?_
    refine topc (y := 6) (by decide) ?_
    refine goI hw (runVW (k := 36) (As := [.int 1, .int 6]) (rest := [.int 0]) cx hw (c_X8_isSlot l D a cI cZ f u 1 6 h36_3) lk_X8_133 rfl rfl ⟨Nat.le_of_ble_eq_true rfl, Nat.le_of_ble_eq_true rfl⟩ ⟨rfl, rfl⟩ ⟨Nat.zero_le _, Nat.zero_le _⟩ rfl rfl hl.1 (Nat.le_of_ble_eq_true rfl) dX8_best_30) (fun r_46 f2 u2 H locs hp hw => ?_)
    obtain ⟨rfl, rfl, e_46⟩ := hp
    refine topc e_46 ?_
    refine lv_if_eq (tgt := 50) hx hb dX8_best_33 (by decide) (fun _ => ?_) (fun q => absurd (by decide) q)
    refine lv_iconst (v := 0) hx hb dX8_best_50 (by decide) ?_
    refine lv_iadd hx hb dX8_best_51 ?_
    refine topc (y := 0) (by decide) ?_
    refine lv_istore_n (lv' := [(2, .int 0), (3, .int 14), (0, .ref (a 36)), (1, .int am)]) hx hb dX8_best_52 rfl hl (by decide) rfl (fun ls hl => ?_)
    refine lv_iinc (v := 15) (lv' := [(3, .int 15), (2, .int 0), (0, .ref (a 36)), (1, .int am)]) hx hb dX8_best_53 hl (k := 1) rfl (by decide) (by decide) rfl (fun ls hl => ?_)
    refine lv_goto (tgt := 14) hx hb dX8_best_56 (by decide) ?_
    refine lv_iload_n hx hb dX8_best_14 rfl (lv_at hl 0 rfl) ?_
    refine lv_bipush (v := 32) hx hb dX8_best_15 (by decide) ?_
    refine lv_icmp_ge (tgt := 59) hx hb dX8_best_17 (by decide) (fun q => absurd q (by decide)) (fun _ => ?_)
    refine lv_iload_n hx hb dX8_best_20 rfl (lv_at hl 1 rfl) ?_
    refine lv_aload_n hx hb dX8_best_21 rfl (lv_at hl 2 rfl) ?_
    refine lv_iload_n hx hb dX8_best_22 rfl (lv_at hl 0 rfl) ?_
    refine lv_bipush (v := 8) hx hb dX8_best_23 (by decide) ?_
    refine lv_idiv hx hb dX8_best_25 (by decide) ?_
    refine topc (y := 1) (by decide) ?_
    refine lv_iload_n hx hb dX8_best_26 rfl (lv_at hl 0 rfl) ?_
    refine lv_bipush (v := 8) hx hb dX8_best_27 (by decide) ?_
    refine lv_irem hx hb dX8_best_29 (by decide) ?_
    refine topc (y := 7) (by decide) ?_
    refine goI hw (runVW (k := 36) (As := [.int 1, .int 7]) (rest := [.int 0]) cx hw (c_X8_isSlot l D a cI cZ f u 1 7 h36_3) lk_X8_133 rfl rfl ⟨Nat.le_of_ble_eq_true rfl, Nat.le_of_ble_eq_true rfl⟩ ⟨rfl, rfl⟩ ⟨Nat.zero_le _, Nat.zero_le _⟩ rfl rfl hl.1 (Nat.le_of_ble_eq_true rfl) dX8_best_30) (fun r_49 f2 u2 H locs hp hw => ?_)
    obtain ⟨rfl, rfl, e_49⟩ := hp
    refine topc e_49 ?_
    refine lv_if_eq (tgt := 50) hx hb dX8_best_33 (by decide) (fun _ => ?_) (fun q => absurd (by decide) q)
    refine lv_iconst (v := 0) hx hb dX8_best_50 (by decide) ?_
    refine lv_iadd hx hb dX8_best_51 ?_
    refine topc (y := 0) (by decide) ?_
    refine lv_istore_n (lv' := [(2, .int 0), (3, .int 15), (0, .ref (a 36)), (1, .int am)]) hx hb dX8_best_52 rfl hl (by decide) rfl (fun ls hl => ?_)
    refine lv_iinc (v := 16) (lv' := [(3, .int 16), (2, .int 0), (0, .ref (a 36)), (1, .int am)]) hx hb dX8_best_53 hl (k := 1) rfl (by decide) (by decide) rfl (fun ls hl => ?_)
    refine lv_goto (tgt := 14) hx hb dX8_best_56 (by decide) ?_
    refine lv_iload_n hx hb dX8_best_14 rfl (lv_at hl 0 rfl) ?_
    refine lv_bipush (v := 32) hx hb dX8_best_15 (by decide) ?_
    refine lv_icmp_ge (tgt := 59) hx hb dX8_best_17 (by decide) (fun q => absurd q (by decide)) (fun _ => ?_)
    refine lv_iload_n hx hb dX8_best_20 rfl (lv_at hl 1 rfl) ?_
    refine lv_aload_n hx hb dX8_best_21 rfl (lv_at hl 2 rfl) ?_
    refine lv_iload_n hx hb dX8_best_22 rfl (lv_at hl 0 rfl) ?_
    refine lv_bipush (v := 8) hx hb dX8_best_23 (by decide) ?_
    refine lv_idiv hx hb dX8_best_25 (by decide) ?_
    refine topc (y := 2) (by decide) ?_
    refine lv_iload_n hx hb dX8_best_26 rfl (lv_at hl 0 rfl) ?_
    refine lv_bipush (v := 8) hx hb dX8_best_27 (by decide) ?_
    refine lv_irem hx hb dX8_best_29 (by decide) ?_
    refine topc (y := 0) (by decide) ?_
    refine goI hw (runVW (k := 36) (As := [.int 2, .int 0]) (rest := [.int 0]) cx hw (c_X8_isSlot l D a cI cZ f u 2 0 h36_3) lk_X8_133 rfl rfl ⟨Nat.le_of_ble_eq_true rfl, Nat.le_of_ble_eq_true rfl⟩ ⟨rfl, rfl⟩ ⟨Nat.zero_le _, Nat.zero_le _⟩ rfl rfl hl.1 (Nat.le_of_ble_eq_true rfl) dX8_best_30) (fun r_52 f2 u2 H locs hp hw => ?_)
    obtain ⟨rfl, rfl, e_52⟩ := hp
    refine topc e_52 ?_
    refine lv_if_eq (tgt := 50) hx hb dX8_best_33 (by decide) (fun _ => ?_) (fun q => absurd (by decide) q)
    refine lv_iconst (v := 0) hx hb dX8_best_50 (by decide) ?_
    refine lv_iadd hx hb dX8_best_51 ?_
    refine topc (y := 0) (by decide) ?_
    refine lv_istore_n (lv' := [(2, .int 0), (3, .int 16), (0, .ref (a 36)), (1, .int am)]) hx hb dX8_best_52 rfl hl (by decide) rfl (fun ls hl => ?_)
    refine lv_iinc (v := 17) (lv' := [(3, .int 17), (2, .int 0), (0, .ref (a 36)), (1, .int am)]) hx hb dX8_best_53 hl (k := 1) rfl (by decide) (by decide) rfl (fun ls hl => ?_)
    refine lv_goto (tgt := 14) hx hb dX8_best_56 (by decide) ?_
    refine lv_iload_n hx hb dX8_best_14 rfl (lv_at hl 0 rfl) ?_
    refine lv_bipush (v := 32) hx hb dX8_best_15 (by decide) ?_
    refine lv_icmp_ge (tgt := 59) hx hb dX8_best_17 (by decide) (fun q => absurd q (by decide)) (fun _ => ?_)
    refine lv_iload_n hx hb dX8_best_20 rfl (lv_at hl 1 rfl) ?_
    refine lv_aload_n hx hb dX8_best_21 rfl (lv_at hl 2 rfl) ?_
    refine lv_iload_n hx hb dX8_best_22 rfl (lv_at hl 0 rfl) ?_
    refine lv_bipush (v := 8) hx hb dX8_best_23 (by decide) ?_
    refine lv_idiv hx hb dX8_best_25 (by decide) ?_
    refine topc (y := 2) (by decide) ?_
    refine lv_iload_n hx hb dX8_best_26 rfl (lv_at hl 0 rfl) ?_
    refine lv_bipush (v := 8) hx hb dX8_best_27 (by decide) ?_
    refine lv_irem hx hb dX8_best_29 (by decide) ?_
    refine topc (y := 1) (by decide) ?_
    refine goI hw (runVW (k := 36) (As := [.int 2, .int 1]) (rest := [.int 0]) cx hw (c_X8_isSlot l D a cI cZ f u 2 1 h36_3) lk_X8_133 rfl rfl ⟨Nat.le_of_ble_eq_true rfl, Nat.le_of_ble_eq_true rfl⟩ ⟨rfl, rfl⟩ ⟨Nat.zero_le _, Nat.zero_le _⟩ rfl rfl hl.1 (Nat.le_of_ble_eq_true rfl) dX8_best_30) (fun r_55 f2 u2 H locs hp hw => ?_)
    obtain ⟨rfl, rfl, e_55⟩ := hp
    refine topc e_55 ?_
    refine lv_if_eq (tgt := 50) hx hb dX8_best_33 (by decide) (fun _ => ?_) (fun q => absurd (by decide) q)
    refine lv_iconst (v := 0) hx hb dX8_best_50 (by decide) ?_
    refine lv_iadd hx hb dX8_best_51 ?_
    refine topc (y := 0) (by decide) ?_
    refine lv_istore_n (lv' := [(2, .int 0), (3, .int 17), (0, .ref (a 36)), (1, .int am)]) hx hb dX8_best_52 rfl hl (by decide) rfl (fun ls hl => ?_)
    refine lv_iinc (v := 18) (lv' := [(3, .int 18), (2, .int 0), (0, .ref (a 36)), (1, .int am)]) hx hb dX8_best_53 hl (k := 1) rfl (by decide) (by decide) rfl (fun ls hl => ?_)
    refine lv_goto (tgt := 14) hx hb dX8_best_56 (by decide) ?_
    refine lv_iload_n hx hb dX8_best_14 rfl (lv_at hl 0 rfl) ?_
    refine lv_bipush (v := 32) hx hb dX8_best_15 (by decide) ?_
    refine lv_icmp_ge (tgt := 59) hx hb dX8_best_17 (by decide) (fun q => absurd q (by decide)) (fun _ => ?_)
    refine lv_iload_n hx hb dX8_best_20 rfl (lv_at hl 1 rfl) ?_
    refine lv_aload_n hx hb dX8_best_21 rfl (lv_at hl 2 rfl) ?_
    refine lv_iload_n hx hb dX8_best_22 rfl (lv_at hl 0 rfl) ?_
    refine lv_bipush (v := 8) hx hb dX8_best_23 (by decide) ?_
    refine lv_idiv hx hb dX8_best_25 (by decide) ?_
    refine topc (y := 2) (by decide) ?_
    refine lv_iload_n hx hb dX8_best_26 rfl (lv_at hl 0 rfl) ?_
    refine lv_bipush (v := 8) hx hb dX8_best_27 (by decide) ?_
    refine lv_irem hx hb dX8_best_29 (by decide) ?_
    refine topc (y := 2) (by decide) ?_
    refine goI hw (runVW (k := 36) (As := [.int 2, .int 2]) (rest := [.int 0]) cx hw (c_X8_isSlot l D a cI cZ f u 2 2 h36_3) lk_X8_133 rfl rfl ⟨Nat.le_of_ble_eq_true rfl, Nat.le_of_ble_eq_true rfl⟩ ⟨rfl, rfl⟩ ⟨Nat.zero_le _, Nat.zero_le _⟩ rfl rfl hl.1 (Nat.le_of_ble_eq_true rfl) dX8_best_30) (fun r_58 f2 u2 H locs hp hw => ?_)
    obtain ⟨rfl, rfl, e_58⟩ := hp
    refine topc e_58 ?_
    refine lv_if_eq (tgt := 50) hx hb dX8_best_33 (by decide) (fun _ => ?_) (fun q => absurd (by decide) q)
    refine lv_iconst (v := 0) hx hb dX8_best_50 (by decide) ?_
    refine lv_iadd hx hb dX8_best_51 ?_
    refine topc (y := 0) (by decide) ?_
    refine lv_istore_n (lv' := [(2, .int 0), (3, .int 18), (0, .ref (a 36)), (1, .int am)]) hx hb dX8_best_52 rfl hl (by decide) rfl (fun ls hl => ?_)
    refine lv_iinc (v := 19) (lv' := [(3, .int 19), (2, .int 0), (0, .ref (a 36)), (1, .int am)]) hx hb dX8_best_53 hl (k := 1) rfl (by decide) (by decide) rfl (fun ls hl => ?_)
    refine lv_goto (tgt := 14) hx hb dX8_best_56 (by decide) ?_
    refine lv_iload_n hx hb dX8_best_14 rfl (lv_at hl 0 rfl) ?_
    refine lv_bipush (v := 32) hx hb dX8_best_15 (by decide) ?_
    refine lv_icmp_ge (tgt := 59) hx hb dX8_best_17 (by decide) (fun q => absurd q (by decide)) (fun _ => ?_)
    refine lv_iload_n hx hb dX8_best_20 rfl (lv_at hl 1 rfl) ?_
    refine lv_aload_n hx hb dX8_best_21 rfl (lv_at hl 2 rfl) ?_
    refine lv_iload_n hx hb dX8_best_22 rfl (lv_at hl 0 rfl) ?_
    refine lv_bipush (v := 8) hx hb dX8_best_23 (by decide) ?_
    refine lv_idiv hx hb dX8_best_25 (by decide) ?_
    refine topc (y := 2) (by decide) ?_
    refine lv_iload_n hx hb dX8_best_26 rfl (lv_at hl 0 rfl) ?_
    refine lv_bipush (v := 8) hx hb dX8_best_27 (by decide) ?_
    refine lv_irem hx hb dX8_best_29 (by decide) ?_
    refine topc (y := 3) (by decide) ?_
    refine goI hw (runVW (k := 36) (As := [.int 2, .int 3]) (rest := [.int 0]) cx hw (c_X8_isSlot l D a cI cZ f u 2 3 h36_3) lk_X8_133 rfl rfl ⟨Nat.le_of_ble_eq_true rfl, Nat.le_of_ble_eq_true rfl⟩ ⟨rfl, rfl⟩ ⟨Nat.zero_le _, Nat.zero_le _⟩ rfl rfl hl.1 (Nat.le_of_ble_eq_true rfl) dX8_best_30) (fun r_61 f2 u2 H locs hp hw => ?_)
    obtain ⟨rfl, rfl, e_61⟩ := hp
    refine topc e_61 ?_
    refine lv_if_eq (tgt := 50) hx hb dX8_best_33 (by decide) (fun _ => ?_) (fun q => absurd (by decide) q)
    refine lv_iconst (v := 0) hx hb dX8_best_50 (by decide) ?_
    refine lv_iadd hx hb dX8_best_51 ?_
    refine topc (y := 0) (by decide) ?_
    refine lv_istore_n (lv' := [(2, .int 0), (3, .int 19), (0, .ref (a 36)), (1, .int am)]) hx hb dX8_best_52 rfl hl (by decide) rfl (fun ls hl => ?_)
    refine lv_iinc (v := 20) (lv' := [(3, .int 20), (2, .int 0), (0, .ref (a 36)), (1, .int am)]) hx hb dX8_best_53 hl (k := 1) rfl (by decide) (by decide) rfl (fun ls hl => ?_)
    refine lv_goto (tgt := 14) hx hb dX8_best_56 (by decide) ?_
    refine lv_iload_n hx hb dX8_best_14 rfl (lv_at hl 0 rfl) ?_
    refine lv_bipush (v := 32) hx hb dX8_best_15 (by decide) ?_
    refine lv_icmp_ge (tgt := 59) hx hb dX8_best_17 (by decide) (fun q => absurd q (by decide)) (fun _ => ?_)
    refine lv_iload_n hx hb dX8_best_20 rfl (lv_at hl 1 rfl) ?_
    refine lv_aload_n hx hb dX8_best_21 rfl (lv_at hl 2 rfl) ?_
    refine lv_iload_n hx hb dX8_best_22 rfl (lv_at hl 0 rfl) ?_
    refine lv_bipush (v := 8) hx hb dX8_best_23 (by decide) ?_
    refine lv_idiv hx hb dX8_best_25 (by decide) ?_
    refine topc (y := 2) (by decide) ?_
    refine lv_iload_n hx hb dX8_best_26 rfl (lv_at hl 0 rfl) ?_
    refine lv_bipush (v := 8) hx hb dX8_best_27 (by decide) ?_
    refine lv_irem hx hb dX8_best_29 (by decide) ?_
    refine topc (y := 4) (by decide) ?_
    refine goI hw (runVW (k := 36) (As := [.int 2, .int 4]) (rest := [.int 0]) cx hw (c_X8_isSlot l D a cI cZ f u 2 4 h36_3) lk_X8_133 rfl rfl ⟨Nat.le_of_ble_eq_true rfl, Nat.le_of_ble_eq_true rfl⟩ ⟨rfl, rfl⟩ ⟨Nat.zero_le _, Nat.zero_le _⟩ rfl rfl hl.1 (Nat.le_of_ble_eq_true rfl) dX8_best_30) (fun r_64 f2 u2 H locs hp hw => ?_)
    obtain ⟨rfl, rfl, e_64⟩ := hp
    refine topc e_64 ?_
    refine lv_if_eq (tgt := 50) hx hb dX8_best_33 (by decide) (fun _ => ?_) (fun q => absurd (by decide) q)
    refine lv_iconst (v := 0) hx hb dX8_best_50 (by decide) ?_
    refine lv_iadd hx hb dX8_best_51 ?_
    refine topc (y := 0) (by decide) ?_
    refine lv_istore_n (lv' := [(2, .int 0), (3, .int 20), (0, .ref (a 36)), (1, .int am)]) hx hb dX8_best_52 rfl hl (by decide) rfl (fun ls hl => ?_)
    refine lv_iinc (v := 21) (lv' := [(3, .int 21), (2, .int 0), (0, .ref (a 36)), (1, .int am)]) hx hb dX8_best_53 hl (k := 1) rfl (by decide) (by decide) rfl (fun ls hl => ?_)
    refine lv_goto (tgt := 14) hx hb dX8_best_56 (by decide) ?_
    refine lv_iload_n hx hb dX8_best_14 rfl (lv_at hl 0 rfl) ?_
    refine lv_bipush (v := 32) hx hb dX8_best_15 (by decide) ?_
    refine lv_icmp_ge (tgt := 59) hx hb dX8_best_17 (by decide) (fun q => absurd q (by decide)) (fun _ => ?_)
    refine lv_iload_n hx hb dX8_best_20 rfl (lv_at hl 1 rfl) ?_
    refine lv_aload_n hx hb dX8_best_21 rfl (lv_at hl 2 rfl) ?_
    refine lv_iload_n hx hb dX8_best_22 rfl (lv_at hl 0 rfl) ?_
    refine lv_bipush (v := 8) hx hb dX8_best_23 (by decide) ?_
    refine lv_idiv hx hb dX8_best_25 (by decide) ?_
    refine topc (y := 2) (by decide) ?_
    refine lv_iload_n hx hb dX8_best_26 rfl (lv_at hl 0 rfl) ?_
    refine lv_bipush (v := 8) hx hb dX8_best_27 (by decide) ?_
    refine lv_irem hx hb dX8_best_29 (by decide) ?_
    refine topc (y := 5) (by decide) ?_
    refine goI hw (runVW (k := 36) (As := [.int 2, .int 5]) (rest := [.int 0]) cx hw (c_X8_isSlot l D a cI cZ f u 2 5 h36_3) lk_X8_133 rfl rfl ⟨Nat.le_of_ble_eq_true rfl, Nat.le_of_ble_eq_true rfl⟩ ⟨rfl, rfl⟩ ⟨Nat.zero_le _, Nat.zero_le _⟩ rfl rfl hl.1 (Nat.le_of_ble_eq_true rfl) dX8_best_30) (fun r_67 f2 u2 H locs hp hw => ?_)
    obtain ⟨rfl, rfl, e_67⟩ := hp
    refine topc e_67 ?_
    refine lv_if_eq (tgt := 50) hx hb dX8_best_33 (by decide) (fun _ => ?_) (fun q => absurd (by decide) q)
    refine lv_iconst (v := 0) hx hb dX8_best_50 (by decide) ?_
    refine lv_iadd hx hb dX8_best_51 ?_
    refine topc (y := 0) (by decide) ?_
    refine lv_istore_n (lv' := [(2, .int 0), (3, .int 21), (0, .ref (a 36)), (1, .int am)]) hx hb dX8_best_52 rfl hl (by decide) rfl (fun ls hl => ?_)
    refine lv_iinc (v := 22) (lv' := [(3, .int 22), (2, .int 0), (0, .ref (a 36)), (1, .int am)]) hx hb dX8_best_53 hl (k := 1) rfl (by decide) (by decide) rfl (fun ls hl => ?_)
    refine lv_goto (tgt := 14) hx hb dX8_best_56 (by decide) ?_
    refine lv_iload_n hx hb dX8_best_14 rfl (lv_at hl 0 rfl) ?_
    refine lv_bipush (v := 32) hx hb dX8_best_15 (by decide) ?_
    refine lv_icmp_ge (tgt := 59) hx hb dX8_best_17 (by decide) (fun q => absurd q (by decide)) (fun _ => ?_)
    refine lv_iload_n hx hb dX8_best_20 rfl (lv_at hl 1 rfl) ?_
    refine lv_aload_n hx hb dX8_best_21 rfl (lv_at hl 2 rfl) ?_
    refine lv_iload_n hx hb dX8_best_22 rfl (lv_at hl 0 rfl) ?_
    refine lv_bipush (v := 8) hx hb dX8_best_23 (by decide) ?_
    refine lv_idiv hx hb dX8_best_25 (by decide) ?_
    refine topc (y := 2) (by decide) ?_
    refine lv_iload_n hx hb dX8_best_26 rfl (lv_at hl 0 rfl) ?_
    refine lv_bipush (v := 8) hx hb dX8_best_27 (by decide) ?_
    refine lv_irem hx hb dX8_best_29 (by decide) ?_
    refine topc (y := 6) (by decide) ?_
    refine goI hw (runVW (k := 36) (As := [.int 2, .int 6]) (rest := [.int 0]) cx hw (c_X8_isSlot l D a cI cZ f u 2 6 h36_3) lk_X8_133 rfl rfl ⟨Nat.le_of_ble_eq_true rfl, Nat.le_of_ble_eq_true rfl⟩ ⟨rfl, rfl⟩ ⟨Nat.zero_le _, Nat.zero_le _⟩ rfl rfl hl.1 (Nat.le_of_ble_eq_true rfl) dX8_best_30) (fun r_70 f2 u2 H locs hp hw => ?_)
    obtain ⟨rfl, rfl, e_70⟩ := hp
    refine topc e_70 ?_
    refine lv_if_eq (tgt := 50) hx hb dX8_best_33 (by decide) (fun _ => ?_) (fun q => absurd (by decide) q)
    refine lv_iconst (v := 0) hx hb dX8_best_50 (by decide) ?_
    refine lv_iadd hx hb dX8_best_51 ?_
    refine topc (y := 0) (by decide) ?_
    refine lv_istore_n (lv' := [(2, .int 0), (3, .int 22), (0, .ref (a 36)), (1, .int am)]) hx hb dX8_best_52 rfl hl (by decide) rfl (fun ls hl => ?_)
    refine lv_iinc (v := 23) (lv' := [(3, .int 23), (2, .int 0), (0, .ref (a 36)), (1, .int am)]) hx hb dX8_best_53 hl (k := 1) rfl (by decide) (by decide) rfl (fun ls hl => ?_)
    refine lv_goto (tgt := 14) hx hb dX8_best_56 (by decide) ?_
    refine lv_iload_n hx hb dX8_best_14 rfl (lv_at hl 0 rfl) ?_
    refine lv_bipush (v := 32) hx hb dX8_best_15 (by decide) ?_
    refine lv_icmp_ge (tgt := 59) hx hb dX8_best_17 (by decide) (fun q => absurd q (by decide)) (fun _ => ?_)
    refine lv_iload_n hx hb dX8_best_20 rfl (lv_at hl 1 rfl) ?_
    refine lv_aload_n hx hb dX8_best_21 rfl (lv_at hl 2 rfl) ?_
    refine lv_iload_n hx hb dX8_best_22 rfl (lv_at hl 0 rfl) ?_
    refine lv_bipush (v := 8) hx hb dX8_best_23 (by decide) ?_
    refine lv_idiv hx hb dX8_best_25 (by decide) ?_
    refine topc (y := 2) (by decide) ?_
    refine lv_iload_n hx hb dX8_best_26 rfl (lv_at hl 0 rfl) ?_
    refine lv_bipush (v := 8) hx hb dX8_best_27 (by decide) ?_
    refine lv_irem hx hb dX8_best_29 (by decide) ?_
    refine topc (y := 7) (by decide) ?_
    refine goI hw (runVW (k := 36) (As := [.int 2, .int 7]) (rest := [.int 0]) cx hw (c_X8_isSlot l D a cI cZ f u 2 7 h36_3) lk_X8_133 rfl rfl ⟨Nat.le_of_ble_eq_true rfl, Nat.le_of_ble_eq_true rfl⟩ ⟨rfl, rfl⟩ ⟨Nat.zero_le _, Nat.zero_le _⟩ rfl rfl hl.1 (Nat.le_of_ble_eq_true rfl) dX8_best_30) (fun r_73 f2 u2 H locs hp hw => ?_)
    obtain ⟨rfl, rfl, e_73⟩ := hp
    refine topc e_73 ?_
    refine lv_if_eq (tgt := 50) hx hb dX8_best_33 (by decide) (fun _ => ?_) (fun q => absurd (by decide) q)
    refine lv_iconst (v := 0) hx hb dX8_best_50 (by decide) ?_
    refine lv_iadd hx hb dX8_best_51 ?_
    refine topc (y := 0) (by decide) ?_
    refine lv_istore_n (lv' := [(2, .int 0), (3, .int 23), (0, .ref (a 36)), (1, .int am)]) hx hb dX8_best_52 rfl hl (by decide) rfl (fun ls hl => ?_)
    refine lv_iinc (v := 24) (lv' := [(3, .int 24), (2, .int 0), (0, .ref (a 36)), (1, .int am)]) hx hb dX8_best_53 hl (k := 1) rfl (by decide) (by decide) rfl (fun ls hl => ?_)
    refine lv_goto (tgt := 14) hx hb dX8_best_56 (by decide) ?_
    refine lv_iload_n hx hb dX8_best_14 rfl (lv_at hl 0 rfl) ?_
    refine lv_bipush (v := 32) hx hb dX8_best_15 (by decide) ?_
    refine lv_icmp_ge (tgt := 59) hx hb dX8_best_17 (by decide) (fun q => absurd q (by decide)) (fun _ => ?_)
    refine lv_iload_n hx hb dX8_best_20 rfl (lv_at hl 1 rfl) ?_
    refine lv_aload_n hx hb dX8_best_21 rfl (lv_at hl 2 rfl) ?_
    refine lv_iload_n hx hb dX8_best_22 rfl (lv_at hl 0 rfl) ?_
    refine lv_bipush (v := 8) hx hb dX8_best_23 (by decide) ?_
    refine lv_idiv hx hb dX8_best_25 (by decide) ?_
    refine topc (y := 3) (by decide) ?_
    refine lv_iload_n hx hb dX8_best_26 rfl (lv_at hl 0 rfl) ?_
    refine lv_bipush (v := 8) hx hb dX8_best_27 (by decide) ?_
    refine lv_irem hx hb dX8_best_29 (by decide) ?_
    refine topc (y := 0) (by decide) ?_
    refine goI hw (runVW (k := 36) (As := [.int 3, .int 0]) (rest := [.int 0]) cx hw (c_X8_isSlot l D a cI cZ f u 3 0 h36_3) lk_X8_133 rfl rfl ⟨Nat.le_of_ble_eq_true rfl, Nat.le_of_ble_eq_true rfl⟩ ⟨rfl, rfl⟩ ⟨Nat.zero_le _, Nat.zero_le _⟩ rfl rfl hl.1 (Nat.le_of_ble_eq_true rfl) dX8_best_30) (fun r_76 f2 u2 H locs hp hw => ?_)
    obtain ⟨rfl, rfl, e_76⟩ := hp
    refine topc e_76 ?_
    refine lv_if_eq (tgt := 50) hx hb dX8_best_33 (by decide) (fun _ => ?_) (fun q => absurd (by decide) q)
    refine lv_iconst (v := 0) hx hb dX8_best_50 (by decide) ?_
    refine lv_iadd hx hb dX8_best_51 ?_
    refine topc (y := 0) (by decide) ?_
    refine lv_istore_n (lv' := [(2, .int 0), (3, .int 24), (0, .ref (a 36)), (1, .int am)]) hx hb dX8_best_52 rfl hl (by decide) rfl (fun ls hl => ?_)
    refine lv_iinc (v := 25) (lv' := [(3, .int 25), (2, .int 0), (0, .ref (a 36)), (1, .int am)]) hx hb dX8_best_53 hl (k := 1) rfl (by decide) (by decide) rfl (fun ls hl => ?_)
    refine lv_goto (tgt := 14) hx hb dX8_best_56 (by decide) ?_
    refine lv_iload_n hx hb dX8_best_14 rfl (lv_at hl 0 rfl) ?_
    refine lv_bipush (v := 32) hx hb dX8_best_15 (by decide) ?_
    refine lv_icmp_ge (tgt := 59) hx hb dX8_best_17 (by decide) (fun q => absurd q (by decide)) (fun _ => ?_)
    refine lv_iload_n hx hb dX8_best_20 rfl (lv_at hl 1 rfl) ?_
    refine lv_aload_n hx hb dX8_best_21 rfl (lv_at hl 2 rfl) ?_
    refine lv_iload_n hx hb dX8_best_22 rfl (lv_at hl 0 rfl) ?_
    refine lv_bipush (v := 8) hx hb dX8_best_23 (by decide) ?_
    refine lv_idiv hx hb dX8_best_25 (by decide) ?_
    refine topc (y := 3) (by decide) ?_
    refine lv_iload_n hx hb dX8_best_26 rfl (lv_at hl 0 rfl) ?_
    refine lv_bipush (v := 8) hx hb dX8_best_27 (by decide) ?_
    refine lv_irem hx hb dX8_best_29 (by decide) ?_
    refine topc (y := 1) (by decide) ?_
    refine goI hw (runVW (k := 36) (As := [.int 3, .int 1]) (rest := [.int 0]) cx hw (c_X8_isSlot l D a cI cZ f u 3 1 h36_3) lk_X8_133 rfl rfl ⟨Nat.le_of_ble_eq_true rfl, Nat.le_of_ble_eq_true rfl⟩ ⟨rfl, rfl⟩ ⟨Nat.zero_le _, Nat.zero_le _⟩ rfl rfl hl.1 (Nat.le_of_ble_eq_true rfl) dX8_best_30) (fun r_79 f2 u2 H locs hp hw => ?_)
    obtain ⟨rfl, rfl, e_79⟩ := hp
    refine topc e_79 ?_
    refine lv_if_eq (tgt := 50) hx hb dX8_best_33 (by decide) (fun _ => ?_) (fun q => absurd (by decide) q)
    refine lv_iconst (v := 0) hx hb dX8_best_50 (by decide) ?_
    refine lv_iadd hx hb dX8_best_51 ?_
    refine topc (y := 0) (by decide) ?_
    refine lv_istore_n (lv' := [(2, .int 0), (3, .int 25), (0, .ref (a 36)), (1, .int am)]) hx hb dX8_best_52 rfl hl (by decide) rfl (fun ls hl => ?_)
    refine lv_iinc (v := 26) (lv' := [(3, .int 26), (2, .int 0), (0, .ref (a 36)), (1, .int am)]) hx hb dX8_best_53 hl (k := 1) rfl (by decide) (by decide) rfl (fun ls hl => ?_)
    refine lv_goto (tgt := 14) hx hb dX8_best_56 (by decide) ?_
    refine lv_iload_n hx hb dX8_best_14 rfl (lv_at hl 0 rfl) ?_
    refine lv_bipush (v := 32) hx hb dX8_best_15 (by decide) ?_
    refine lv_icmp_ge (tgt := 59) hx hb dX8_best_17 (by decide) (fun q => absurd q (by decide)) (fun _ => ?_)
    refine lv_iload_n hx hb dX8_best_20 rfl (lv_at hl 1 rfl) ?_
    refine lv_aload_n hx hb dX8_best_21 rfl (lv_at hl 2 rfl) ?_
    refine lv_iload_n hx hb dX8_best_22 rfl (lv_at hl 0 rfl) ?_
    refine lv_bipush (v := 8) hx hb dX8_best_23 (by decide) ?_
    refine lv_idiv hx hb dX8_best_25 (by decide) ?_
    refine topc (y := 3) (by decide) ?_
    refine lv_iload_n hx hb dX8_best_26 rfl (lv_at hl 0 rfl) ?_
    refine lv_bipush (v := 8) hx hb dX8_best_27 (by decide) ?_
    refine lv_irem hx hb dX8_best_29 (by decide) ?_
    refine topc (y := 2) (by decide) ?_
    refine goI hw (runVW (k := 36) (As := [.int 3, .int 2]) (rest := [.int 0]) cx hw (c_X8_isSlot l D a cI cZ f u 3 2 h36_3) lk_X8_133 rfl rfl ⟨Nat.le_of_ble_eq_true rfl, Nat.le_of_ble_eq_true rfl⟩ ⟨rfl, rfl⟩ ⟨Nat.zero_le _, Nat.zero_le _⟩ rfl rfl hl.1 (Nat.le_of_ble_eq_true rfl) dX8_best_30) (fun r_82 f2 u2 H locs hp hw => ?_)
    obtain ⟨rfl, rfl, e_82⟩ := hp
    refine topc e_82 ?_
    refine lv_if_eq (tgt := 50) hx hb dX8_best_33 (by decide) (fun _ => ?_) (fun q => absurd (by decide) q)
    refine lv_iconst (v := 0) hx hb dX8_best_50 (by decide) ?_
    refine lv_iadd hx hb dX8_best_51 ?_
    refine topc (y := 0) (by decide) ?_
    refine lv_istore_n (lv' := [(2, .int 0), (3, .int 26), (0, .ref (a 36)), (1, .int am)]) hx hb dX8_best_52 rfl hl (by decide) rfl (fun ls hl => ?_)
    refine lv_iinc (v := 27) (lv' := [(3, .int 27), (2, .int 0), (0, .ref (a 36)), (1, .int am)]) hx hb dX8_best_53 hl (k := 1) rfl (by decide) (by decide) rfl (fun ls hl => ?_)
    refine lv_goto (tgt := 14) hx hb dX8_best_56 (by decide) ?_
    refine lv_iload_n hx hb dX8_best_14 rfl (lv_at hl 0 rfl) ?_
    refine lv_bipush (v := 32) hx hb dX8_best_15 (by decide) ?_
    refine lv_icmp_ge (tgt := 59) hx hb dX8_best_17 (by decide) (fun q => absurd q (by decide)) (fun _ => ?_)
    refine lv_iload_n hx hb dX8_best_20 rfl (lv_at hl 1 rfl) ?_
    refine lv_aload_n hx hb dX8_best_21 rfl (lv_at hl 2 rfl) ?_
    refine lv_iload_n hx hb dX8_best_22 rfl (lv_at hl 0 rfl) ?_
    refine lv_bipush (v := 8) hx hb dX8_best_23 (by decide) ?_
    refine lv_idiv hx hb dX8_best_25 (by decide) ?_
    refine topc (y := 3) (by decide) ?_
    refine lv_iload_n hx hb dX8_best_26 rfl (lv_at hl 0 rfl) ?_
    refine lv_bipush (v := 8) hx hb dX8_best_27 (by decide) ?_
    refine lv_irem hx hb dX8_best_29 (by decide) ?_
    refine topc (y := 3) (by decide) ?_
    refine goI hw (runVW (k := 36) (As := [.int 3, .int 3]) (rest := [.int 0]) cx hw (c_X8_isSlot l D a cI cZ f u 3 3 h36_3) lk_X8_133 rfl rfl ⟨Nat.le_of_ble_eq_true rfl, Nat.le_of_ble_eq_true rfl⟩ ⟨rfl, rfl⟩ ⟨Nat.zero_le _, Nat.zero_le _⟩ rfl rfl hl.1 (Nat.le_of_ble_eq_true rfl) dX8_best_30) (fun r_85 f2 u2 H locs hp hw => ?_)
    obtain ⟨rfl, rfl, e_85⟩ := hp
    refine topc e_85 ?_
    refine lv_if_eq (tgt := 50) hx hb dX8_best_33 (by decide) (fun _ => ?_) (fun q => absurd (by decide) q)
    refine lv_iconst (v := 0) hx hb dX8_best_50 (by decide) ?_
    refine lv_iadd hx hb dX8_best_51 ?_
    refine topc (y := 0) (by decide) ?_
    refine lv_istore_n (lv' := [(2, .int 0), (3, .int 27), (0, .ref (a 36)), (1, .int am)]) hx hb dX8_best_52 rfl hl (by decide) rfl (fun ls hl => ?_)
    refine lv_iinc (v := 28) (lv' := [(3, .int 28), (2, .int 0), (0, .ref (a 36)), (1, .int am)]) hx hb dX8_best_53 hl (k := 1) rfl (by decide) (by decide) rfl (fun ls hl => ?_)
    refine lv_goto (tgt := 14) hx hb dX8_best_56 (by decide) ?_
    refine lv_iload_n hx hb dX8_best_14 rfl (lv_at hl 0 rfl) ?_
    refine lv_bipush (v := 32) hx hb dX8_best_15 (by decide) ?_
    refine lv_icmp_ge (tgt := 59) hx hb dX8_best_17 (by decide) (fun q => absurd q (by decide)) (fun _ => ?_)
    refine lv_iload_n hx hb dX8_best_20 rfl (lv_at hl 1 rfl) ?_
    refine lv_aload_n hx hb dX8_best_21 rfl (lv_at hl 2 rfl) ?_
    refine lv_iload_n hx hb dX8_best_22 rfl (lv_at hl 0 rfl) ?_
    refine lv_bipush (v := 8) hx hb dX8_best_23 (by decide) ?_
    refine lv_idiv hx hb dX8_best_25 (by decide) ?_
    refine topc (y := 3) (by decide) ?_
    refine lv_iload_n hx hb dX8_best_26 rfl (lv_at hl 0 rfl) ?_
    refine lv_bipush (v := 8) hx hb dX8_best_27 (by decide) ?_
    refine lv_irem hx hb dX8_best_29 (by decide) ?_
    refine topc (y := 4) (by decide) ?_
    refine goI hw (runVW (k := 36) (As := [.int 3, .int 4]) (rest := [.int 0]) cx hw (c_X8_isSlot l D a cI cZ f u 3 4 h36_3) lk_X8_133 rfl rfl ⟨Nat.le_of_ble_eq_true rfl, Nat.le_of_ble_eq_true rfl⟩ ⟨rfl, rfl⟩ ⟨Nat.zero_le _, Nat.zero_le _⟩ rfl rfl hl.1 (Nat.le_of_ble_eq_true rfl) dX8_best_30) (fun r_88 f2 u2 H locs hp hw => ?_)
    obtain ⟨rfl, rfl, e_88⟩ := hp
    refine topc e_88 ?_
    refine lv_if_eq (tgt := 50) hx hb dX8_best_33 (by decide) (fun _ => ?_) (fun q => absurd (by decide) q)
    refine lv_iconst (v := 0) hx hb dX8_best_50 (by decide) ?_
    refine lv_iadd hx hb dX8_best_51 ?_
    refine topc (y := 0) (by decide) ?_
    refine lv_istore_n (lv' := [(2, .int 0), (3, .int 28), (0, .ref (a 36)), (1, .int am)]) hx hb dX8_best_52 rfl hl (by decide) rfl (fun ls hl => ?_)
    refine lv_iinc (v := 29) (lv' := [(3, .int 29), (2, .int 0), (0, .ref (a 36)), (1, .int am)]) hx hb dX8_best_53 hl (k := 1) rfl (by decide) (by decide) rfl (fun ls hl => ?_)
    refine lv_goto (tgt := 14) hx hb dX8_best_56 (by decide) ?_
    refine lv_iload_n hx hb dX8_best_14 rfl (lv_at hl 0 rfl) ?_
    refine lv_bipush (v := 32) hx hb dX8_best_15 (by decide) ?_
    refine lv_icmp_ge (tgt := 59) hx hb dX8_best_17 (by decide) (fun q => absurd q (by decide)) (fun _ => ?_)
    refine lv_iload_n hx hb dX8_best_20 rfl (lv_at hl 1 rfl) ?_
    refine lv_aload_n hx hb dX8_best_21 rfl (lv_at hl 2 rfl) ?_
    refine lv_iload_n hx hb dX8_best_22 rfl (lv_at hl 0 rfl) ?_
    refine lv_bipush (v := 8) hx hb dX8_best_23 (by decide) ?_
    refine lv_idiv hx hb dX8_best_25 (by decide) ?_
    refine topc (y := 3) (by decide) ?_
    refine lv_iload_n hx hb dX8_best_26 rfl (lv_at hl 0 rfl) ?_
    refine lv_bipush (v := 8) hx hb dX8_best_27 (by decide) ?_
    refine lv_irem hx hb dX8_best_29 (by decide) ?_
    refine topc (y := 5) (by decide) ?_
    refine goI hw (runVW (k := 36) (As := [.int 3, .int 5]) (rest := [.int 0]) cx hw (c_X8_isSlot l D a cI cZ f u 3 5 h36_3) lk_X8_133 rfl rfl ⟨Nat.le_of_ble_eq_true rfl, Nat.le_of_ble_eq_true rfl⟩ ⟨rfl, rfl⟩ ⟨Nat.zero_le _, Nat.zero_le _⟩ rfl rfl hl.1 (Nat.le_of_ble_eq_true rfl) dX8_best_30) (fun r_91 f2 u2 H locs hp hw => ?_)
    obtain ⟨rfl, rfl, e_91⟩ := hp
    refine topc e_91 ?_
    refine lv_if_eq (tgt := 50) hx hb dX8_best_33 (by decide) (fun _ => ?_) (fun q => absurd (by decide) q)
    refine lv_iconst (v := 0) hx hb dX8_best_50 (by decide) ?_
    refine lv_iadd hx hb dX8_best_51 ?_
    refine topc (y := 0) (by decide) ?_
    refine lv_istore_n (lv' := [(2, .int 0), (3, .int 29), (0, .ref (a 36)), (1, .int am)]) hx hb dX8_best_52 rfl hl (by decide) rfl (fun ls hl => ?_)
    refine lv_iinc (v := 30) (lv' := [(3, .int 30), (2, .int 0), (0, .ref (a 36)), (1, .int am)]) hx hb dX8_best_53 hl (k := 1) rfl (by decide) (by decide) rfl (fun ls hl => ?_)
    refine lv_goto (tgt := 14) hx hb dX8_best_56 (by decide) ?_
    refine lv_iload_n hx hb dX8_best_14 rfl (lv_at hl 0 rfl) ?_
    refine lv_bipush (v := 32) hx hb dX8_best_15 (by decide) ?_
    refine lv_icmp_ge (tgt := 59) hx hb dX8_best_17 (by decide) (fun q => absurd q (by decide)) (fun _ => ?_)
    refine lv_iload_n hx hb dX8_best_20 rfl (lv_at hl 1 rfl) ?_
    refine lv_aload_n hx hb dX8_best_21 rfl (lv_at hl 2 rfl) ?_
    refine lv_iload_n hx hb dX8_best_22 rfl (lv_at hl 0 rfl) ?_
    refine lv_bipush (v := 8) hx hb dX8_best_23 (by decide) ?_
    refine lv_idiv hx hb dX8_best_25 (by decide) ?_
    refine topc (y := 3) (by decide) ?_
    refine lv_iload_n hx hb dX8_best_26 rfl (lv_at hl 0 rfl) ?_
    refine lv_bipush (v := 8) hx hb dX8_best_27 (by decide) ?_
    refine lv_irem hx hb dX8_best_29 (by decide) ?_
    refine topc (y := 6) (by decide) ?_
    refine goI hw (runVW (k := 36) (As := [.int 3, .int 6]) (rest := [.int 0]) cx hw (c_X8_isSlot l D a cI cZ f u 3 6 h36_3) lk_X8_133 rfl rfl ⟨Nat.le_of_ble_eq_true rfl, Nat.le_of_ble_eq_true rfl⟩ ⟨rfl, rfl⟩ ⟨Nat.zero_le _, Nat.zero_le _⟩ rfl rfl hl.1 (Nat.le_of_ble_eq_true rfl) dX8_best_30) (fun r_94 f2 u2 H locs hp hw => ?_)
    obtain ⟨rfl, rfl, e_94⟩ := hp
    refine topc e_94 ?_
    refine lv_if_eq (tgt := 50) hx hb dX8_best_33 (by decide) (fun _ => ?_) (fun q => absurd (by decide) q)
    refine lv_iconst (v := 0) hx hb dX8_best_50 (by decide) ?_
    refine lv_iadd hx hb dX8_best_51 ?_
    refine topc (y := 0) (by decide) ?_
    refine lv_istore_n (lv' := [(2, .int 0), (3, .int 30), (0, .ref (a 36)), (1, .int am)]) hx hb dX8_best_52 rfl hl (by decide) rfl (fun ls hl => ?_)
    refine lv_iinc (v := 31) (lv' := [(3, .int 31), (2, .int 0), (0, .ref (a 36)), (1, .int am)]) hx hb dX8_best_53 hl (k := 1) rfl (by decide) (by decide) rfl (fun ls hl => ?_)
    refine lv_goto (tgt := 14) hx hb dX8_best_56 (by decide) ?_
    refine lv_iload_n hx hb dX8_best_14 rfl (lv_at hl 0 rfl) ?_
    refine lv_bipush (v := 32) hx hb dX8_best_15 (by decide) ?_
    refine lv_icmp_ge (tgt := 59) hx hb dX8_best_17 (by decide) (fun q => absurd q (by decide)) (fun _ => ?_)
    refine lv_iload_n hx hb dX8_best_20 rfl (lv_at hl 1 rfl) ?_
    refine lv_aload_n hx hb dX8_best_21 rfl (lv_at hl 2 rfl) ?_
    refine lv_iload_n hx hb dX8_best_22 rfl (lv_at hl 0 rfl) ?_
    refine lv_bipush (v := 8) hx hb dX8_best_23 (by decide) ?_
    refine lv_idiv hx hb dX8_best_25 (by decide) ?_
    refine topc (y := 3) (by decide) ?_
    refine lv_iload_n hx hb dX8_best_26 rfl (lv_at hl 0 rfl) ?_
    refine lv_bipush (v := 8) hx hb dX8_best_27 (by decide) ?_
    refine lv_irem hx hb dX8_best_29 (by decide) ?_
    refine topc (y := 7) (by decide) ?_
    refine goI hw (runVW (k := 36) (As := [.int 3, .int 7]) (rest := [.int 0]) cx hw (c_X8_isSlot l D a cI cZ f u 3 7 h36_3) lk_X8_133 rfl rfl ⟨Nat.le_of_ble_eq_true rfl, Nat.le_of_ble_eq_true rfl⟩ ⟨rfl, rfl⟩ ⟨Nat.zero_le _, Nat.zero_le _⟩ rfl rfl hl.1 (Nat.le_of_ble_eq_true rfl) dX8_best_30) (fun r_97 f2 u2 H locs hp hw => ?_)
    obtain ⟨rfl, rfl, e_97⟩ := hp
    refine topc e_97 ?_
    refine lv_if_eq (tgt := 50) hx hb dX8_best_33 (by decide) (fun _ => ?_) (fun q => absurd (by decide) q)
    refine lv_iconst (v := 0) hx hb dX8_best_50 (by decide) ?_
    refine lv_iadd hx hb dX8_best_51 ?_
    refine topc (y := 0) (by decide) ?_
    refine lv_istore_n (lv' := [(2, .int 0), (3, .int 31), (0, .ref (a 36)), (1, .int am)]) hx hb dX8_best_52 rfl hl (by decide) rfl (fun ls hl => ?_)
    refine lv_iinc (v := 32) (lv' := [(3, .int 32), (2, .int 0), (0, .ref (a 36)), (1, .int am)]) hx hb dX8_best_53 hl (k := 1) rfl (by decide) (by decide) rfl (fun ls hl => ?_)
    refine lv_goto (tgt := 14) hx hb dX8_best_56 (by decide) ?_
    refine lv_iload_n hx hb dX8_best_14 rfl (lv_at hl 0 rfl) ?_
    refine lv_bipush (v := 32) hx hb dX8_best_15 (by decide) ?_
    refine lv_icmp_ge (tgt := 59) hx hb dX8_best_17 (by decide) (fun _ => ?_) (fun q => absurd (by decide) q)
    refine lv_aload_n hx hb dX8_best_59 rfl (lv_at hl 2 rfl) ?_
    refine lv_iconst (v := 0) hx hb dX8_best_60 (by decide) ?_
    refine pf_X8_221 cx hw dX8_best_61 (fun H locs hw => ?_)
    refine lv_iconst (v := 0) hx hb dX8_best_64 (by decide) ?_
    refine lv_istore_n (lv' := [(3, .int 0), (2, .int 0), (0, .ref (a 36)), (1, .int am)]) hx hb dX8_best_65 rfl hl (by decide) rfl (fun ls hl => ?_)
    refine lv_iload_n hx hb dX8_best_66 rfl (lv_at hl 0 rfl) ?_
    refine lv_aload_n hx hb dX8_best_67 rfl (lv_at hl 2 rfl) ?_
    refine gf_X8_106 cx hw dX8_best_68 ?_
    refine topc (y := 0) h36_11 ?_
    refine lv_icmp_ge (tgt := 124) hx hb dX8_best_71 (by decide) (fun _ => ?_) (fun q => absurd (by decide) q)
    refine lv_aload_n hx hb dX8_best_124 rfl (lv_at hl 2 rfl) ?_
    refine gf_X8_221 cx hw dX8_best_125 ?_
    refine topc (y := 0) rfl ?_
    refine lv_if_eq (tgt := 137) hx hb dX8_best_128 (by decide) (fun _ => ?_) (fun q => absurd (by decide) q)
    refine lv_bipush (v := (-3)) hx hb dX8_best_137 (by decide) ?_
    exact retI cx hw hr hk dX8_best_139 (by simp [an_best, c_2])
  · refine lv_bipush (v := (-2)) hx hb dX8_best_7 (by decide) ?_
    exact retI cx hw hr hk dX8_best_9 (by simp [an_best, c_2])

set_option maxHeartbeats 4000000 in
set_option maxRecDepth 100000 in
theorem c_X8_late (l : Launch) (D : va_G) (a : Nat → Nat) (cI cZ : ClassId) (f : FF) (u : UU) (n : Int32) (am : Int32) (h36_16 : f 36 16 = 0)  : KI l yX8_late cX8_late 9 (some .int) ({ frames := 3, cells := 0, slots := 0, locals := 54 } : Room) D a cI cZ [.ref (a 36), .int n, .int am] f u (fun r f2 u2 => r = an_late n am) := by
  refine KX.of (by decide) (Nat.le_of_ble_eq_true rfl) ?_
  intro p e s m below meth c cx hw hr hk ls hl
  have cx : Cx p s m _ c cX8_late RX8 9 D cI cZ := cx
  have hl : lv_has ls 9 [(0, .ref (a 36)), (1, .int n), (2, .int am)] := hl
  have hx := cx.1.1
  have hb := cx.1.2.1
  refine lv_iload_n hx hb dX8_late_0 rfl (lv_at hl 1 rfl) ?_
  refine lv_iconst (v := 0) hx hb dX8_late_1 (by decide) ?_
  refine lv_bipush (v := 80) hx hb dX8_late_2 (by decide) ?_
  refine goI hw (runSW (As := [.int n, .int 0, .int 80]) (rest := []) cx hw (c_X8_isIn l D a cI cZ f u n 0 80 ) lk_X8_95 ⟨Nat.le_of_ble_eq_true rfl, Nat.le_of_ble_eq_true rfl⟩ ⟨rfl, rfl⟩ ⟨Nat.zero_le _, Nat.zero_le _⟩ rfl rfl hl.1 (Nat.le_of_ble_eq_true rfl) dX8_late_4) (fun r_1 f2 u2 H locs hp hw => ?_)
  obtain ⟨rfl, rfl, e_1⟩ := hp
  refine topc e_1 ?_
  refine lv_if_eq (tgt := 17) hx hb dX8_late_7 (by decide) (fun c_2 => ?_) (fun c_2 => ?_)
  · refine lv_bipush (v := (-2)) hx hb dX8_late_17 (by decide) ?_
    exact retI cx hw hr hk dX8_late_19 (by simp [an_late, c_2])
  · refine lv_iload_n hx hb dX8_late_10 rfl (lv_at hl 2 rfl) ?_
    refine goI hw (runSW (As := [.int am]) (rest := []) cx hw (c_X8_isArm l D a cI cZ f u am ) lk_X8_110 ⟨Nat.le_of_ble_eq_true rfl, Nat.le_of_ble_eq_true rfl⟩ ⟨rfl, rfl⟩ ⟨Nat.zero_le _, Nat.zero_le _⟩ rfl rfl hl.1 (Nat.le_of_ble_eq_true rfl) dX8_late_11) (fun r_3 f2 u2 H locs hp hw => ?_)
    obtain ⟨rfl, rfl, e_3⟩ := hp
    refine topc e_3 ?_
    refine lv_if_ne (tgt := 20) hx hb dX8_late_14 (by decide) (fun c_4 => ?_) (fun c_4 => ?_)
    · refine lv_iconst (v := 0) hx hb dX8_late_20 (by decide) ?_
      refine lv_istore_n (lv' := [(3, .int 0), (0, .ref (a 36)), (1, .int n), (2, .int am)]) hx hb dX8_late_21 rfl hl (by decide) rfl (fun ls hl => ?_)
      refine lv_iconst (v := 0) hx hb dX8_late_22 (by decide) ?_
      refine lv_istore (lv' := [(4, .int 0), (3, .int 0), (0, .ref (a 36)), (1, .int n), (2, .int am)]) hx hb dX8_late_23 hl (by decide) rfl (fun ls hl => ?_)
      refine lv_iload hx hb dX8_late_25 (lv_at hl 0 rfl) ?_
      refine lv_iload_n hx hb dX8_late_27 rfl (lv_at hl 3 rfl) ?_
      refine lv_icmp_ge (tgt := 165) hx hb dX8_late_28 (by decide) (fun c_5 => ?_) (fun c_5 => ?_)
      · refine lv_iload_n hx hb dX8_late_165 rfl (lv_at hl 1 rfl) ?_
        exact retI cx hw hr hk dX8_late_166 (by simp [an_late, c_2, c_4, c_5])
      · refine lv_iconst (v := (-1)) hx hb dX8_late_31 (by decide) ?_
        refine lv_istore (lv' := [(5, .int (-1)), (4, .int 0), (3, .int 0), (0, .ref (a 36)), (1, .int n), (2, .int am)]) hx hb dX8_late_32 hl (by decide) rfl (fun ls hl => ?_)
        refine lv_lconst (v := 0) hx hb dX8_late_34 (by decide) ?_
        refine lv_lstore (lv' := [(6, .long 0), (5, .int (-1)), (4, .int 0), (3, .int 0), (0, .ref (a 36)), (1, .int n), (2, .int am)]) hx hb dX8_late_35 hl (by decide) rfl (fun ls hl => ?_)
        refine lv_iconst (v := 0) hx hb dX8_late_37 (by decide) ?_
        refine lv_istore (lv' := [(8, .int 0), (6, .long 0), (5, .int (-1)), (4, .int 0), (3, .int 0), (0, .ref (a 36)), (1, .int n), (2, .int am)]) hx hb dX8_late_38 hl (by decide) rfl (fun ls hl => ?_)
        refine lv_iload hx hb dX8_late_40 (lv_at hl 0 rfl) ?_
        refine lv_aload_n hx hb dX8_late_42 rfl (lv_at hl 5 rfl) ?_
        refine gf_X8_116 cx hw dX8_late_43 ?_
        refine topc (y := 0) h36_16 ?_
        refine lv_icmp_ge (tgt := 137) hx hb dX8_late_46 (by decide) (fun _ => ?_) (fun q => absurd (by decide) q)
        refine lv_iload hx hb dX8_late_137 (lv_at hl 2 rfl) ?_
        refine lv_iconst (v := (-1)) hx hb dX8_late_139 (by decide) ?_
        refine lv_icmp_ne (tgt := 145) hx hb dX8_late_140 (by decide) (fun q => absurd (by decide) q) (fun _ => ?_)
        refine lv_iload_n hx hb dX8_late_143 rfl (lv_at hl 4 rfl) ?_
        exact retI cx hw hr hk dX8_late_144 (by simp [an_late, c_2, c_4, c_5])
    · refine lv_bipush (v := (-2)) hx hb dX8_late_17 (by decide) ?_
      exact retI cx hw hr hk dX8_late_19 (by simp [an_late, c_2, c_4])

set_option maxHeartbeats 4000000 in
set_option maxRecDepth 100000 in
theorem c_X8_count (l : Launch) (D : va_G) (a : Nat → Nat) (cI cZ : ClassId) (f : FF) (u : UU) (w : Int32) (h36_3 : f 36 3 = 0) (h36_11 : f 36 11 = 0) (h36_16 : f 36 16 = 0) (h36_20 : f 36 20 = 0) (h36_24 : f 36 24 = 80)  : KI l yX8_count cX8_count 4 (some .int) ({ frames := 1, cells := 0, slots := 0, locals := 12 } : Room) D a cI cZ [.ref (a 36), .int w] f u (fun r f2 u2 => r = an_count w) := by
  refine KX.of (by decide) (Nat.le_of_ble_eq_true rfl) ?_
  intro p e s m below meth c cx hw hr hk ls hl
  have cx : Cx p s m _ c cX8_count RX8 4 D cI cZ := cx
  have hl : lv_has ls 4 [(0, .ref (a 36)), (1, .int w)] := hl
  have hx := cx.1.1
  have hb := cx.1.2.1
  refine lv_iconst (v := 0) hx hb dX8_count_0 (by decide) ?_
  refine lv_istore_n (lv' := [(2, .int 0), (0, .ref (a 36)), (1, .int w)]) hx hb dX8_count_1 rfl hl (by decide) rfl (fun ls hl => ?_)
  refine lv_iload_n hx hb dX8_count_2 rfl (lv_at hl 2 rfl) ?_
  rcases Decidable.em (w = 0) with c_1 | c_1
  · refine lv_tableIn (off := 45) (tgt := 48) hx hb dX8_count_3 (by rw [c_1]; decide) (by rw [c_1]; decide) (by rw [c_1]; rfl) (by decide) ?_
    refine lv_aload_n hx hb dX8_count_48 rfl (lv_at hl 1 rfl) ?_
    refine gf_X8_99 cx hw dX8_count_49 ?_
    refine topc (y := 0) h36_3 ?_
    exact retI cx hw hr hk dX8_count_52 (by simp [an_count, c_1])
  rcases Decidable.em (w = 1) with c_2 | c_2
  · refine lv_tableIn (off := 50) (tgt := 53) hx hb dX8_count_3 (by rw [c_2]; decide) (by rw [c_2]; decide) (by rw [c_2]; rfl) (by decide) ?_
    refine lv_iconst (v := 0) hx hb dX8_count_53 (by decide) ?_
    refine lv_istore_n (lv' := [(3, .int 0), (2, .int 0), (0, .ref (a 36)), (1, .int w)]) hx hb dX8_count_54 rfl hl (by decide) rfl (fun ls hl => ?_)
    refine lv_iload_n hx hb dX8_count_55 rfl (lv_at hl 0 rfl) ?_
    refine lv_aload_n hx hb dX8_count_56 rfl (lv_at hl 2 rfl) ?_
    refine gf_X8_99 cx hw dX8_count_57 ?_
    refine topc (y := 0) h36_3 ?_
    refine lv_icmp_ge (tgt := 78) hx hb dX8_count_60 (by decide) (fun _ => ?_) (fun q => absurd (by decide) q)
    refine lv_iload_n hx hb dX8_count_78 rfl (lv_at hl 1 rfl) ?_
    exact retI cx hw hr hk dX8_count_79 (by simp [an_count, c_1, c_2])
  rcases Decidable.em (w = 2) with c_4 | c_4
  · refine lv_tableIn (off := 77) (tgt := 80) hx hb dX8_count_3 (by rw [c_4]; decide) (by rw [c_4]; decide) (by rw [c_4]; rfl) (by decide) ?_
    refine lv_aload_n hx hb dX8_count_80 rfl (lv_at hl 1 rfl) ?_
    refine gf_X8_106 cx hw dX8_count_81 ?_
    refine topc (y := 0) h36_11 ?_
    exact retI cx hw hr hk dX8_count_84 (by simp [an_count, c_1, c_2, c_4])
  rcases Decidable.em (w = 3) with c_5 | c_5
  · refine lv_tableIn (off := 82) (tgt := 85) hx hb dX8_count_3 (by rw [c_5]; decide) (by rw [c_5]; decide) (by rw [c_5]; rfl) (by decide) ?_
    refine lv_iconst (v := 0) hx hb dX8_count_85 (by decide) ?_
    refine lv_istore_n (lv' := [(3, .int 0), (2, .int 0), (0, .ref (a 36)), (1, .int w)]) hx hb dX8_count_86 rfl hl (by decide) rfl (fun ls hl => ?_)
    refine lv_iload_n hx hb dX8_count_87 rfl (lv_at hl 0 rfl) ?_
    refine lv_aload_n hx hb dX8_count_88 rfl (lv_at hl 2 rfl) ?_
    refine gf_X8_106 cx hw dX8_count_89 ?_
    refine topc (y := 0) h36_11 ?_
    refine lv_icmp_ge (tgt := 119) hx hb dX8_count_92 (by decide) (fun _ => ?_) (fun q => absurd (by decide) q)
    refine lv_iload_n hx hb dX8_count_119 rfl (lv_at hl 1 rfl) ?_
    exact retI cx hw hr hk dX8_count_120 (by simp [an_count, c_1, c_2, c_4, c_5])
  rcases Decidable.em (w = 4) with c_7 | c_7
  · refine lv_tableIn (off := 118) (tgt := 121) hx hb dX8_count_3 (by rw [c_7]; decide) (by rw [c_7]; decide) (by rw [c_7]; rfl) (by decide) ?_
    refine lv_aload_n hx hb dX8_count_121 rfl (lv_at hl 1 rfl) ?_
    refine gf_X8_116 cx hw dX8_count_122 ?_
    refine topc (y := 0) h36_16 ?_
    exact retI cx hw hr hk dX8_count_125 (by simp [an_count, c_1, c_2, c_4, c_5, c_7])
  rcases Decidable.em (w = 5) with c_8 | c_8
  · refine lv_tableIn (off := 123) (tgt := 126) hx hb dX8_count_3 (by rw [c_8]; decide) (by rw [c_8]; decide) (by rw [c_8]; rfl) (by decide) ?_
    refine lv_iconst (v := 0) hx hb dX8_count_126 (by decide) ?_
    refine lv_istore_n (lv' := [(3, .int 0), (2, .int 0), (0, .ref (a 36)), (1, .int w)]) hx hb dX8_count_127 rfl hl (by decide) rfl (fun ls hl => ?_)
    refine lv_iload_n hx hb dX8_count_128 rfl (lv_at hl 0 rfl) ?_
    refine lv_aload_n hx hb dX8_count_129 rfl (lv_at hl 2 rfl) ?_
    refine gf_X8_116 cx hw dX8_count_130 ?_
    refine topc (y := 0) h36_16 ?_
    refine lv_icmp_ge (tgt := 151) hx hb dX8_count_133 (by decide) (fun _ => ?_) (fun q => absurd (by decide) q)
    refine lv_iload_n hx hb dX8_count_151 rfl (lv_at hl 1 rfl) ?_
    exact retI cx hw hr hk dX8_count_152 (by simp [an_count, c_1, c_2, c_4, c_5, c_7, c_8])
  rcases Decidable.em (w = 6) with c_10 | c_10
  · refine lv_tableIn (off := 150) (tgt := 153) hx hb dX8_count_3 (by rw [c_10]; decide) (by rw [c_10]; decide) (by rw [c_10]; rfl) (by decide) ?_
    refine lv_aload_n hx hb dX8_count_153 rfl (lv_at hl 1 rfl) ?_
    refine gf_X8_119 cx hw dX8_count_154 ?_
    refine topc (y := 0) h36_20 ?_
    exact retI cx hw hr hk dX8_count_157 (by simp [an_count, c_1, c_2, c_4, c_5, c_7, c_8, c_10])
  rcases Decidable.em (w = 7) with c_11 | c_11
  · refine lv_tableIn (off := 155) (tgt := 158) hx hb dX8_count_3 (by rw [c_11]; decide) (by rw [c_11]; decide) (by rw [c_11]; rfl) (by decide) ?_
    refine lv_aload_n hx hb dX8_count_158 rfl (lv_at hl 1 rfl) ?_
    refine gf_X8_70 cx hw dX8_count_159 ?_
    refine topc (y := 80) h36_24 ?_
    exact retI cx hw hr hk dX8_count_162 (by simp [an_count, c_1, c_2, c_4, c_5, c_7, c_8, c_10, c_11])
  refine lv_tableOut (tgt := 163) hx hb dX8_count_3 (by have z0 := lv_neT (a := 0) c_1 rfl; have z1 := lv_neT (a := 1) c_2 rfl; have z2 := lv_neT (a := 2) c_4 rfl; have z3 := lv_neT (a := 3) c_5 rfl; have z4 := lv_neT (a := 4) c_7 rfl; have z5 := lv_neT (a := 5) c_8 rfl; have z6 := lv_neT (a := 6) c_10 rfl; have z7 := lv_neT (a := 7) c_11 rfl; omega) (by decide) ?_
  refine lv_iconst (v := (-1)) hx hb dX8_count_163 (by decide) ?_
  exact retI cx hw hr hk dX8_count_164 (by simp [an_count, c_1, c_2, c_4, c_5, c_7, c_8, c_10, c_11])
