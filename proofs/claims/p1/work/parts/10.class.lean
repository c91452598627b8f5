set_option maxHeartbeats 4000000 in
set_option maxRecDepth 100000 in
theorem c_X7_isFromTo (l : Launch) (D : va_G) (a : Nat → Nat) (cI cZ : ClassId) (f : FF) (u : UU) (v : Int32) (lo : Int32) (hi : Int32)   : KI l yX7_isFromTo cX7_isFromTo 3 (some .boolean) ({ frames := 1, cells := 0, slots := 0, locals := 12 } : Room) D a cI cZ [.int v, .int lo, .int hi] f u (fun r f2 u2 => f = f2 ∧ u = u2 ∧ r = (rg v lo hi)) := by
  refine KX.of (by decide) (Nat.le_of_ble_eq_true rfl) ?_
  intro p e s m below meth c cx hw hr hk ls hl
  have cx : Cx p s m _ c cX7_isFromTo RX7 3 D cI cZ := cx
  have hl : lv_has ls 3 [(0, .int v), (1, .int lo), (2, .int hi)] := hl
  have hx := cx.1.1
  have hb := cx.1.2.1
  refine lv_iload_n hx hb dX7_isFromTo_0 rfl (lv_at hl 0 rfl) ?_
  refine lv_iload_n hx hb dX7_isFromTo_1 rfl (lv_at hl 1 rfl) ?_
  refine lv_icmp_lt (tgt := 14) hx hb dX7_isFromTo_2 (by decide) (fun c_1 => ?_) (fun c_1 => ?_)
  · refine lv_iconst (v := 0) hx hb dX7_isFromTo_14 (by decide) ?_
    exact retZ cx hw hr hk rfl dX7_isFromTo_15 ⟨rfl, rfl, (rg_lo c_1)⟩
  · refine lv_iload_n hx hb dX7_isFromTo_5 rfl (lv_at hl 0 rfl) ?_
    refine lv_iload_n hx hb dX7_isFromTo_6 rfl (lv_at hl 2 rfl) ?_
    refine lv_icmp_gt (tgt := 14) hx hb dX7_isFromTo_7 (by decide) (fun c_2 => ?_) (fun c_2 => ?_)
    · refine lv_iconst (v := 0) hx hb dX7_isFromTo_14 (by decide) ?_
      exact retZ cx hw hr hk rfl dX7_isFromTo_15 ⟨rfl, rfl, (rg_hi c_1 c_2)⟩
    · refine lv_iconst (v := 1) hx hb dX7_isFromTo_10 (by decide) ?_
      refine lv_goto (tgt := 15) hx hb dX7_isFromTo_11 (by decide) ?_
      exact retZ cx hw hr hk rfl dX7_isFromTo_15 ⟨rfl, rfl, (rg_in c_1 c_2)⟩

set_option maxHeartbeats 4000000 in
set_option maxRecDepth 100000 in
theorem c_X7_isArm (l : Launch) (D : va_G) (a : Nat → Nat) (cI cZ : ClassId) (f : FF) (u : UU) (v : Int32)   : KI l yX7_isArm cX7_isArm 1 (some .boolean) ({ frames := 2, cells := 0, slots := 0, locals := 34 } : Room) D a cI cZ [.int v] f u (fun r f2 u2 => f = f2 ∧ u = u2 ∧ r = (rg v 0 5000)) := by
  refine KX.of (by decide) (Nat.le_of_ble_eq_true rfl) ?_
  intro p e s m below meth c cx hw hr hk ls hl
  have cx : Cx p s m _ c cX7_isArm RX7 1 D cI cZ := cx
  have hl : lv_has ls 1 [(0, .int v)] := hl
  have hx := cx.1.1
  have hb := cx.1.2.1
  refine lv_iload_n hx hb dX7_isArm_0 rfl (lv_at hl 0 rfl) ?_
  refine lv_iconst (v := 0) hx hb dX7_isArm_1 (by decide) ?_
  refine lv_sipush (v := 5000) hx hb dX7_isArm_2 (by decide) ?_
  refine goI hw (runSW (As := [.int v, .int 0, .int 5000]) (rest := []) cx hw (c_X7_isFromTo l D a cI cZ f u v 0 5000 ) lk_X7_75 ⟨Nat.le_of_ble_eq_true rfl, Nat.le_of_ble_eq_true rfl⟩ ⟨rfl, rfl⟩ ⟨Nat.zero_le _, Nat.zero_le _⟩ rfl rfl hl.1 (Nat.le_of_ble_eq_true rfl) dX7_isArm_5) (fun r_1 f2 u2 H locs hp hw => ?_)
  obtain ⟨rfl, rfl, e_1⟩ := hp
  refine topc e_1 ?_
  exact retZ cx hw hr hk (nar_rg _ _ _) dX7_isArm_8 ⟨rfl, rfl, rfl⟩

set_option maxHeartbeats 4000000 in
set_option maxRecDepth 100000 in
theorem c_X7_isBorne (l : Launch) (D : va_G) (a : Nat → Nat) (cI cZ : ClassId) (f : FF) (u : UU) (v : Int32)   : KI l yX7_isBorne cX7_isBorne 1 (some .boolean) ({ frames := 2, cells := 0, slots := 0, locals := 34 } : Room) D a cI cZ [.int v] f u (fun r f2 u2 => f = f2 ∧ u = u2 ∧ r = (rg v 0 20000)) := by
  refine KX.of (by decide) (Nat.le_of_ble_eq_true rfl) ?_
  intro p e s m below meth c cx hw hr hk ls hl
  have cx : Cx p s m _ c cX7_isBorne RX7 1 D cI cZ := cx
  have hl : lv_has ls 1 [(0, .int v)] := hl
  have hx := cx.1.1
  have hb := cx.1.2.1
  refine lv_iload_n hx hb dX7_isBorne_0 rfl (lv_at hl 0 rfl) ?_
  refine lv_iconst (v := 0) hx hb dX7_isBorne_1 (by decide) ?_
  refine lv_sipush (v := 20000) hx hb dX7_isBorne_2 (by decide) ?_
  refine goI hw (runSW (As := [.int v, .int 0, .int 20000]) (rest := []) cx hw (c_X7_isFromTo l D a cI cZ f u v 0 20000 ) lk_X7_75 ⟨Nat.le_of_ble_eq_true rfl, Nat.le_of_ble_eq_true rfl⟩ ⟨rfl, rfl⟩ ⟨Nat.zero_le _, Nat.zero_le _⟩ rfl rfl hl.1 (Nat.le_of_ble_eq_true rfl) dX7_isBorne_5) (fun r_1 f2 u2 H locs hp hw => ?_)
  obtain ⟨rfl, rfl, e_1⟩ := hp
  refine topc e_1 ?_
  exact retZ cx hw hr hk (nar_rg _ _ _) dX7_isBorne_8 ⟨rfl, rfl, rfl⟩

set_option maxHeartbeats 4000000 in
set_option maxRecDepth 100000 in
theorem c_X7_isKind (l : Launch) (D : va_G) (a : Nat → Nat) (cI cZ : ClassId) (f : FF) (u : UU) (v : Int32)   : KI l yX7_isKind cX7_isKind 1 (some .boolean) ({ frames := 2, cells := 0, slots := 0, locals := 34 } : Room) D a cI cZ [.int v] f u (fun r f2 u2 => f = f2 ∧ u = u2 ∧ r = (rg v 0 7)) := by
  refine KX.of (by decide) (Nat.le_of_ble_eq_true rfl) ?_
  intro p e s m below meth c cx hw hr hk ls hl
  have cx : Cx p s m _ c cX7_isKind RX7 1 D cI cZ := cx
  have hl : lv_has ls 1 [(0, .int v)] := hl
  have hx := cx.1.1
  have hb := cx.1.2.1
  refine lv_iload_n hx hb dX7_isKind_0 rfl (lv_at hl 0 rfl) ?_
  refine lv_iconst (v := 0) hx hb dX7_isKind_1 (by decide) ?_
  refine lv_bipush (v := 7) hx hb dX7_isKind_2 (by decide) ?_
  refine goI hw (runSW (As := [.int v, .int 0, .int 7]) (rest := []) cx hw (c_X7_isFromTo l D a cI cZ f u v 0 7 ) lk_X7_75 ⟨Nat.le_of_ble_eq_true rfl, Nat.le_of_ble_eq_true rfl⟩ ⟨rfl, rfl⟩ ⟨Nat.zero_le _, Nat.zero_le _⟩ rfl rfl hl.1 (Nat.le_of_ble_eq_true rfl) dX7_isKind_4) (fun r_1 f2 u2 H locs hp hw => ?_)
  obtain ⟨rfl, rfl, e_1⟩ := hp
  refine topc e_1 ?_
  exact retZ cx hw hr hk (nar_rg _ _ _) dX7_isKind_7 ⟨rfl, rfl, rfl⟩

set_option maxHeartbeats 4000000 in
set_option maxRecDepth 100000 in
theorem c_X7_isStop (l : Launch) (D : va_G) (a : Nat → Nat) (cI cZ : ClassId) (f : FF) (u : UU) (v : Int32)   : KI l yX7_isStop cX7_isStop 1 (some .boolean) ({ frames := 2, cells := 0, slots := 0, locals := 34 } : Room) D a cI cZ [.int v] f u (fun r f2 u2 => f = f2 ∧ u = u2 ∧ r = (rg v 1 4)) := by
  refine KX.of (by decide) (Nat.le_of_ble_eq_true rfl) ?_
  intro p e s m below meth c cx hw hr hk ls hl
  have cx : Cx p s m _ c cX7_isStop RX7 1 D cI cZ := cx
  have hl : lv_has ls 1 [(0, .int v)] := hl
  have hx := cx.1.1
  have hb := cx.1.2.1
  refine lv_iload_n hx hb dX7_isStop_0 rfl (lv_at hl 0 rfl) ?_
  refine lv_iconst (v := 1) hx hb dX7_isStop_1 (by decide) ?_
  refine lv_iconst (v := 4) hx hb dX7_isStop_2 (by decide) ?_
  refine goI hw (runSW (As := [.int v, .int 1, .int 4]) (rest := []) cx hw (c_X7_isFromTo l D a cI cZ f u v 1 4 ) lk_X7_75 ⟨Nat.le_of_ble_eq_true rfl, Nat.le_of_ble_eq_true rfl⟩ ⟨rfl, rfl⟩ ⟨Nat.zero_le _, Nat.zero_le _⟩ rfl rfl hl.1 (Nat.le_of_ble_eq_true rfl) dX7_isStop_3) (fun r_1 f2 u2 H locs hp hw => ?_)
  obtain ⟨rfl, rfl, e_1⟩ := hp
  refine topc e_1 ?_
  exact retZ cx hw hr hk (nar_rg _ _ _) dX7_isStop_6 ⟨rfl, rfl, rfl⟩

set_option maxHeartbeats 4000000 in
set_option maxRecDepth 100000 in
theorem c_X7_isPhase (l : Launch) (D : va_G) (a : Nat → Nat) (cI cZ : ClassId) (f : FF) (u : UU) (v : Int32)   : KI l yX7_isPhase cX7_isPhase 1 (some .boolean) ({ frames := 1, cells := 0, slots := 0, locals := 12 } : Room) D a cI cZ [.int v] f u (fun r f2 u2 => f = f2 ∧ u = u2 ∧ r = (rg v 0 1)) := by
  refine KX.of (by decide) (Nat.le_of_ble_eq_true rfl) ?_
  intro p e s m below meth c cx hw hr hk ls hl
  have cx : Cx p s m _ c cX7_isPhase RX7 1 D cI cZ := cx
  have hl : lv_has ls 1 [(0, .int v)] := hl
  have hx := cx.1.1
  have hb := cx.1.2.1
  refine lv_iload_n hx hb dX7_isPhase_0 rfl (lv_at hl 0 rfl) ?_
  refine lv_if_eq (tgt := 9) hx hb dX7_isPhase_1 (by decide) (fun c_1 => ?_) (fun c_1 => ?_)
  · refine lv_iconst (v := 1) hx hb dX7_isPhase_9 (by decide) ?_
    refine lv_goto (tgt := 14) hx hb dX7_isPhase_10 (by decide) ?_
    exact retZ cx hw hr hk rfl dX7_isPhase_14 ⟨rfl, rfl, (rg_ph1 c_1)⟩
  · refine lv_iload_n hx hb dX7_isPhase_4 rfl (lv_at hl 0 rfl) ?_
    refine lv_iconst (v := 1) hx hb dX7_isPhase_5 (by decide) ?_
    refine lv_icmp_ne (tgt := 13) hx hb dX7_isPhase_6 (by decide) (fun c_2 => ?_) (fun c_2 => ?_)
    · refine lv_iconst (v := 0) hx hb dX7_isPhase_13 (by decide) ?_
      exact retZ cx hw hr hk rfl dX7_isPhase_14 ⟨rfl, rfl, (rg_ph3 c_1 c_2)⟩
    · refine lv_iconst (v := 1) hx hb dX7_isPhase_9 (by decide) ?_
      refine lv_goto (tgt := 14) hx hb dX7_isPhase_10 (by decide) ?_
      exact retZ cx hw hr hk rfl dX7_isPhase_14 ⟨rfl, rfl, (rg_ph2 c_1 c_2)⟩

set_option maxHeartbeats 4000000 in
set_option maxRecDepth 100000 in
theorem c_X7_limitsOf_4 (l : Launch) (D : va_G) (a : Nat → Nat) (cI cZ : ClassId) (f : FF) (u : UU)    : KR l yX7_limitsOf cX7_limitsOf 2 (some (.object "TrimSheet$Limits")) ({ frames := 1, cells := 0, slots := 0, locals := 12 } : Room) D a cI cZ [.ref (a 0), .int 0] f u (fun r f2 u2 => f = f2 ∧ u = u2 ∧ r = 4) := by
  refine KX.of (by decide) (Nat.le_of_ble_eq_true rfl) ?_
  intro p e s m below meth c cx hw hr hk ls hl
  have cx : Cx p s m _ c cX7_limitsOf RX7 2 D cI cZ := cx
  have hl : lv_has ls 2 [(0, .ref (a 0)), (1, .int 0)] := hl
  have hx := cx.1.1
  have hb := cx.1.2.1
  refine lv_iload_n hx hb dX7_limitsOf_0 rfl (lv_at hl 1 rfl) ?_
  refine lv_if_ne (tgt := 11) hx hb dX7_limitsOf_1 (by decide) (fun q => absurd (by decide) q) (fun _ => ?_)
  refine lv_aload_n hx hb dX7_limitsOf_4 rfl (lv_at hl 0 rfl) ?_
  refine gf_X7_42 cx hw dX7_limitsOf_5 ?_
  refine lv_goto (tgt := 15) hx hb dX7_limitsOf_8 (by decide) ?_
  exact retR (k := 4) cx hw hr hk dX7_limitsOf_15 ⟨rfl, rfl, rfl⟩

set_option maxHeartbeats 4000000 in
set_option maxRecDepth 100000 in
theorem c_X7_limitsOf_5 (l : Launch) (D : va_G) (a : Nat → Nat) (cI cZ : ClassId) (f : FF) (u : UU)    : KR l yX7_limitsOf cX7_limitsOf 2 (some (.object "TrimSheet$Limits")) ({ frames := 1, cells := 0, slots := 0, locals := 12 } : Room) D a cI cZ [.ref (a 0), .int 1] f u (fun r f2 u2 => f = f2 ∧ u = u2 ∧ r = 5) := by
  refine KX.of (by decide) (Nat.le_of_ble_eq_true rfl) ?_
  intro p e s m below meth c cx hw hr hk ls hl
  have cx : Cx p s m _ c cX7_limitsOf RX7 2 D cI cZ := cx
  have hl : lv_has ls 2 [(0, .ref (a 0)), (1, .int 1)] := hl
  have hx := cx.1.1
  have hb := cx.1.2.1
  refine lv_iload_n hx hb dX7_limitsOf_0 rfl (lv_at hl 1 rfl) ?_
  refine lv_if_ne (tgt := 11) hx hb dX7_limitsOf_1 (by decide) (fun _ => ?_) (fun q => absurd q (by decide))
  refine lv_aload_n hx hb dX7_limitsOf_11 rfl (lv_at hl 0 rfl) ?_
  refine gf_X7_46 cx hw dX7_limitsOf_12 ?_
  exact retR (k := 5) cx hw hr hk dX7_limitsOf_15 ⟨rfl, rfl, rfl⟩

set_option maxHeartbeats 4000000 in
set_option maxRecDepth 100000 in
theorem c_X1_hasHold (l : Launch) (D : va_G) (a : Nat → Nat) (cI cZ : ClassId) (f : FF) (u : UU) (h : Int32) (h1_3 : f 1 3 = 0)  : KI l yX1_hasHold cX1_hasHold 2 (some .boolean) ({ frames := 1, cells := 0, slots := 0, locals := 12 } : Room) D a cI cZ [.ref (a 1), .int h] f u (fun r f2 u2 => f = f2 ∧ u = u2 ∧ r = 0) := by
  refine KX.of (by decide) (Nat.le_of_ble_eq_true rfl) ?_
  intro p e s m below meth c cx hw hr hk ls hl
  have cx : Cx p s m _ c cX1_hasHold RX1 2 D cI cZ := cx
  have hl : lv_has ls 2 [(0, .ref (a 1)), (1, .int h)] := hl
  have hx := cx.1.1
  have hb := cx.1.2.1
  refine lv_iload_n hx hb dX1_hasHold_0 rfl (lv_at hl 1 rfl) ?_
  refine lv_if_lt (tgt := 16) hx hb dX1_hasHold_1 (by decide) (fun c_1 => ?_) (fun c_1 => ?_)
  · refine lv_iconst (v := 0) hx hb dX1_hasHold_16 (by decide) ?_
    exact retZ cx hw hr hk rfl dX1_hasHold_17 ⟨rfl, rfl, rfl⟩
  · refine lv_iload_n hx hb dX1_hasHold_4 rfl (lv_at hl 1 rfl) ?_
    refine lv_aload_n hx hb dX1_hasHold_5 rfl (lv_at hl 0 rfl) ?_
    refine gf_X1_21 cx hw dX1_hasHold_6 ?_
    refine topc (y := 0) h1_3 ?_
    refine lv_icmp_ge (tgt := 16) hx hb dX1_hasHold_9 (by decide) (fun c_2 => ?_) (fun c_2 => ?_)
    · refine lv_iconst (v := 0) hx hb dX1_hasHold_16 (by decide) ?_
      exact retZ cx hw hr hk rfl dX1_hasHold_17 ⟨rfl, rfl, rfl⟩
    · refine lv_iconst (v := 1) hx hb dX1_hasHold_12 (by decide) ?_
      refine lv_goto (tgt := 17) hx hb dX1_hasHold_13 (by decide) ?_
      exact retZ cx hw hr hk rfl dX1_hasHold_17 ⟨rfl, rfl, absurd (Int32.not_le.mp c_2) c_1⟩

set_option maxHeartbeats 4000000 in
set_option maxRecDepth 100000 in
theorem c_X1_hasItem (l : Launch) (D : va_G) (a : Nat → Nat) (cI cZ : ClassId) (f : FF) (u : UU) (h : Int32) (h1_12 : f 1 12 = 0)  : KI l yX1_hasItem cX1_hasItem 2 (some .boolean) ({ frames := 1, cells := 0, slots := 0, locals := 12 } : Room) D a cI cZ [.ref (a 1), .int h] f u (fun r f2 u2 => f = f2 ∧ u = u2 ∧ r = 0) := by
  refine KX.of (by decide) (Nat.le_of_ble_eq_true rfl) ?_
  intro p e s m below meth c cx hw hr hk ls hl
  have cx : Cx p s m _ c cX1_hasItem RX1 2 D cI cZ := cx
  have hl : lv_has ls 2 [(0, .ref (a 1)), (1, .int h)] := hl
  have hx := cx.1.1
  have hb := cx.1.2.1
  refine lv_iload_n hx hb dX1_hasItem_0 rfl (lv_at hl 1 rfl) ?_
  refine lv_if_lt (tgt := 16) hx hb dX1_hasItem_1 (by decide) (fun c_1 => ?_) (fun c_1 => ?_)
  · refine lv_iconst (v := 0) hx hb dX1_hasItem_16 (by decide) ?_
    exact retZ cx hw hr hk rfl dX1_hasItem_17 ⟨rfl, rfl, rfl⟩
  · refine lv_iload_n hx hb dX1_hasItem_4 rfl (lv_at hl 1 rfl) ?_
    refine lv_aload_n hx hb dX1_hasItem_5 rfl (lv_at hl 0 rfl) ?_
    refine gf_X1_49 cx hw dX1_hasItem_6 ?_
    refine topc (y := 0) h1_12 ?_
    refine lv_icmp_ge (tgt := 16) hx hb dX1_hasItem_9 (by decide) (fun c_2 => ?_) (fun c_2 => ?_)
    · refine lv_iconst (v := 0) hx hb dX1_hasItem_16 (by decide) ?_
      exact retZ cx hw hr hk rfl dX1_hasItem_17 ⟨rfl, rfl, rfl⟩
    · refine lv_iconst (v := 1) hx hb dX1_hasItem_12 (by decide) ?_
      refine lv_goto (tgt := 17) hx hb dX1_hasItem_13 (by decide) ?_
      exact retZ cx hw hr hk rfl dX1_hasItem_17 ⟨rfl, rfl, absurd (Int32.not_le.mp c_2) c_1⟩

set_option maxHeartbeats 4000000 in
set_option maxRecDepth 100000 in
theorem c_X1_hasSlot (l : Launch) (D : va_G) (a : Nat → Nat) (cI cZ : ClassId) (f : FF) (u : UU) (h : Int32) (k : Int32) (h1_3 : f 1 3 = 0)  : KI l yX1_hasSlot cX1_hasSlot 3 (some .boolean) ({ frames := 2, cells := 0, slots := 0, locals := 33 } : Room) D a cI cZ [.ref (a 1), .int h, .int k] f u (fun r f2 u2 => f = f2 ∧ u = u2 ∧ r = 0) := by
  refine KX.of (by decide) (Nat.le_of_ble_eq_true rfl) ?_
  intro p e s m below meth c cx hw hr hk ls hl
  have cx : Cx p s m _ c cX1_hasSlot RX1 3 D cI cZ := cx
  have hl : lv_has ls 3 [(0, .ref (a 1)), (1, .int h), (2, .int k)] := hl
  have hx := cx.1.1
  have hb := cx.1.2.1
  refine lv_aload_n hx hb dX1_hasSlot_0 rfl (lv_at hl 0 rfl) ?_
  refine lv_iload_n hx hb dX1_hasSlot_1 rfl (lv_at hl 1 rfl) ?_
  refine goI hw (runVW (k := 1) (As := [.int h]) (rest := []) cx hw (c_X1_hasHold l D a cI cZ f u h h1_3) lk_X1_61 rfl rfl ⟨Nat.le_of_ble_eq_true rfl, Nat.le_of_ble_eq_true rfl⟩ ⟨rfl, rfl⟩ ⟨Nat.zero_le _, Nat.zero_le _⟩ rfl rfl hl.1 (Nat.le_of_ble_eq_true rfl) dX1_hasSlot_2) (fun r_1 f2 u2 H locs hp hw => ?_)
  obtain ⟨rfl, rfl, e_1⟩ := hp
  refine topc e_1 ?_
  refine lv_if_eq (tgt := 26) hx hb dX1_hasSlot_5 (by decide) (fun _ => ?_) (fun q => absurd (by decide) q)
  refine lv_iconst (v := 0) hx hb dX1_hasSlot_26 (by decide) ?_
  exact retZ cx hw hr hk rfl dX1_hasSlot_27 ⟨rfl, rfl, rfl⟩

set_option maxHeartbeats 4000000 in
set_option maxRecDepth 100000 in
theorem c_X1_addHold (l : Launch) (D : va_G) (a : Nat → Nat) (cI cZ : ClassId) (f : FF) (u : UU) (mo : Int32) (fl : Int32) (h1_3 : f 1 3 = 0)  : KI l yX1_addHold cX1_addHold 3 (some .int) ({ frames := 1, cells := 0, slots := 0, locals := 12 } : Room) D a cI cZ [.ref (a 1), .int mo, .int fl] f u (fun r f2 _ => r = 0 ∧ KP f f2) := by
  refine KX.of (by decide) (Nat.le_of_ble_eq_true rfl) ?_
  intro p e s m below meth c cx hw hr hk ls hl
  have cx : Cx p s m _ c cX1_addHold RX1 3 D cI cZ := cx
  have hl : lv_has ls 3 [(0, .ref (a 1)), (1, .int mo), (2, .int fl)] := hl
  have hx := cx.1.1
  have hb := cx.1.2.1
  refine lv_aload_n hx hb dX1_addHold_0 rfl (lv_at hl 0 rfl) ?_
  refine gf_X1_21 cx hw dX1_addHold_1 ?_
  refine topc (y := 0) h1_3 ?_
  refine lv_iconst (v := 4) hx hb dX1_addHold_4 (by decide) ?_
  refine lv_icmp_lt (tgt := 11) hx hb dX1_addHold_5 (by decide) (fun _ => ?_) (fun q => absurd (by decide) q)
  refine lv_aload_n hx hb dX1_addHold_11 rfl (lv_at hl 0 rfl) ?_
  refine gf_X1_11 cx hw dX1_addHold_12 ?_
  refine lv_aload_n hx hb dX1_addHold_15 rfl (lv_at hl 0 rfl) ?_
  refine gf_X1_21 cx hw dX1_addHold_16 ?_
  refine topc (y := 0) h1_3 ?_
  refine lv_iload_n hx hb dX1_addHold_19 rfl (lv_at hl 1 rfl) ?_
  refine astC 9 0 cx hw rfl ws_9 (by decide) (by decide) dX1_addHold_20 (fun H locs hw => ?_)
  refine lv_aload_n hx hb dX1_addHold_21 rfl (lv_at hl 0 rfl) ?_
  refine gf_X1_15 cx hw dX1_addHold_22 ?_
  refine lv_aload_n hx hb dX1_addHold_25 rfl (lv_at hl 0 rfl) ?_
  refine gf_X1_21 cx hw dX1_addHold_26 ?_
  refine topc (y := 0) h1_3 ?_
  refine lv_iload_n hx hb dX1_addHold_29 rfl (lv_at hl 2 rfl) ?_
  refine astC 10 0 cx hw rfl ws_10 (by decide) (by decide) dX1_addHold_30 (fun H locs hw => ?_)
  refine lv_aload_n hx hb dX1_addHold_31 rfl (lv_at hl 0 rfl) ?_
  refine lv_dup hx hb dX1_addHold_32 rfl ?_
  refine gf_X1_21 cx hw dX1_addHold_33 ?_
  refine topc (y := 0) h1_3 ?_
  refine lv_dup_x1 hx hb dX1_addHold_36 rfl rfl ?_
  refine lv_iconst (v := 1) hx hb dX1_addHold_37 (by decide) ?_
  refine lv_iadd hx hb dX1_addHold_38 ?_
  refine topc (y := 1) (by decide) ?_
  refine pf_X1_21 cx hw dX1_addHold_39 (fun H locs hw => ?_)
  exact retI cx hw hr hk dX1_addHold_42 ⟨rfl, (KP.up (by decide) (KP.up (by decide) (KP.up (by decide) KP.rf)))⟩

set_option maxHeartbeats 4000000 in
set_option maxRecDepth 100000 in
theorem c_X1_setDistance (l : Launch) (D : va_G) (a : Nat → Nat) (cI cZ : ClassId) (f : FF) (u : UU) (x : Int32) (y : Int32) (d : Int32)  (hx8 : ¬ rg x 0 7 = 0) (hy8 : ¬ rg y 0 7 = 0) (hz : ∀ i, f 20 i = 0) : KI l yX1_setDistance cX1_setDistance 5 (some .int) ({ frames := 1, cells := 0, slots := 0, locals := 12 } : Room) D a cI cZ [.ref (a 1), .int x, .int y, .int d] f u (fun r f2 _ => r = 0 ∧ KP f f2) := by
  refine KX.of (by decide) (Nat.le_of_ble_eq_true rfl) ?_
  intro p e s m below meth c cx hw hr hk ls hl
  have cx : Cx p s m _ c cX1_setDistance RX1 5 D cI cZ := cx
  have hl : lv_has ls 5 [(0, .ref (a 1)), (1, .int x), (2, .int y), (3, .int d)] := hl
  have hx := cx.1.1
  have hb := cx.1.2.1
  refine lv_aload_n hx hb dX1_setDistance_0 rfl (lv_at hl 0 rfl) ?_
  refine gf_X1_52 cx hw dX1_setDistance_1 ?_
  refine lv_iload_n hx hb dX1_setDistance_4 rfl (lv_at hl 1 rfl) ?_
  refine lv_bipush (v := 8) hx hb dX1_setDistance_5 (by decide) ?_
  refine lv_imul hx hb dX1_setDistance_7 ?_
  refine lv_iload_n hx hb dX1_setDistance_8 rfl (lv_at hl 2 rfl) ?_
  refine lv_iadd hx hb dX1_setDistance_9 ?_
  refine aldW 20 cx hw rfl (ix8 hx8 hy8) dX1_setDistance_10 ?_
  refine topc (y := 0) (hz _) ?_
  refine lv_istore (lv' := [(4, .int 0), (0, .ref (a 1)), (1, .int x), (2, .int y), (3, .int d)]) hx hb dX1_setDistance_11 hl (by decide) rfl (fun ls hl => ?_)
  refine lv_aload_n hx hb dX1_setDistance_13 rfl (lv_at hl 1 rfl) ?_
  refine gf_X1_52 cx hw dX1_setDistance_14 ?_
  refine lv_iload_n hx hb dX1_setDistance_17 rfl (lv_at hl 2 rfl) ?_
  refine lv_bipush (v := 8) hx hb dX1_setDistance_18 (by decide) ?_
  refine lv_imul hx hb dX1_setDistance_20 ?_
  refine lv_iload_n hx hb dX1_setDistance_21 rfl (lv_at hl 3 rfl) ?_
  refine lv_iadd hx hb dX1_setDistance_22 ?_
  refine lv_iload_n hx hb dX1_setDistance_23 rfl (lv_at hl 4 rfl) ?_
  refine astW 20 cx hw rfl ws_20 (ix8 hx8 hy8) dX1_setDistance_24 (fun H locs hw => ?_)
  refine lv_aload_n hx hb dX1_setDistance_25 rfl (lv_at hl 1 rfl) ?_
  refine gf_X1_52 cx hw dX1_setDistance_26 ?_
  refine lv_iload_n hx hb dX1_setDistance_29 rfl (lv_at hl 3 rfl) ?_
  refine lv_bipush (v := 8) hx hb dX1_setDistance_30 (by decide) ?_
  refine lv_imul hx hb dX1_setDistance_32 ?_
  refine lv_iload_n hx hb dX1_setDistance_33 rfl (lv_at hl 2 rfl) ?_
  refine lv_iadd hx hb dX1_setDistance_34 ?_
  refine lv_iload_n hx hb dX1_setDistance_35 rfl (lv_at hl 4 rfl) ?_
  refine astW 20 cx hw rfl ws_20 (ix8 hy8 hx8) dX1_setDistance_36 (fun H locs hw => ?_)
  refine lv_iload hx hb dX1_setDistance_37 (lv_at hl 0 rfl) ?_
  exact retI cx hw hr hk dX1_setDistance_39 ⟨rfl, (KP.up (by decide) (KP.up (by decide) KP.rf))⟩

set_option maxHeartbeats 4000000 in
set_option maxRecDepth 100000 in
theorem c_X1_rankByWeight (l : Launch) (D : va_G) (a : Nat → Nat) (cI cZ : ClassId) (f : FF) (u : UU) (we : Int32)   : KV l yX1_rankByWeight cX1_rankByWeight 4 none ({ frames := 1, cells := 0, slots := 0, locals := 12 } : Room) D a cI cZ [.ref (a 1), .int 0, .int we] f u (fun f2 u2 => (up f 19 (upd (f 19) 0 0)) = f2 ∧ u = u2) := by
  refine KX.of (by decide) (Nat.le_of_ble_eq_true rfl) ?_
  intro p e s m below meth c cx hw hr hk ls hl
  have cx : Cx p s m _ c cX1_rankByWeight RX1 4 D cI cZ := cx
  have hl : lv_has ls 4 [(0, .ref (a 1)), (1, .int 0), (2, .int we)] := hl
  have hx := cx.1.1
  have hb := cx.1.2.1
  refine lv_iload_n hx hb dX1_rankByWeight_0 rfl (lv_at hl 1 rfl) ?_
  refine lv_istore_n (lv' := [(3, .int 0), (0, .ref (a 1)), (1, .int 0), (2, .int we)]) hx hb dX1_rankByWeight_1 rfl hl (by decide) rfl (fun ls hl => ?_)
  refine lv_iload_n hx hb dX1_rankByWeight_2 rfl (lv_at hl 0 rfl) ?_
  refine lv_if_le (tgt := 43) hx hb dX1_rankByWeight_3 (by decide) (fun _ => ?_) (fun q => absurd (by decide) q)
  refine lv_aload_n hx hb dX1_rankByWeight_43 rfl (lv_at hl 1 rfl) ?_
  refine gf_X1_46 cx hw dX1_rankByWeight_44 ?_
  refine lv_iload_n hx hb dX1_rankByWeight_47 rfl (lv_at hl 0 rfl) ?_
  refine lv_iload_n hx hb dX1_rankByWeight_48 rfl (lv_at hl 2 rfl) ?_
  refine astC 19 0 cx hw rfl ws_19 (by decide) (by decide) dX1_rankByWeight_49 (fun H locs hw => ?_)
  exact retV cx hw hr hk dX1_rankByWeight_50 ⟨rfl, rfl⟩

set_option maxHeartbeats 4000000 in
set_option maxRecDepth 100000 in
theorem c_X1_addItem (l : Launch) (D : va_G) (a : Nat → Nat) (cI cZ : ClassId) (f : FF) (u : UU) (we : Int32) (ki : Int32) (sp : Int32) (h1_12 : f 1 12 = 0)  : KI l yX1_addItem cX1_addItem 4 (some .int) ({ frames := 2, cells := 0, slots := 0, locals := 35 } : Room) D a cI cZ [.ref (a 1), .int we, .int ki, .int sp] f u (fun r f2 _ => r = 0 ∧ KP f f2) := by
  refine KX.of (by decide) (Nat.le_of_ble_eq_true rfl) ?_
  intro p e s m below meth c cx hw hr hk ls hl
  have cx : Cx p s m _ c cX1_addItem RX1 4 D cI cZ := cx
  have hl : lv_has ls 4 [(0, .ref (a 1)), (1, .int we), (2, .int ki), (3, .int sp)] := hl
  have hx := cx.1.1
  have hb := cx.1.2.1
  refine lv_aload_n hx hb dX1_addItem_0 rfl (lv_at hl 0 rfl) ?_
  refine gf_X1_49 cx hw dX1_addItem_1 ?_
  refine topc (y := 0) h1_12 ?_
  refine lv_bipush (v := 40) hx hb dX1_addItem_4 (by decide) ?_
  refine lv_icmp_lt (tgt := 12) hx hb dX1_addItem_6 (by decide) (fun _ => ?_) (fun q => absurd (by decide) q)
  refine lv_aload_n hx hb dX1_addItem_12 rfl (lv_at hl 0 rfl) ?_
  refine gf_X1_34 cx hw dX1_addItem_13 ?_
  refine lv_aload_n hx hb dX1_addItem_16 rfl (lv_at hl 0 rfl) ?_
  refine gf_X1_49 cx hw dX1_addItem_17 ?_
  refine topc (y := 0) h1_12 ?_
  refine lv_iload_n hx hb dX1_addItem_20 rfl (lv_at hl 1 rfl) ?_
  refine astC 15 0 cx hw rfl ws_15 (by decide) (by decide) dX1_addItem_21 (fun H locs hw => ?_)
  refine lv_aload_n hx hb dX1_addItem_22 rfl (lv_at hl 0 rfl) ?_
  refine gf_X1_37 cx hw dX1_addItem_23 ?_
  refine lv_aload_n hx hb dX1_addItem_26 rfl (lv_at hl 0 rfl) ?_
  refine gf_X1_49 cx hw dX1_addItem_27 ?_
  refine topc (y := 0) h1_12 ?_
  refine lv_iload_n hx hb dX1_addItem_30 rfl (lv_at hl 2 rfl) ?_
  refine astC 16 0 cx hw rfl ws_16 (by decide) (by decide) dX1_addItem_31 (fun H locs hw => ?_)
  refine lv_aload_n hx hb dX1_addItem_32 rfl (lv_at hl 0 rfl) ?_
  refine gf_X1_40 cx hw dX1_addItem_33 ?_
  refine lv_aload_n hx hb dX1_addItem_36 rfl (lv_at hl 0 rfl) ?_
  refine gf_X1_49 cx hw dX1_addItem_37 ?_
  refine topc (y := 0) h1_12 ?_
  refine lv_iload_n hx hb dX1_addItem_40 rfl (lv_at hl 3 rfl) ?_
  refine astC 17 0 cx hw rfl ws_17 (by decide) (by decide) dX1_addItem_41 (fun H locs hw => ?_)
  refine lv_aload_n hx hb dX1_addItem_42 rfl (lv_at hl 0 rfl) ?_
  refine lv_aload_n hx hb dX1_addItem_43 rfl (lv_at hl 0 rfl) ?_
  refine gf_X1_49 cx hw dX1_addItem_44 ?_
  refine topc (y := 0) h1_12 ?_
  refine lv_iload_n hx hb dX1_addItem_47 rfl (lv_at hl 1 rfl) ?_
  refine goV hw (runVW (k := 1) (As := [.int 0, .int we]) (rest := []) cx hw (c_X1_rankByWeight l D a cI cZ (up (up (up f 15 (upd (f 15) 0 we)) 16 (upd ((up f 15 (upd (f 15) 0 we)) 16) 0 ki)) 17 (upd ((up (up f 15 (upd (f 15) 0 we)) 16 (upd ((up f 15 (upd (f 15) 0 we)) 16) 0 ki)) 17) 0 sp)) u we ) lk_X1_69 rfl rfl ⟨Nat.le_of_ble_eq_true rfl, Nat.le_of_ble_eq_true rfl⟩ ⟨rfl, rfl⟩ ⟨Nat.zero_le _, Nat.zero_le _⟩ rfl rfl hl.1 (Nat.le_of_ble_eq_true rfl) dX1_addItem_48) (fun f2 u2 H locs hp hw => ?_)
  obtain ⟨rfl, rfl⟩ := hp
  refine lv_aload_n hx hb dX1_addItem_51 rfl (lv_at hl 0 rfl) ?_
  refine lv_dup hx hb dX1_addItem_52 rfl ?_
  refine gf_X1_49 cx hw dX1_addItem_53 ?_
  refine topc (y := 0) h1_12 ?_
  refine lv_dup_x1 hx hb dX1_addItem_56 rfl rfl ?_
  refine lv_iconst (v := 1) hx hb dX1_addItem_57 (by decide) ?_
  refine lv_iadd hx hb dX1_addItem_58 ?_
  refine topc (y := 1) (by decide) ?_
  refine pf_X1_49 cx hw dX1_addItem_59 (fun H locs hw => ?_)
  exact retI cx hw hr hk dX1_addItem_62 ⟨rfl, (KP.up (by decide) (KP.up (by decide) (KP.up (by decide) (KP.up (by decide) (KP.up (by decide) KP.rf)))))⟩

set_option maxHeartbeats 4000000 in
set_option maxRecDepth 100000 in
theorem c_X1_loadedWeight (l : Launch) (D : va_G) (a : Nat → Nat) (cI cZ : ClassId) (f : FF) (u : UU)  (h1_12 : f 1 12 = 0)  : KI l yX1_loadedWeight cX1_loadedWeight 3 (some .int) ({ frames := 1, cells := 0, slots := 0, locals := 12 } : Room) D a cI cZ [.ref (a 1)] f u (fun r f2 u2 => f = f2 ∧ u = u2 ∧ r = 0) := by
  refine KX.of (by decide) (Nat.le_of_ble_eq_true rfl) ?_
  intro p e s m below meth c cx hw hr hk ls hl
  have cx : Cx p s m _ c cX1_loadedWeight RX1 3 D cI cZ := cx
  have hl : lv_has ls 3 [(0, .ref (a 1))] := hl
  have hx := cx.1.1
  have hb := cx.1.2.1
  refine lv_iconst (v := 0) hx hb dX1_loadedWeight_0 (by decide) ?_
  refine lv_istore_n (lv' := [(1, .int 0), (0, .ref (a 1))]) hx hb dX1_loadedWeight_1 rfl hl (by decide) rfl (fun ls hl => ?_)
  refine lv_iconst (v := 0) hx hb dX1_loadedWeight_2 (by decide) ?_
  refine lv_istore_n (lv' := [(2, .int 0), (1, .int 0), (0, .ref (a 1))]) hx hb dX1_loadedWeight_3 rfl hl (by decide) rfl (fun ls hl => ?_)
  refine lv_iload_n hx hb dX1_loadedWeight_4 rfl (lv_at hl 0 rfl) ?_
  refine lv_aload_n hx hb dX1_loadedWeight_5 rfl (lv_at hl 2 rfl) ?_
  refine gf_X1_49 cx hw dX1_loadedWeight_6 ?_
  refine topc (y := 0) h1_12 ?_
  refine lv_icmp_ge (tgt := 35) hx hb dX1_loadedWeight_9 (by decide) (fun _ => ?_) (fun q => absurd (by decide) q)
  refine lv_iload_n hx hb dX1_loadedWeight_35 rfl (lv_at hl 1 rfl) ?_
  exact retI cx hw hr hk dX1_loadedWeight_36 ⟨rfl, rfl, rfl⟩

set_option maxHeartbeats 4000000 in
set_option maxRecDepth 100000 in
theorem c_X1_loadedMoment (l : Launch) (D : va_G) (a : Nat → Nat) (cI cZ : ClassId) (f : FF) (u : UU)  (h1_12 : f 1 12 = 0)  : KL l yX1_loadedMoment cX1_loadedMoment 4 (some .long) ({ frames := 1, cells := 0, slots := 0, locals := 12 } : Room) D a cI cZ [.ref (a 1)] f u (fun r f2 u2 => f = f2 ∧ u = u2 ∧ r = 0) := by
  refine KX.of (by decide) (Nat.le_of_ble_eq_true rfl) ?_
  intro p e s m below meth c cx hw hr hk ls hl
  have cx : Cx p s m _ c cX1_loadedMoment RX1 4 D cI cZ := cx
  have hl : lv_has ls 4 [(0, .ref (a 1))] := hl
  have hx := cx.1.1
  have hb := cx.1.2.1
  refine lv_lconst (v := 0) hx hb dX1_loadedMoment_0 (by decide) ?_
  refine lv_lstore_n (lv' := [(1, .long 0), (0, .ref (a 1))]) hx hb dX1_loadedMoment_1 rfl hl (by decide) rfl (fun ls hl => ?_)
  refine lv_iconst (v := 0) hx hb dX1_loadedMoment_2 (by decide) ?_
  refine lv_istore_n (lv' := [(3, .int 0), (1, .long 0), (0, .ref (a 1))]) hx hb dX1_loadedMoment_3 rfl hl (by decide) rfl (fun ls hl => ?_)
  refine lv_iload_n hx hb dX1_loadedMoment_4 rfl (lv_at hl 0 rfl) ?_
  refine lv_aload_n hx hb dX1_loadedMoment_5 rfl (lv_at hl 2 rfl) ?_
  refine gf_X1_49 cx hw dX1_loadedMoment_6 ?_
  refine topc (y := 0) h1_12 ?_
  refine lv_icmp_ge (tgt := 41) hx hb dX1_loadedMoment_9 (by decide) (fun _ => ?_) (fun q => absurd (by decide) q)
  refine lv_lload_n hx hb dX1_loadedMoment_41 rfl (lv_at hl 1 rfl) ?_
  exact retL cx hw hr hk dX1_loadedMoment_42 ⟨rfl, rfl, rfl⟩

set_option maxHeartbeats 4000000 in
set_option maxRecDepth 100000 in
theorem c_X1_pushedInAll (l : Launch) (D : va_G) (a : Nat → Nat) (cI cZ : ClassId) (f : FF) (u : UU) (sp : Int32) (h1_3 : f 1 3 = 0)  : KI l yX1_pushedInAll cX1_pushedInAll 4 (some .int) ({ frames := 1, cells := 0, slots := 0, locals := 12 } : Room) D a cI cZ [.ref (a 1), .int sp] f u (fun r f2 u2 => f = f2 ∧ u = u2 ∧ r = 0) := by
  refine KX.of (by decide) (Nat.le_of_ble_eq_true rfl) ?_
  intro p e s m below meth c cx hw hr hk ls hl
  have cx : Cx p s m _ c cX1_pushedInAll RX1 4 D cI cZ := cx
  have hl : lv_has ls 4 [(0, .ref (a 1)), (1, .int sp)] := hl
  have hx := cx.1.1
  have hb := cx.1.2.1
  refine lv_iconst (v := 0) hx hb dX1_pushedInAll_0 (by decide) ?_
  refine lv_istore_n (lv' := [(2, .int 0), (0, .ref (a 1)), (1, .int sp)]) hx hb dX1_pushedInAll_1 rfl hl (by decide) rfl (fun ls hl => ?_)
  refine lv_iconst (v := 0) hx hb dX1_pushedInAll_2 (by decide) ?_
  refine lv_istore_n (lv' := [(3, .int 0), (2, .int 0), (0, .ref (a 1)), (1, .int sp)]) hx hb dX1_pushedInAll_3 rfl hl (by decide) rfl (fun ls hl => ?_)
  refine lv_iload_n hx hb dX1_pushedInAll_4 rfl (lv_at hl 0 rfl) ?_
  refine lv_aload_n hx hb dX1_pushedInAll_5 rfl (lv_at hl 2 rfl) ?_
  refine gf_X1_21 cx hw dX1_pushedInAll_6 ?_
  refine topc (y := 0) h1_3 ?_
  refine lv_icmp_ge (tgt := 27) hx hb dX1_pushedInAll_9 (by decide) (fun _ => ?_) (fun q => absurd (by decide) q)
  refine lv_iload_n hx hb dX1_pushedInAll_27 rfl (lv_at hl 1 rfl) ?_
  exact retI cx hw hr hk dX1_pushedInAll_28 ⟨rfl, rfl, rfl⟩

set_option maxHeartbeats 4000000 in
set_option maxRecDepth 100000 in
theorem c_X1_takeOutAllOf (l : Launch) (D : va_G) (a : Nat → Nat) (cI cZ : ClassId) (f : FF) (u : UU) (sp : Int32) (h1_12 : f 1 12 = 0)  : KI l yX1_takeOutAllOf cX1_takeOutAllOf 4 (some .int) ({ frames := 1, cells := 0, slots := 0, locals := 12 } : Room) D a cI cZ [.ref (a 1), .int sp] f u (fun r f2 u2 => f = f2 ∧ u = u2 ∧ r = 0) := by
  refine KX.of (by decide) (Nat.le_of_ble_eq_true rfl) ?_
  intro p e s m below meth c cx hw hr hk ls hl
  have cx : Cx p s m _ c cX1_takeOutAllOf RX1 4 D cI cZ := cx
  have hl : lv_has ls 4 [(0, .ref (a 1)), (1, .int sp)] := hl
  have hx := cx.1.1
  have hb := cx.1.2.1
  refine lv_iconst (v := 0) hx hb dX1_takeOutAllOf_0 (by decide) ?_
  refine lv_istore_n (lv' := [(2, .int 0), (0, .ref (a 1)), (1, .int sp)]) hx hb dX1_takeOutAllOf_1 rfl hl (by decide) rfl (fun ls hl => ?_)
  refine lv_iconst (v := 0) hx hb dX1_takeOutAllOf_2 (by decide) ?_
  refine lv_istore_n (lv' := [(3, .int 0), (2, .int 0), (0, .ref (a 1)), (1, .int sp)]) hx hb dX1_takeOutAllOf_3 rfl hl (by decide) rfl (fun ls hl => ?_)
  refine lv_iload_n hx hb dX1_takeOutAllOf_4 rfl (lv_at hl 0 rfl) ?_
  refine lv_aload_n hx hb dX1_takeOutAllOf_5 rfl (lv_at hl 2 rfl) ?_
  refine gf_X1_49 cx hw dX1_takeOutAllOf_6 ?_
  refine topc (y := 0) h1_12 ?_
  refine lv_icmp_ge (tgt := 44) hx hb dX1_takeOutAllOf_9 (by decide) (fun _ => ?_) (fun q => absurd (by decide) q)
  refine lv_iload_n hx hb dX1_takeOutAllOf_44 rfl (lv_at hl 1 rfl) ?_
  exact retI cx hw hr hk dX1_takeOutAllOf_45 ⟨rfl, rfl, rfl⟩

set_option maxHeartbeats 4000000 in
set_option maxRecDepth 100000 in
theorem c_X1_loadHeaviestFirst (l : Launch) (D : va_G) (a : Nat → Nat) (cI cZ : ClassId) (f : FF) (u : UU) (am : Int32) (le : Int64) (h1_12 : f 1 12 = 0)  : KI l yX1_loadHeaviestFirst cX1_loadHeaviestFirst 10 (some .int) ({ frames := 1, cells := 0, slots := 0, locals := 12 } : Room) D a cI cZ [.ref (a 1), .int am, .long le] f u (fun r f2 u2 => f = f2 ∧ u = u2 ∧ r = 0) := by
  refine KX.of (by decide) (Nat.le_of_ble_eq_true rfl) ?_
  intro p e s m below meth c cx hw hr hk ls hl
  have cx : Cx p s m _ c cX1_loadHeaviestFirst RX1 10 D cI cZ := cx
  have hl : lv_has ls 10 [(0, .ref (a 1)), (1, .int am), (2, .long le)] := hl
  have hx := cx.1.1
  have hb := cx.1.2.1
  refine lv_lload_n hx hb dX1_loadHeaviestFirst_0 rfl (lv_at hl 2 rfl) ?_
  refine lv_lstore (lv' := [(4, .long le), (0, .ref (a 1)), (1, .int am), (2, .long le)]) hx hb dX1_loadHeaviestFirst_1 hl (by decide) rfl (fun ls hl => ?_)
  refine lv_iconst (v := 0) hx hb dX1_loadHeaviestFirst_3 (by decide) ?_
  refine lv_istore (lv' := [(6, .int 0), (4, .long le), (0, .ref (a 1)), (1, .int am), (2, .long le)]) hx hb dX1_loadHeaviestFirst_4 hl (by decide) rfl (fun ls hl => ?_)
  refine lv_iconst (v := 0) hx hb dX1_loadHeaviestFirst_6 (by decide) ?_
  refine lv_istore (lv' := [(7, .int 0), (6, .int 0), (4, .long le), (0, .ref (a 1)), (1, .int am), (2, .long le)]) hx hb dX1_loadHeaviestFirst_7 hl (by decide) rfl (fun ls hl => ?_)
  refine lv_iload hx hb dX1_loadHeaviestFirst_9 (lv_at hl 0 rfl) ?_
  refine lv_aload_n hx hb dX1_loadHeaviestFirst_11 rfl (lv_at hl 3 rfl) ?_
  refine gf_X1_49 cx hw dX1_loadHeaviestFirst_12 ?_
  refine topc (y := 0) h1_12 ?_
  refine lv_icmp_ge (tgt := 84) hx hb dX1_loadHeaviestFirst_15 (by decide) (fun _ => ?_) (fun q => absurd (by decide) q)
  refine lv_iload hx hb dX1_loadHeaviestFirst_84 (lv_at hl 1 rfl) ?_
  exact retI cx hw hr hk dX1_loadHeaviestFirst_86 ⟨rfl, rfl, rfl⟩

set_option maxHeartbeats 4000000 in
set_option maxRecDepth 100000 in
theorem c_X1_slotsInAll (l : Launch) (D : va_G) (a : Nat → Nat) (cI cZ : ClassId) (f : FF) (u : UU)  (h1_3 : f 1 3 = 0)  : KI l yX1_slotsInAll cX1_slotsInAll 3 (some .int) ({ frames := 1, cells := 0, slots := 0, locals := 12 } : Room) D a cI cZ [.ref (a 1)] f u (fun r f2 u2 => f = f2 ∧ u = u2 ∧ r = 0) := by
  refine KX.of (by decide) (Nat.le_of_ble_eq_true rfl) ?_
  intro p e s m below meth c cx hw hr hk ls hl
  have cx : Cx p s m _ c cX1_slotsInAll RX1 3 D cI cZ := cx
  have hl : lv_has ls 3 [(0, .ref (a 1))] := hl
  have hx := cx.1.1
  have hb := cx.1.2.1
  refine lv_iconst (v := 0) hx hb dX1_slotsInAll_0 (by decide) ?_
  refine lv_istore_n (lv' := [(1, .int 0), (0, .ref (a 1))]) hx hb dX1_slotsInAll_1 rfl hl (by decide) rfl (fun ls hl => ?_)
  refine lv_iconst (v := 0) hx hb dX1_slotsInAll_2 (by decide) ?_
  refine lv_istore_n (lv' := [(2, .int 0), (1, .int 0), (0, .ref (a 1))]) hx hb dX1_slotsInAll_3 rfl hl (by decide) rfl (fun ls hl => ?_)
  refine lv_iload_n hx hb dX1_slotsInAll_4 rfl (lv_at hl 0 rfl) ?_
  refine lv_aload_n hx hb dX1_slotsInAll_5 rfl (lv_at hl 2 rfl) ?_
  refine gf_X1_21 cx hw dX1_slotsInAll_6 ?_
  refine topc (y := 0) h1_3 ?_
  refine lv_icmp_ge (tgt := 27) hx hb dX1_slotsInAll_9 (by decide) (fun _ => ?_) (fun q => absurd (by decide) q)
  refine lv_iload_n hx hb dX1_slotsInAll_27 rfl (lv_at hl 1 rfl) ?_
  exact retI cx hw hr hk dX1_slotsInAll_28 ⟨rfl, rfl, rfl⟩

set_option maxHeartbeats 4000000 in
set_option maxRecDepth 100000 in
theorem c_X1_loadedInAll (l : Launch) (D : va_G) (a : Nat → Nat) (cI cZ : ClassId) (f : FF) (u : UU)  (h1_12 : f 1 12 = 0)  : KI l yX1_loadedInAll cX1_loadedInAll 3 (some .int) ({ frames := 1, cells := 0, slots := 0, locals := 12 } : Room) D a cI cZ [.ref (a 1)] f u (fun r f2 u2 => f = f2 ∧ u = u2 ∧ r = 0) := by
  refine KX.of (by decide) (Nat.le_of_ble_eq_true rfl) ?_
  intro p e s m below meth c cx hw hr hk ls hl
  have cx : Cx p s m _ c cX1_loadedInAll RX1 3 D cI cZ := cx
  have hl : lv_has ls 3 [(0, .ref (a 1))] := hl
  have hx := cx.1.1
  have hb := cx.1.2.1
  refine lv_iconst (v := 0) hx hb dX1_loadedInAll_0 (by decide) ?_
  refine lv_istore_n (lv' := [(1, .int 0), (0, .ref (a 1))]) hx hb dX1_loadedInAll_1 rfl hl (by decide) rfl (fun ls hl => ?_)
  refine lv_iconst (v := 0) hx hb dX1_loadedInAll_2 (by decide) ?_
  refine lv_istore_n (lv' := [(2, .int 0), (1, .int 0), (0, .ref (a 1))]) hx hb dX1_loadedInAll_3 rfl hl (by decide) rfl (fun ls hl => ?_)
  refine lv_iload_n hx hb dX1_loadedInAll_4 rfl (lv_at hl 0 rfl) ?_
  refine lv_aload_n hx hb dX1_loadedInAll_5 rfl (lv_at hl 2 rfl) ?_
  refine gf_X1_49 cx hw dX1_loadedInAll_6 ?_
  refine topc (y := 0) h1_12 ?_
  refine lv_icmp_ge (tgt := 29) hx hb dX1_loadedInAll_9 (by decide) (fun _ => ?_) (fun q => absurd (by decide) q)
  refine lv_iload_n hx hb dX1_loadedInAll_29 rfl (lv_at hl 1 rfl) ?_
  exact retI cx hw hr hk dX1_loadedInAll_30 ⟨rfl, rfl, rfl⟩

set_option maxHeartbeats 4000000 in
set_option maxRecDepth 100000 in
theorem c_X0_addRow (l : Launch) (D : va_G) (a : Nat → Nat) (cI cZ : ClassId) (f : FF) (u : UU) (am : Int32) (se : Int32) (h2_3 : f 2 3 = 0)  : KI l yX0_addRow cX0_addRow 3 (some .int) ({ frames := 1, cells := 0, slots := 0, locals := 12 } : Room) D a cI cZ [.ref (a 2), .int am, .int se] f u (fun r f2 _ => r = 0 ∧ KP f f2) := by
  refine KX.of (by decide) (Nat.le_of_ble_eq_true rfl) ?_
  intro p e s m below meth c cx hw hr hk ls hl
  have cx : Cx p s m _ c cX0_addRow RX0 3 D cI cZ := cx
  have hl : lv_has ls 3 [(0, .ref (a 2)), (1, .int am), (2, .int se)] := hl
  have hx := cx.1.1
  have hb := cx.1.2.1
  refine lv_aload_n hx hb dX0_addRow_0 rfl (lv_at hl 0 rfl) ?_
  refine gf_X0_21 cx hw dX0_addRow_1 ?_
  refine topc (y := 0) h2_3 ?_
  refine lv_bipush (v := 10) hx hb dX0_addRow_4 (by decide) ?_
  refine lv_icmp_lt (tgt := 12) hx hb dX0_addRow_6 (by decide) (fun _ => ?_) (fun q => absurd (by decide) q)
  refine lv_aload_n hx hb dX0_addRow_12 rfl (lv_at hl 0 rfl) ?_
  refine gf_X0_11 cx hw dX0_addRow_13 ?_
  refine lv_aload_n hx hb dX0_addRow_16 rfl (lv_at hl 0 rfl) ?_
  refine gf_X0_21 cx hw dX0_addRow_17 ?_
  refine topc (y := 0) h2_3 ?_
  refine lv_iload_n hx hb dX0_addRow_20 rfl (lv_at hl 1 rfl) ?_
  refine astC 21 0 cx hw rfl ws_21 (by decide) (by decide) dX0_addRow_21 (fun H locs hw => ?_)
  refine lv_aload_n hx hb dX0_addRow_22 rfl (lv_at hl 0 rfl) ?_
  refine gf_X0_15 cx hw dX0_addRow_23 ?_
  refine lv_aload_n hx hb dX0_addRow_26 rfl (lv_at hl 0 rfl) ?_
  refine gf_X0_21 cx hw dX0_addRow_27 ?_
  refine topc (y := 0) h2_3 ?_
  refine lv_iload_n hx hb dX0_addRow_30 rfl (lv_at hl 2 rfl) ?_
  refine astC 22 0 cx hw rfl ws_22 (by decide) (by decide) dX0_addRow_31 (fun H locs hw => ?_)
  refine lv_aload_n hx hb dX0_addRow_32 rfl (lv_at hl 0 rfl) ?_
  refine lv_dup hx hb dX0_addRow_33 rfl ?_
  refine gf_X0_21 cx hw dX0_addRow_34 ?_
  refine topc (y := 0) h2_3 ?_
  refine lv_dup_x1 hx hb dX0_addRow_37 rfl rfl ?_
  refine lv_iconst (v := 1) hx hb dX0_addRow_38 (by decide) ?_
  refine lv_iadd hx hb dX0_addRow_39 ?_
  refine topc (y := 1) (by decide) ?_
  refine pf_X0_21 cx hw dX0_addRow_40 (fun H locs hw => ?_)
  exact retI cx hw hr hk dX0_addRow_43 ⟨rfl, (KP.up (by decide) (KP.up (by decide) (KP.up (by decide) KP.rf)))⟩

set_option maxHeartbeats 4000000 in
set_option maxRecDepth 100000 in
theorem c_X0_passengers (l : Launch) (D : va_G) (a : Nat → Nat) (cI cZ : ClassId) (f : FF) (u : UU)  (h2_3 : f 2 3 = 0)  : KI l yX0_passengers cX0_passengers 3 (some .int) ({ frames := 1, cells := 0, slots := 0, locals := 12 } : Room) D a cI cZ [.ref (a 2)] f u (fun r f2 u2 => f = f2 ∧ u = u2 ∧ r = 0) := by
  refine KX.of (by decide) (Nat.le_of_ble_eq_true rfl) ?_
  intro p e s m below meth c cx hw hr hk ls hl
  have cx : Cx p s m _ c cX0_passengers RX0 3 D cI cZ := cx
  have hl : lv_has ls 3 [(0, .ref (a 2))] := hl
  have hx := cx.1.1
  have hb := cx.1.2.1
  refine lv_iconst (v := 0) hx hb dX0_passengers_0 (by decide) ?_
  refine lv_istore_n (lv' := [(1, .int 0), (0, .ref (a 2))]) hx hb dX0_passengers_1 rfl hl (by decide) rfl (fun ls hl => ?_)
  refine lv_iconst (v := 0) hx hb dX0_passengers_2 (by decide) ?_
  refine lv_istore_n (lv' := [(2, .int 0), (1, .int 0), (0, .ref (a 2))]) hx hb dX0_passengers_3 rfl hl (by decide) rfl (fun ls hl => ?_)
  refine lv_iload_n hx hb dX0_passengers_4 rfl (lv_at hl 0 rfl) ?_
  refine lv_aload_n hx hb dX0_passengers_5 rfl (lv_at hl 2 rfl) ?_
  refine gf_X0_21 cx hw dX0_passengers_6 ?_
  refine topc (y := 0) h2_3 ?_
  refine lv_icmp_ge (tgt := 27) hx hb dX0_passengers_9 (by decide) (fun _ => ?_) (fun q => absurd (by decide) q)
  refine lv_iload_n hx hb dX0_passengers_27 rfl (lv_at hl 1 rfl) ?_
  exact retI cx hw hr hk dX0_passengers_28 ⟨rfl, rfl, rfl⟩

set_option maxHeartbeats 4000000 in
set_option maxRecDepth 100000 in
theorem c_X0_takenWeight (l : Launch) (D : va_G) (a : Nat → Nat) (cI cZ : ClassId) (f : FF) (u : UU)  (h2_3 : f 2 3 = 0) (h2_4 : f 2 4 = 80)  : KI l yX0_takenWeight cX0_takenWeight 1 (some .int) ({ frames := 2, cells := 0, slots := 0, locals := 34 } : Room) D a cI cZ [.ref (a 2)] f u (fun r f2 u2 => f = f2 ∧ u = u2 ∧ r = 0) := by
  refine KX.of (by decide) (Nat.le_of_ble_eq_true rfl) ?_
  intro p e s m below meth c cx hw hr hk ls hl
  have cx : Cx p s m _ c cX0_takenWeight RX0 1 D cI cZ := cx
  have hl : lv_has ls 1 [(0, .ref (a 2))] := hl
  have hx := cx.1.1
  have hb := cx.1.2.1
  refine lv_aload_n hx hb dX0_takenWeight_0 rfl (lv_at hl 0 rfl) ?_
  refine goI hw (runVW (k := 2) (As := []) (rest := []) cx hw (c_X0_passengers l D a cI cZ f u  h2_3) lk_X0_28 rfl rfl ⟨Nat.le_of_ble_eq_true rfl, Nat.le_of_ble_eq_true rfl⟩ ⟨rfl, rfl⟩ ⟨Nat.zero_le _, Nat.zero_le _⟩ rfl rfl hl.1 (Nat.le_of_ble_eq_true rfl) dX0_takenWeight_1) (fun r_1 f2 u2 H locs hp hw => ?_)
  obtain ⟨rfl, rfl, e_1⟩ := hp
  refine topc e_1 ?_
  refine lv_aload_n hx hb dX0_takenWeight_4 rfl (lv_at hl 0 rfl) ?_
  refine gf_X0_25 cx hw dX0_takenWeight_5 ?_
  refine topc (y := 80) h2_4 ?_
  refine lv_imul hx hb dX0_takenWeight_8 ?_
  refine topc (y := 0) (by decide) ?_
  exact retI cx hw hr hk dX0_takenWeight_9 ⟨rfl, rfl, rfl⟩

set_option maxHeartbeats 4000000 in
set_option maxRecDepth 100000 in
theorem c_X0_takenMoment (l : Launch) (D : va_G) (a : Nat → Nat) (cI cZ : ClassId) (f : FF) (u : UU)  (h2_3 : f 2 3 = 0)  : KL l yX0_takenMoment cX0_takenMoment 4 (some .long) ({ frames := 1, cells := 0, slots := 0, locals := 12 } : Room) D a cI cZ [.ref (a 2)] f u (fun r f2 u2 => f = f2 ∧ u = u2 ∧ r = 0) := by
  refine KX.of (by decide) (Nat.le_of_ble_eq_true rfl) ?_
  intro p e s m below meth c cx hw hr hk ls hl
  have cx : Cx p s m _ c cX0_takenMoment RX0 4 D cI cZ := cx
  have hl : lv_has ls 4 [(0, .ref (a 2))] := hl
  have hx := cx.1.1
  have hb := cx.1.2.1
  refine lv_lconst (v := 0) hx hb dX0_takenMoment_0 (by decide) ?_
  refine lv_lstore_n (lv' := [(1, .long 0), (0, .ref (a 2))]) hx hb dX0_takenMoment_1 rfl hl (by decide) rfl (fun ls hl => ?_)
  refine lv_iconst (v := 0) hx hb dX0_takenMoment_2 (by decide) ?_
  refine lv_istore_n (lv' := [(3, .int 0), (1, .long 0), (0, .ref (a 2))]) hx hb dX0_takenMoment_3 rfl hl (by decide) rfl (fun ls hl => ?_)
  refine lv_iload_n hx hb dX0_takenMoment_4 rfl (lv_at hl 0 rfl) ?_
  refine lv_aload_n hx hb dX0_takenMoment_5 rfl (lv_at hl 2 rfl) ?_
  refine gf_X0_21 cx hw dX0_takenMoment_6 ?_
  refine topc (y := 0) h2_3 ?_
  refine lv_icmp_ge (tgt := 35) hx hb dX0_takenMoment_9 (by decide) (fun _ => ?_) (fun q => absurd (by decide) q)
  refine lv_lload_n hx hb dX0_takenMoment_35 rfl (lv_at hl 1 rfl) ?_
  exact retL cx hw hr hk dX0_takenMoment_36 ⟨rfl, rfl, rfl⟩

set_option maxHeartbeats 4000000 in
set_option maxRecDepth 100000 in
theorem c_X0_nearestRow (l : Launch) (D : va_G) (a : Nat → Nat) (cI cZ : ClassId) (f : FF) (u : UU) (am : Int32) (le : Int64) (h2_3 : f 2 3 = 0)  : KI l yX0_nearestRow cX0_nearestRow 10 (some .int) ({ frames := 1, cells := 0, slots := 0, locals := 12 } : Room) D a cI cZ [.ref (a 2), .int am, .long le] f u (fun r f2 u2 => f = f2 ∧ u = u2 ∧ r = (-1)) := by
  refine KX.of (by decide) (Nat.le_of_ble_eq_true rfl) ?_
  intro p e s m below meth c cx hw hr hk ls hl
  have cx : Cx p s m _ c cX0_nearestRow RX0 10 D cI cZ := cx
  have hl : lv_has ls 10 [(0, .ref (a 2)), (1, .int am), (2, .long le)] := hl
  have hx := cx.1.1
  have hb := cx.1.2.1
  refine lv_iconst (v := (-1)) hx hb dX0_nearestRow_0 (by decide) ?_
  refine lv_istore (lv' := [(4, .int (-1)), (0, .ref (a 2)), (1, .int am), (2, .long le)]) hx hb dX0_nearestRow_1 hl (by decide) rfl (fun ls hl => ?_)
  refine lv_lconst (v := 0) hx hb dX0_nearestRow_3 (by decide) ?_
  refine lv_lstore (lv' := [(5, .long 0), (4, .int (-1)), (0, .ref (a 2)), (1, .int am), (2, .long le)]) hx hb dX0_nearestRow_4 hl (by decide) rfl (fun ls hl => ?_)
  refine lv_iconst (v := 0) hx hb dX0_nearestRow_6 (by decide) ?_
  refine lv_istore (lv' := [(7, .int 0), (5, .long 0), (4, .int (-1)), (0, .ref (a 2)), (1, .int am), (2, .long le)]) hx hb dX0_nearestRow_7 hl (by decide) rfl (fun ls hl => ?_)
  refine lv_iload hx hb dX0_nearestRow_9 (lv_at hl 0 rfl) ?_
  refine lv_aload_n hx hb dX0_nearestRow_11 rfl (lv_at hl 3 rfl) ?_
  refine gf_X0_21 cx hw dX0_nearestRow_12 ?_
  refine topc (y := 0) h2_3 ?_
  refine lv_icmp_ge (tgt := 77) hx hb dX0_nearestRow_15 (by decide) (fun _ => ?_) (fun q => absurd (by decide) q)
  refine lv_iload hx hb dX0_nearestRow_77 (lv_at hl 2 rfl) ?_
  exact retI cx hw hr hk dX0_nearestRow_79 ⟨rfl, rfl, rfl⟩

set_option maxHeartbeats 4000000 in
set_option maxRecDepth 100000 in
theorem c_X0_seatLate (l : Launch) (D : va_G) (a : Nat → Nat) (cI cZ : ClassId) (f : FF) (u : UU) (n : Int32) (am : Int32) (le : Int64) (h2_3 : f 2 3 = 0) (hn : ¬ rg n 0 80 = 0) : KI l yX0_seatLate cX0_seatLate 9 (some .int) ({ frames := 2, cells := 0, slots := 0, locals := 41 } : Room) D a cI cZ [.ref (a 2), .int n, .int am, .long le] f u (fun r f2 u2 => f = f2 ∧ u = u2 ∧ r = 0) := by
  refine KX.of (by decide) (Nat.le_of_ble_eq_true rfl) ?_
  intro p e s m below meth c cx hw hr hk ls hl
  have cx : Cx p s m _ c cX0_seatLate RX0 9 D cI cZ := cx
  have hl : lv_has ls 9 [(0, .ref (a 2)), (1, .int n), (2, .int am), (3, .long le)] := hl
  have hx := cx.1.1
  have hb := cx.1.2.1
  refine lv_lload_n hx hb dX0_seatLate_0 rfl (lv_at hl 3 rfl) ?_
  refine lv_lstore (lv' := [(5, .long le), (0, .ref (a 2)), (1, .int n), (2, .int am), (3, .long le)]) hx hb dX0_seatLate_1 hl (by decide) rfl (fun ls hl => ?_)
  refine lv_iconst (v := 0) hx hb dX0_seatLate_3 (by decide) ?_
  refine lv_istore (lv' := [(7, .int 0), (5, .long le), (0, .ref (a 2)), (1, .int n), (2, .int am), (3, .long le)]) hx hb dX0_seatLate_4 hl (by decide) rfl (fun ls hl => ?_)
  refine lv_iload hx hb dX0_seatLate_6 (lv_at hl 0 rfl) ?_
  refine lv_iload_n hx hb dX0_seatLate_8 rfl (lv_at hl 3 rfl) ?_
  refine lv_icmp_ge (tgt := 59) hx hb dX0_seatLate_9 (by decide) (fun c_1 => ?_) (fun c_1 => ?_)
  · refine lv_iload_n hx hb dX0_seatLate_59 rfl (lv_at hl 3 rfl) ?_
    exact retI cx hw hr hk dX0_seatLate_60 ⟨rfl, rfl, late0 hn c_1⟩
  · refine lv_aload_n hx hb dX0_seatLate_12 rfl (lv_at hl 2 rfl) ?_
    refine lv_iload_n hx hb dX0_seatLate_13 rfl (lv_at hl 4 rfl) ?_
    refine lv_lload hx hb dX0_seatLate_14 (lv_at hl 1 rfl) ?_
    refine goI hw (runVW (k := 2) (As := [.int am, .long le]) (rest := []) cx hw (c_X0_nearestRow l D a cI cZ f u am le h2_3) lk_X0_36 rfl rfl ⟨Nat.le_of_ble_eq_true rfl, Nat.le_of_ble_eq_true rfl⟩ ⟨rfl, rfl⟩ ⟨Nat.zero_le _, Nat.zero_le _⟩ rfl rfl hl.1 (Nat.le_of_ble_eq_true rfl) dX0_seatLate_16) (fun r_2 f2 u2 H locs hp hw => ?_)
    obtain ⟨rfl, rfl, e_2⟩ := hp
    refine topc e_2 ?_
    refine lv_istore (lv' := [(8, .int (-1)), (7, .int 0), (5, .long le), (0, .ref (a 2)), (1, .int n), (2, .int am), (3, .long le)]) hx hb dX0_seatLate_19 hl (by decide) rfl (fun ls hl => ?_)
    refine lv_iload hx hb dX0_seatLate_21 (lv_at hl 0 rfl) ?_
    refine lv_iconst (v := (-1)) hx hb dX0_seatLate_23 (by decide) ?_
    refine lv_icmp_ne (tgt := 30) hx hb dX0_seatLate_24 (by decide) (fun q => absurd (by decide) q) (fun _ => ?_)
    refine lv_iload hx hb dX0_seatLate_27 (lv_at hl 1 rfl) ?_
    exact retI cx hw hr hk dX0_seatLate_29 ⟨rfl, rfl, rfl⟩

set_option maxHeartbeats 4000000 in
set_option maxRecDepth 100000 in
theorem c_X6_addTank (l : Launch) (D : va_G) (a : Nat → Nat) (cI cZ : ClassId) (f : FF) (u : UU) (am : Int32) (mo : Int32) (h3_3 : f 3 3 = 0)  : KI l yX6_addTank cX6_addTank 3 (some .int) ({ frames := 1, cells := 0, slots := 0, locals := 12 } : Room) D a cI cZ [.ref (a 3), .int am, .int mo] f u (fun r f2 _ => r = 0 ∧ KP f f2) := by
  refine KX.of (by decide) (Nat.le_of_ble_eq_true rfl) ?_
  intro p e s m below meth c cx hw hr hk ls hl
  have cx : Cx p s m _ c cX6_addTank RX6 3 D cI cZ := cx
  have hl : lv_has ls 3 [(0, .ref (a 3)), (1, .int am), (2, .int mo)] := hl
  have hx := cx.1.1
  have hb := cx.1.2.1
  refine lv_aload_n hx hb dX6_addTank_0 rfl (lv_at hl 0 rfl) ?_
  refine gf_X6_21 cx hw dX6_addTank_1 ?_
  refine topc (y := 0) h3_3 ?_
  refine lv_iconst (v := 4) hx hb dX6_addTank_4 (by decide) ?_
  refine lv_icmp_lt (tgt := 11) hx hb dX6_addTank_5 (by decide) (fun _ => ?_) (fun q => absurd (by decide) q)
  refine lv_aload_n hx hb dX6_addTank_11 rfl (lv_at hl 0 rfl) ?_
  refine gf_X6_11 cx hw dX6_addTank_12 ?_
  refine lv_aload_n hx hb dX6_addTank_15 rfl (lv_at hl 0 rfl) ?_
  refine gf_X6_21 cx hw dX6_addTank_16 ?_
  refine topc (y := 0) h3_3 ?_
  refine lv_iload_n hx hb dX6_addTank_19 rfl (lv_at hl 1 rfl) ?_
  refine astC 24 0 cx hw rfl ws_24 (by decide) (by decide) dX6_addTank_20 (fun H locs hw => ?_)
  refine lv_aload_n hx hb dX6_addTank_21 rfl (lv_at hl 0 rfl) ?_
  refine gf_X6_15 cx hw dX6_addTank_22 ?_
  refine lv_aload_n hx hb dX6_addTank_25 rfl (lv_at hl 0 rfl) ?_
  refine gf_X6_21 cx hw dX6_addTank_26 ?_
  refine topc (y := 0) h3_3 ?_
  refine lv_iload_n hx hb dX6_addTank_29 rfl (lv_at hl 2 rfl) ?_
  refine astC 25 0 cx hw rfl ws_25 (by decide) (by decide) dX6_addTank_30 (fun H locs hw => ?_)
  refine lv_aload_n hx hb dX6_addTank_31 rfl (lv_at hl 0 rfl) ?_
  refine lv_dup hx hb dX6_addTank_32 rfl ?_
  refine gf_X6_21 cx hw dX6_addTank_33 ?_
  refine topc (y := 0) h3_3 ?_
  refine lv_dup_x1 hx hb dX6_addTank_36 rfl rfl ?_
  refine lv_iconst (v := 1) hx hb dX6_addTank_37 (by decide) ?_
  refine lv_iadd hx hb dX6_addTank_38 ?_
  refine topc (y := 1) (by decide) ?_
  refine pf_X6_21 cx hw dX6_addTank_39 (fun H locs hw => ?_)
  exact retI cx hw hr hk dX6_addTank_42 ⟨rfl, (KP.up (by decide) (KP.up (by decide) (KP.up (by decide) KP.rf)))⟩

set_option maxHeartbeats 4000000 in
set_option maxRecDepth 100000 in
theorem c_X6_totalAmount (l : Launch) (D : va_G) (a : Nat → Nat) (cI cZ : ClassId) (f : FF) (u : UU)  (h3_3 : f 3 3 = 0)  : KI l yX6_totalAmount cX6_totalAmount 3 (some .int) ({ frames := 1, cells := 0, slots := 0, locals := 12 } : Room) D a cI cZ [.ref (a 3)] f u (fun r f2 u2 => f = f2 ∧ u = u2 ∧ r = 0) := by
  refine KX.of (by decide) (Nat.le_of_ble_eq_true rfl) ?_
  intro p e s m below meth c cx hw hr hk ls hl
  have cx : Cx p s m _ c cX6_totalAmount RX6 3 D cI cZ := cx
  have hl : lv_has ls 3 [(0, .ref (a 3))] := hl
  have hx := cx.1.1
  have hb := cx.1.2.1
  refine lv_iconst (v := 0) hx hb dX6_totalAmount_0 (by decide) ?_
  refine lv_istore_n (lv' := [(1, .int 0), (0, .ref (a 3))]) hx hb dX6_totalAmount_1 rfl hl (by decide) rfl (fun ls hl => ?_)
  refine lv_iconst (v := 0) hx hb dX6_totalAmount_2 (by decide) ?_
  refine lv_istore_n (lv' := [(2, .int 0), (1, .int 0), (0, .ref (a 3))]) hx hb dX6_totalAmount_3 rfl hl (by decide) rfl (fun ls hl => ?_)
  refine lv_iload_n hx hb dX6_totalAmount_4 rfl (lv_at hl 0 rfl) ?_
  refine lv_aload_n hx hb dX6_totalAmount_5 rfl (lv_at hl 2 rfl) ?_
  refine gf_X6_21 cx hw dX6_totalAmount_6 ?_
  refine topc (y := 0) h3_3 ?_
  refine lv_icmp_ge (tgt := 27) hx hb dX6_totalAmount_9 (by decide) (fun _ => ?_) (fun q => absurd (by decide) q)
  refine lv_iload_n hx hb dX6_totalAmount_27 rfl (lv_at hl 1 rfl) ?_
  exact retI cx hw hr hk dX6_totalAmount_28 ⟨rfl, rfl, rfl⟩

set_option maxHeartbeats 4000000 in
set_option maxRecDepth 100000 in
theorem c_X6_momentLeft (l : Launch) (D : va_G) (a : Nat → Nat) (cI cZ : ClassId) (f : FF) (u : UU) (b : Int32) (h3_3 : f 3 3 = 0)  : KL l yX6_momentLeft cX6_momentLeft 7 (some .long) ({ frames := 1, cells := 0, slots := 0, locals := 12 } : Room) D a cI cZ [.ref (a 3), .int b] f u (fun r f2 u2 => f = f2 ∧ u = u2 ∧ r = 0) := by
  refine KX.of (by decide) (Nat.le_of_ble_eq_true rfl) ?_
  intro p e s m below meth c cx hw hr hk ls hl
  have cx : Cx p s m _ c cX6_momentLeft RX6 7 D cI cZ := cx
  have hl : lv_has ls 7 [(0, .ref (a 3)), (1, .int b)] := hl
  have hx := cx.1.1
  have hb := cx.1.2.1
  refine lv_lconst (v := 0) hx hb dX6_momentLeft_0 (by decide) ?_
  refine lv_lstore_n (lv' := [(2, .long 0), (0, .ref (a 3)), (1, .int b)]) hx hb dX6_momentLeft_1 rfl hl (by decide) rfl (fun ls hl => ?_)
  refine lv_iload_n hx hb dX6_momentLeft_2 rfl (lv_at hl 2 rfl) ?_
  refine lv_istore (lv' := [(4, .int b), (2, .long 0), (0, .ref (a 3)), (1, .int b)]) hx hb dX6_momentLeft_3 hl (by decide) rfl (fun ls hl => ?_)
  refine lv_aload_n hx hb dX6_momentLeft_5 rfl (lv_at hl 2 rfl) ?_
  refine gf_X6_21 cx hw dX6_momentLeft_6 ?_
  refine topc (y := 0) h3_3 ?_
  refine lv_iconst (v := 1) hx hb dX6_momentLeft_9 (by decide) ?_
  refine lv_isub hx hb dX6_momentLeft_10 ?_
  refine topc (y := (-1)) (by decide) ?_
  refine lv_istore (lv' := [(5, .int (-1)), (4, .int b), (2, .long 0), (0, .ref (a 3)), (1, .int b)]) hx hb dX6_momentLeft_11 hl (by decide) rfl (fun ls hl => ?_)
  refine lv_iload hx hb dX6_momentLeft_13 (lv_at hl 0 rfl) ?_
  refine lv_if_lt (tgt := 68) hx hb dX6_momentLeft_15 (by decide) (fun _ => ?_) (fun q => absurd (by decide) q)
  refine lv_lload_n hx hb dX6_momentLeft_68 rfl (lv_at hl 2 rfl) ?_
  exact retL cx hw hr hk dX6_momentLeft_69 ⟨rfl, rfl, rfl⟩

set_option maxHeartbeats 4000000 in
set_option maxRecDepth 100000 in
theorem c_X3_lastWeight_4 (l : Launch) (D : va_G) (a : Nat → Nat) (cI cZ : ClassId) (f : FF) (u : UU)  (h4_3 : f 4 3 = 0)  : KI l yX3_lastWeight cX3_lastWeight 1 (some .int) ({ frames := 1, cells := 0, slots := 0, locals := 12 } : Room) D a cI cZ [.ref (a 4)] f u (fun r f2 u2 => f = f2 ∧ u = u2 ∧ r = 0) := by
  refine KX.of (by decide) (Nat.le_of_ble_eq_true rfl) ?_
  intro p e s m below meth c cx hw hr hk ls hl
  have cx : Cx p s m _ c cX3_lastWeight RX3 1 D cI cZ := cx
  have hl : lv_has ls 1 [(0, .ref (a 4))] := hl
  have hx := cx.1.1
  have hb := cx.1.2.1
  refine lv_aload_n hx hb dX3_lastWeight_0 rfl (lv_at hl 0 rfl) ?_
  refine gf_X3_21_4 cx hw dX3_lastWeight_1 ?_
  refine topc (y := 0) h4_3 ?_
  refine lv_if_ne (tgt := 11) hx hb dX3_lastWeight_4 (by decide) (fun q => absurd (by decide) q) (fun _ => ?_)
  refine lv_iconst (v := 0) hx hb dX3_lastWeight_7 (by decide) ?_
  refine lv_goto (tgt := 22) hx hb dX3_lastWeight_8 (by decide) ?_
  exact retI cx hw hr hk dX3_lastWeight_22 ⟨rfl, rfl, rfl⟩

set_option maxHeartbeats 4000000 in
set_option maxRecDepth 100000 in
theorem c_X3_addPoint_4 (l : Launch) (D : va_G) (a : Nat → Nat) (cI cZ : ClassId) (f : FF) (u : UU) (we : Int32) (lo : Int32) (hi : Int32) (h4_3 : f 4 3 = 0)  : KI l yX3_addPoint cX3_addPoint 4 (some .int) ({ frames := 1, cells := 0, slots := 0, locals := 12 } : Room) D a cI cZ [.ref (a 4), .int we, .int lo, .int hi] f u (fun r f2 _ => r = 1 ∧ KP f f2) := by
  refine KX.of (by decide) (Nat.le_of_ble_eq_true rfl) ?_
  intro p e s m below meth c cx hw hr hk ls hl
  have cx : Cx p s m _ c cX3_addPoint RX3 4 D cI cZ := cx
  have hl : lv_has ls 4 [(0, .ref (a 4)), (1, .int we), (2, .int lo), (3, .int hi)] := hl
  have hx := cx.1.1
  have hb := cx.1.2.1
  refine lv_aload_n hx hb dX3_addPoint_0 rfl (lv_at hl 0 rfl) ?_
  refine gf_X3_21_4 cx hw dX3_addPoint_1 ?_
  refine topc (y := 0) h4_3 ?_
  refine lv_bipush (v := 10) hx hb dX3_addPoint_4 (by decide) ?_
  refine lv_icmp_lt (tgt := 12) hx hb dX3_addPoint_6 (by decide) (fun _ => ?_) (fun q => absurd (by decide) q)
  refine lv_aload_n hx hb dX3_addPoint_12 rfl (lv_at hl 0 rfl) ?_
  refine gf_X3_11_4 cx hw dX3_addPoint_13 ?_
  refine lv_aload_n hx hb dX3_addPoint_16 rfl (lv_at hl 0 rfl) ?_
  refine gf_X3_21_4 cx hw dX3_addPoint_17 ?_
  refine topc (y := 0) h4_3 ?_
  refine lv_iload_n hx hb dX3_addPoint_20 rfl (lv_at hl 1 rfl) ?_
  refine astC 27 0 cx hw rfl ws_27 (by decide) (by decide) dX3_addPoint_21 (fun H locs hw => ?_)
  refine lv_aload_n hx hb dX3_addPoint_22 rfl (lv_at hl 0 rfl) ?_
  refine gf_X3_15_4 cx hw dX3_addPoint_23 ?_
  refine lv_aload_n hx hb dX3_addPoint_26 rfl (lv_at hl 0 rfl) ?_
  refine gf_X3_21_4 cx hw dX3_addPoint_27 ?_
  refine topc (y := 0) h4_3 ?_
  refine lv_iload_n hx hb dX3_addPoint_30 rfl (lv_at hl 2 rfl) ?_
  refine astC 28 0 cx hw rfl ws_28 (by decide) (by decide) dX3_addPoint_31 (fun H locs hw => ?_)
  refine lv_aload_n hx hb dX3_addPoint_32 rfl (lv_at hl 0 rfl) ?_
  refine gf_X3_18_4 cx hw dX3_addPoint_33 ?_
  refine lv_aload_n hx hb dX3_addPoint_36 rfl (lv_at hl 0 rfl) ?_
  refine gf_X3_21_4 cx hw dX3_addPoint_37 ?_
  refine topc (y := 0) h4_3 ?_
  refine lv_iload_n hx hb dX3_addPoint_40 rfl (lv_at hl 3 rfl) ?_
  refine astC 29 0 cx hw rfl ws_29 (by decide) (by decide) dX3_addPoint_41 (fun H locs hw => ?_)
  refine lv_aload_n hx hb dX3_addPoint_42 rfl (lv_at hl 0 rfl) ?_
  refine lv_dup hx hb dX3_addPoint_43 rfl ?_
  refine gf_X3_21_4 cx hw dX3_addPoint_44 ?_
  refine topc (y := 0) h4_3 ?_
  refine lv_iconst (v := 1) hx hb dX3_addPoint_47 (by decide) ?_
  refine lv_iadd hx hb dX3_addPoint_48 ?_
  refine topc (y := 1) (by decide) ?_
  refine lv_dup_x1 hx hb dX3_addPoint_49 rfl rfl ?_
  refine pf_X3_21_4 cx hw dX3_addPoint_50 (fun H locs hw => ?_)
  exact retI cx hw hr hk dX3_addPoint_53 ⟨rfl, (KP.up (by decide) (KP.up (by decide) (KP.up (by decide) (KP.up (by decide) KP.rf))))⟩

set_option maxHeartbeats 4000000 in
set_option maxRecDepth 100000 in
theorem c_X3_lastWeight_5 (l : Launch) (D : va_G) (a : Nat → Nat) (cI cZ : ClassId) (f : FF) (u : UU)  (h5_3 : f 5 3 = 0)  : KI l yX3_lastWeight cX3_lastWeight 1 (some .int) ({ frames := 1, cells := 0, slots := 0, locals := 12 } : Room) D a cI cZ [.ref (a 5)] f u (fun r f2 u2 => f = f2 ∧ u = u2 ∧ r = 0) := by
  refine KX.of (by decide) (Nat.le_of_ble_eq_true rfl) ?_
  intro p e s m below meth c cx hw hr hk ls hl
  have cx : Cx p s m _ c cX3_lastWeight RX3 1 D cI cZ := cx
  have hl : lv_has ls 1 [(0, .ref (a 5))] := hl
  have hx := cx.1.1
  have hb := cx.1.2.1
  refine lv_aload_n hx hb dX3_lastWeight_0 rfl (lv_at hl 0 rfl) ?_
  refine gf_X3_21_5 cx hw dX3_lastWeight_1 ?_
  refine topc (y := 0) h5_3 ?_
  refine lv_if_ne (tgt := 11) hx hb dX3_lastWeight_4 (by decide) (fun q => absurd (by decide) q) (fun _ => ?_)
  refine lv_iconst (v := 0) hx hb dX3_lastWeight_7 (by decide) ?_
  refine lv_goto (tgt := 22) hx hb dX3_lastWeight_8 (by decide) ?_
  exact retI cx hw hr hk dX3_lastWeight_22 ⟨rfl, rfl, rfl⟩

set_option maxHeartbeats 4000000 in
set_option maxRecDepth 100000 in
theorem c_X3_addPoint_5 (l : Launch) (D : va_G) (a : Nat → Nat) (cI cZ : ClassId) (f : FF) (u : UU) (we : Int32) (lo : Int32) (hi : Int32) (h5_3 : f 5 3 = 0)  : KI l yX3_addPoint cX3_addPoint 4 (some .int) ({ frames := 1, cells := 0, slots := 0, locals := 12 } : Room) D a cI cZ [.ref (a 5), .int we, .int lo, .int hi] f u (fun r f2 _ => r = 1 ∧ KP f f2) := by
  refine KX.of (by decide) (Nat.le_of_ble_eq_true rfl) ?_
  intro p e s m below meth c cx hw hr hk ls hl
  have cx : Cx p s m _ c cX3_addPoint RX3 4 D cI cZ := cx
  have hl : lv_has ls 4 [(0, .ref (a 5)), (1, .int we), (2, .int lo), (3, .int hi)] := hl
  have hx := cx.1.1
  have hb := cx.1.2.1
  refine lv_aload_n hx hb dX3_addPoint_0 rfl (lv_at hl 0 rfl) ?_
  refine gf_X3_21_5 cx hw dX3_addPoint_1 ?_
  refine topc (y := 0) h5_3 ?_
  refine lv_bipush (v := 10) hx hb dX3_addPoint_4 (by decide) ?_
  refine lv_icmp_lt (tgt := 12) hx hb dX3_addPoint_6 (by decide) (fun _ => ?_) (fun q => absurd (by decide) q)
  refine lv_aload_n hx hb dX3_addPoint_12 rfl (lv_at hl 0 rfl) ?_
  refine gf_X3_11_5 cx hw dX3_addPoint_13 ?_
  refine lv_aload_n hx hb dX3_addPoint_16 rfl (lv_at hl 0 rfl) ?_
  refine gf_X3_21_5 cx hw dX3_addPoint_17 ?_
  refine topc (y := 0) h5_3 ?_
  refine lv_iload_n hx hb dX3_addPoint_20 rfl (lv_at hl 1 rfl) ?_
  refine astC 30 0 cx hw rfl ws_30 (by decide) (by decide) dX3_addPoint_21 (fun H locs hw => ?_)
  refine lv_aload_n hx hb dX3_addPoint_22 rfl (lv_at hl 0 rfl) ?_
  refine gf_X3_15_5 cx hw dX3_addPoint_23 ?_
  refine lv_aload_n hx hb dX3_addPoint_26 rfl (lv_at hl 0 rfl) ?_
  refine gf_X3_21_5 cx hw dX3_addPoint_27 ?_
  refine topc (y := 0) h5_3 ?_
  refine lv_iload_n hx hb dX3_addPoint_30 rfl (lv_at hl 2 rfl) ?_
  refine astC 31 0 cx hw rfl ws_31 (by decide) (by decide) dX3_addPoint_31 (fun H locs hw => ?_)
  refine lv_aload_n hx hb dX3_addPoint_32 rfl (lv_at hl 0 rfl) ?_
  refine gf_X3_18_5 cx hw dX3_addPoint_33 ?_
  refine lv_aload_n hx hb dX3_addPoint_36 rfl (lv_at hl 0 rfl) ?_
  refine gf_X3_21_5 cx hw dX3_addPoint_37 ?_
  refine topc (y := 0) h5_3 ?_
  refine lv_iload_n hx hb dX3_addPoint_40 rfl (lv_at hl 3 rfl) ?_
  refine astC 32 0 cx hw rfl ws_32 (by decide) (by decide) dX3_addPoint_41 (fun H locs hw => ?_)
  refine lv_aload_n hx hb dX3_addPoint_42 rfl (lv_at hl 0 rfl) ?_
  refine lv_dup hx hb dX3_addPoint_43 rfl ?_
  refine gf_X3_21_5 cx hw dX3_addPoint_44 ?_
  refine topc (y := 0) h5_3 ?_
  refine lv_iconst (v := 1) hx hb dX3_addPoint_47 (by decide) ?_
  refine lv_iadd hx hb dX3_addPoint_48 ?_
  refine topc (y := 1) (by decide) ?_
  refine lv_dup_x1 hx hb dX3_addPoint_49 rfl rfl ?_
  refine pf_X3_21_5 cx hw dX3_addPoint_50 (fun H locs hw => ?_)
  exact retI cx hw hr hk dX3_addPoint_53 ⟨rfl, (KP.up (by decide) (KP.up (by decide) (KP.up (by decide) (KP.up (by decide) KP.rf))))⟩

set_option maxHeartbeats 4000000 in
set_option maxRecDepth 100000 in
theorem c_X5_doFirstGoodSwap (l : Launch) (D : va_G) (a : Nat → Nat) (cI cZ : ClassId) (f : FF) (u : UU) (le : Int64) (h1_12 : f 1 12 = 0)  : KI l yX5_doFirstGoodSwap cX5_doFirstGoodSwap 4 (some .boolean) ({ frames := 1, cells := 0, slots := 0, locals := 12 } : Room) D a cI cZ [.ref (a 7), .long le] f u (fun r f2 u2 => f = f2 ∧ u = u2 ∧ r = 0) := by
  refine KX.of (by decide) (Nat.le_of_ble_eq_true rfl) ?_
  intro p e s m below meth c cx hw hr hk ls hl
  have cx : Cx p s m _ c cX5_doFirstGoodSwap RX5 4 D cI cZ := cx
  have hl : lv_has ls 4 [(0, .ref (a 7)), (1, .long le)] := hl
  have hx := cx.1.1
  have hb := cx.1.2.1
  refine lv_iconst (v := 0) hx hb dX5_doFirstGoodSwap_0 (by decide) ?_
  refine lv_istore_n (lv' := [(3, .int 0), (0, .ref (a 7)), (1, .long le)]) hx hb dX5_doFirstGoodSwap_1 rfl hl (by decide) rfl (fun ls hl => ?_)
  refine lv_iload_n hx hb dX5_doFirstGoodSwap_2 rfl (lv_at hl 0 rfl) ?_
  refine lv_aload_n hx hb dX5_doFirstGoodSwap_3 rfl (lv_at hl 1 rfl) ?_
  refine gf_X5_9 cx hw dX5_doFirstGoodSwap_4 ?_
  refine gf_X5_15 cx hw dX5_doFirstGoodSwap_7 ?_
  refine topc (y := 0) h1_12 ?_
  refine lv_icmp_ge (tgt := 41) hx hb dX5_doFirstGoodSwap_10 (by decide) (fun _ => ?_) (fun q => absurd (by decide) q)
  refine lv_iconst (v := 0) hx hb dX5_doFirstGoodSwap_41 (by decide) ?_
  exact retZ cx hw hr hk rfl dX5_doFirstGoodSwap_42 ⟨rfl, rfl, rfl⟩

set_option maxHeartbeats 4000000 in
set_option maxRecDepth 100000 in
theorem c_X5_doFirstGoodMove (l : Launch) (D : va_G) (a : Nat → Nat) (cI cZ : ClassId) (f : FF) (u : UU) (am : Int32) (le : Int64) (h1_12 : f 1 12 = 0)  : KI l yX5_doFirstGoodMove cX5_doFirstGoodMove 5 (some .boolean) ({ frames := 1, cells := 0, slots := 0, locals := 12 } : Room) D a cI cZ [.ref (a 7), .int am, .long le] f u (fun r f2 u2 => f = f2 ∧ u = u2 ∧ r = 0) := by
  refine KX.of (by decide) (Nat.le_of_ble_eq_true rfl) ?_
  intro p e s m below meth c cx hw hr hk ls hl
  have cx : Cx p s m _ c cX5_doFirstGoodMove RX5 5 D cI cZ := cx
  have hl : lv_has ls 5 [(0, .ref (a 7)), (1, .int am), (2, .long le)] := hl
  have hx := cx.1.1
  have hb := cx.1.2.1
  refine lv_iconst (v := 0) hx hb dX5_doFirstGoodMove_0 (by decide) ?_
  refine lv_istore (lv' := [(4, .int 0), (0, .ref (a 7)), (1, .int am), (2, .long le)]) hx hb dX5_doFirstGoodMove_1 hl (by decide) rfl (fun ls hl => ?_)
  refine lv_iload hx hb dX5_doFirstGoodMove_3 (lv_at hl 0 rfl) ?_
  refine lv_aload_n hx hb dX5_doFirstGoodMove_5 rfl (lv_at hl 1 rfl) ?_
  refine gf_X5_9 cx hw dX5_doFirstGoodMove_6 ?_
  refine gf_X5_15 cx hw dX5_doFirstGoodMove_9 ?_
  refine topc (y := 0) h1_12 ?_
  refine lv_icmp_ge (tgt := 46) hx hb dX5_doFirstGoodMove_12 (by decide) (fun _ => ?_) (fun q => absurd (by decide) q)
  refine lv_iconst (v := 0) hx hb dX5_doFirstGoodMove_46 (by decide) ?_
  exact retZ cx hw hr hk rfl dX5_doFirstGoodMove_47 ⟨rfl, rfl, rfl⟩

set_option maxHeartbeats 4000000 in
set_option maxRecDepth 100000 in
theorem c_X4_gatherWaiting (l : Launch) (D : va_G) (a : Nat → Nat) (cI cZ : ClassId) (f : FF) (u : UU)  (h1_12 : f 1 12 = 0)  : KI l yX4_gatherWaiting cX4_gatherWaiting 2 (some .boolean) ({ frames := 1, cells := 0, slots := 0, locals := 12 } : Room) D a cI cZ [.ref (a 8)] f u (fun r f2 u2 => (up f 8 (upd (f 8) 4 0)) = f2 ∧ u = u2 ∧ r = 1) := by
  refine KX.of (by decide) (Nat.le_of_ble_eq_true rfl) ?_
  intro p e s m below meth c cx hw hr hk ls hl
  have cx : Cx p s m _ c cX4_gatherWaiting RX4 2 D cI cZ := cx
  have hl : lv_has ls 2 [(0, .ref (a 8))] := hl
  have hx := cx.1.1
  have hb := cx.1.2.1
  refine lv_aload_n hx hb dX4_gatherWaiting_0 rfl (lv_at hl 0 rfl) ?_
  refine lv_iconst (v := 0) hx hb dX4_gatherWaiting_1 (by decide) ?_
  refine pf_X4_21 cx hw dX4_gatherWaiting_2 (fun H locs hw => ?_)
  refine lv_iconst (v := 0) hx hb dX4_gatherWaiting_5 (by decide) ?_
  refine lv_istore_n (lv' := [(1, .int 0), (0, .ref (a 8))]) hx hb dX4_gatherWaiting_6 rfl hl (by decide) rfl (fun ls hl => ?_)
  refine lv_iload_n hx hb dX4_gatherWaiting_7 rfl (lv_at hl 0 rfl) ?_
  refine lv_aload_n hx hb dX4_gatherWaiting_8 rfl (lv_at hl 1 rfl) ?_
  refine gf_X4_42 cx hw dX4_gatherWaiting_9 ?_
  refine gf_X4_53 cx hw dX4_gatherWaiting_12 ?_
  refine topc (y := 0) h1_12 ?_
  refine lv_icmp_ge (tgt := 62) hx hb dX4_gatherWaiting_15 (by decide) (fun _ => ?_) (fun q => absurd (by decide) q)
  refine lv_iconst (v := 1) hx hb dX4_gatherWaiting_62 (by decide) ?_
  exact retZ cx hw hr hk rfl dX4_gatherWaiting_63 ⟨rfl, rfl, rfl⟩

set_option maxHeartbeats 4000000 in
set_option maxRecDepth 100000 in
theorem c_X4_gatherFree (l : Launch) (D : va_G) (a : Nat → Nat) (cI cZ : ClassId) (f : FF) (u : UU)  (h1_3 : f 1 3 = 0)  : KI l yX4_gatherFree cX4_gatherFree 4 (some .boolean) ({ frames := 1, cells := 0, slots := 0, locals := 12 } : Room) D a cI cZ [.ref (a 8)] f u (fun r f2 u2 => (up f 8 (upd (f 8) 5 0)) = f2 ∧ u = u2 ∧ r = 1) := by
  refine KX.of (by decide) (Nat.le_of_ble_eq_true rfl) ?_
  intro p e s m below meth c cx hw hr hk ls hl
  have cx : Cx p s m _ c cX4_gatherFree RX4 4 D cI cZ := cx
  have hl : lv_has ls 4 [(0, .ref (a 8))] := hl
  have hx := cx.1.1
  have hb := cx.1.2.1
  refine lv_aload_n hx hb dX4_gatherFree_0 rfl (lv_at hl 0 rfl) ?_
  refine lv_iconst (v := 0) hx hb dX4_gatherFree_1 (by decide) ?_
  refine pf_X4_25 cx hw dX4_gatherFree_2 (fun H locs hw => ?_)
  refine lv_iconst (v := 0) hx hb dX4_gatherFree_5 (by decide) ?_
  refine lv_istore_n (lv' := [(1, .int 0), (0, .ref (a 8))]) hx hb dX4_gatherFree_6 rfl hl (by decide) rfl (fun ls hl => ?_)
  refine lv_iload_n hx hb dX4_gatherFree_7 rfl (lv_at hl 0 rfl) ?_
  refine lv_aload_n hx hb dX4_gatherFree_8 rfl (lv_at hl 1 rfl) ?_
  refine gf_X4_42 cx hw dX4_gatherFree_9 ?_
  refine gf_X4_62 cx hw dX4_gatherFree_12 ?_
  refine topc (y := 0) h1_3 ?_
  refine lv_icmp_ge (tgt := 92) hx hb dX4_gatherFree_15 (by decide) (fun _ => ?_) (fun q => absurd (by decide) q)
  refine lv_iconst (v := 1) hx hb dX4_gatherFree_92 (by decide) ?_
  exact retZ cx hw hr hk rfl dX4_gatherFree_93 ⟨rfl, rfl, rfl⟩

set_option maxHeartbeats 4000000 in
set_option maxRecDepth 100000 in
theorem c_X4_gather (l : Launch) (D : va_G) (a : Nat → Nat) (cI cZ : ClassId) (f : FF) (u : UU)  (h1_12 : f 1 12 = 0) (h1_3 : f 1 3 = 0)  : KI l yX4_gather cX4_gather 1 (some .boolean) ({ frames := 2, cells := 0, slots := 0, locals := 35 } : Room) D a cI cZ [.ref (a 8)] f u (fun r f2 _ => r = 0 ∧ KP f f2) := by
  refine KX.of (by decide) (Nat.le_of_ble_eq_true rfl) ?_
  intro p e s m below meth c cx hw hr hk ls hl
  have cx : Cx p s m _ c cX4_gather RX4 1 D cI cZ := cx
  have hl : lv_has ls 1 [(0, .ref (a 8))] := hl
  have hx := cx.1.1
  have hb := cx.1.2.1
  refine lv_aload_n hx hb dX4_gather_0 rfl (lv_at hl 0 rfl) ?_
  refine goI hw (runVW (k := 8) (As := []) (rest := []) cx hw (c_X4_gatherWaiting l D a cI cZ f u  h1_12) lk_X4_46 rfl rfl ⟨Nat.le_of_ble_eq_true rfl, Nat.le_of_ble_eq_true rfl⟩ ⟨rfl, rfl⟩ ⟨Nat.zero_le _, Nat.zero_le _⟩ rfl rfl hl.1 (Nat.le_of_ble_eq_true rfl) dX4_gather_1) (fun r_1 f2 u2 H locs hp hw => ?_)
  obtain ⟨rfl, rfl, e_1⟩ := hp
  refine topc e_1 ?_
  refine lv_if_eq (tgt := 25) hx hb dX4_gather_4 (by decide) (fun q => absurd q (by decide)) (fun _ => ?_)
  refine lv_aload_n hx hb dX4_gather_7 rfl (lv_at hl 0 rfl) ?_
  refine goI hw (runVW (k := 8) (As := []) (rest := []) cx hw (c_X4_gatherFree l D a cI cZ (up f 8 (upd (f 8) 4 0)) u  h1_3) lk_X4_50 rfl rfl ⟨Nat.le_of_ble_eq_true rfl, Nat.le_of_ble_eq_true rfl⟩ ⟨rfl, rfl⟩ ⟨Nat.zero_le _, Nat.zero_le _⟩ rfl rfl hl.1 (Nat.le_of_ble_eq_true rfl) dX4_gather_8) (fun r_3 f2 u2 H locs hp hw => ?_)
  obtain ⟨rfl, rfl, e_3⟩ := hp
  refine topc e_3 ?_
  refine lv_if_eq (tgt := 25) hx hb dX4_gather_11 (by decide) (fun q => absurd q (by decide)) (fun _ => ?_)
  refine lv_aload_n hx hb dX4_gather_14 rfl (lv_at hl 0 rfl) ?_
  refine gf_X4_21 cx hw dX4_gather_15 ?_
  refine topc (y := 0) rfl ?_
  refine lv_if_le (tgt := 25) hx hb dX4_gather_18 (by decide) (fun _ => ?_) (fun q => absurd (by decide) q)
  refine lv_iconst (v := 0) hx hb dX4_gather_25 (by decide) ?_
  exact retZ cx hw hr hk rfl dX4_gather_26 ⟨rfl, (KP.up (by decide) (KP.up (by decide) KP.rf))⟩

set_option maxHeartbeats 4000000 in
set_option maxRecDepth 100000 in
theorem c_X7_dryWeight (l : Launch) (D : va_G) (a : Nat → Nat) (cI cZ : ClassId) (f : FF) (u : UU)  (h0_0 : f 0 0 = 1000) (h1_12 : f 1 12 = 0) (h2_3 : f 2 3 = 0) (h2_4 : f 2 4 = 80)  : KI l yX7_dryWeight cX7_dryWeight 1 (some .int) ({ frames := 3, cells := 0, slots := 0, locals := 54 } : Room) D a cI cZ [.ref (a 0)] f u (fun r f2 u2 => f = f2 ∧ u = u2 ∧ r = 1000) := by
  refine KX.of (by decide) (Nat.le_of_ble_eq_true rfl) ?_
  intro p e s m below meth c cx hw hr hk ls hl
  have cx : Cx p s m _ c cX7_dryWeight RX7 1 D cI cZ := cx
  have hl : lv_has ls 1 [(0, .ref (a 0))] := hl
  have hx := cx.1.1
  have hb := cx.1.2.1
  refine lv_aload_n hx hb dX7_dryWeight_0 rfl (lv_at hl 0 rfl) ?_
  refine gf_X7_9 cx hw dX7_dryWeight_1 ?_
  refine topc (y := 1000) h0_0 ?_
  refine lv_aload_n hx hb dX7_dryWeight_4 rfl (lv_at hl 0 rfl) ?_
  refine gf_X7_21 cx hw dX7_dryWeight_5 ?_
  refine goI hw (runVW (k := 1) (As := []) (rest := [.int 1000]) cx hw (c_X1_loadedWeight l D a cI cZ f u  h1_12) lk_X7_277 rfl rfl ⟨Nat.le_of_ble_eq_true rfl, Nat.le_of_ble_eq_true rfl⟩ ⟨rfl, rfl⟩ ⟨Nat.zero_le _, Nat.zero_le _⟩ rfl rfl hl.1 (Nat.le_of_ble_eq_true rfl) dX7_dryWeight_8) (fun r_1 f2 u2 H locs hp hw => ?_)
  obtain ⟨rfl, rfl, e_1⟩ := hp
  refine topc e_1 ?_
  refine lv_iadd hx hb dX7_dryWeight_11 ?_
  refine topc (y := 1000) (by decide) ?_
  refine lv_aload_n hx hb dX7_dryWeight_12 rfl (lv_at hl 0 rfl) ?_
  refine gf_X7_28 cx hw dX7_dryWeight_13 ?_
  refine goI hw (runVW (k := 2) (As := []) (rest := [.int 1000]) cx hw (c_X0_takenWeight l D a cI cZ f u  h2_3 h2_4) lk_X7_280 rfl rfl ⟨Nat.le_of_ble_eq_true rfl, Nat.le_of_ble_eq_true rfl⟩ ⟨rfl, rfl⟩ ⟨Nat.zero_le _, Nat.zero_le _⟩ rfl rfl hl.1 (Nat.le_of_ble_eq_true rfl) dX7_dryWeight_16) (fun r_2 f2 u2 H locs hp hw => ?_)
  obtain ⟨rfl, rfl, e_2⟩ := hp
  refine topc e_2 ?_
  refine lv_iadd hx hb dX7_dryWeight_19 ?_
  refine topc (y := 1000) (by decide) ?_
  exact retI cx hw hr hk dX7_dryWeight_20 ⟨rfl, rfl, rfl⟩

set_option maxHeartbeats 4000000 in
set_option maxRecDepth 100000 in
theorem c_X7_dryMoment (l : Launch) (D : va_G) (a : Nat → Nat) (cI cZ : ClassId) (f : FF) (u : UU)  (h0_0 : f 0 0 = 1000) (h0_1 : f 0 1 = 0) (h1_12 : f 1 12 = 0) (h2_3 : f 2 3 = 0)  : KL l yX7_dryMoment cX7_dryMoment 1 (some .long) ({ frames := 2, cells := 0, slots := 0, locals := 35 } : Room) D a cI cZ [.ref (a 0)] f u (fun r f2 u2 => f = f2 ∧ u = u2 ∧ r = 0) := by
  refine KX.of (by decide) (Nat.le_of_ble_eq_true rfl) ?_
  intro p e s m below meth c cx hw hr hk ls hl
  have cx : Cx p s m _ c cX7_dryMoment RX7 1 D cI cZ := cx
  have hl : lv_has ls 1 [(0, .ref (a 0))] := hl
  have hx := cx.1.1
  have hb := cx.1.2.1
  refine lv_aload_n hx hb dX7_dryMoment_0 rfl (lv_at hl 0 rfl) ?_
  refine gf_X7_9 cx hw dX7_dryMoment_1 ?_
  refine topc (y := 1000) h0_0 ?_
  refine lv_i2l (v := 1000) hx hb dX7_dryMoment_4 (by decide) ?_
  refine lv_aload_n hx hb dX7_dryMoment_5 rfl (lv_at hl 0 rfl) ?_
  refine gf_X7_15 cx hw dX7_dryMoment_6 ?_
  refine topc (y := 0) h0_1 ?_
  refine lv_i2l (v := 0) hx hb dX7_dryMoment_9 (by decide) ?_
  refine lv_lmul hx hb dX7_dryMoment_10 ?_
  refine topL (y := 0) (by decide) ?_
  refine lv_aload_n hx hb dX7_dryMoment_11 rfl (lv_at hl 0 rfl) ?_
  refine gf_X7_21 cx hw dX7_dryMoment_12 ?_
  refine goL hw (runVW (k := 1) (As := []) (rest := [.long 0]) cx hw (c_X1_loadedMoment l D a cI cZ f u  h1_12) lk_X7_283 rfl rfl ⟨Nat.le_of_ble_eq_true rfl, Nat.le_of_ble_eq_true rfl⟩ ⟨rfl, rfl⟩ ⟨Nat.zero_le _, Nat.zero_le _⟩ rfl rfl hl.1 (Nat.le_of_ble_eq_true rfl) dX7_dryMoment_15) (fun r_1 f2 u2 H locs hp hw => ?_)
  obtain ⟨rfl, rfl, e_1⟩ := hp
  refine topL e_1 ?_
  refine lv_ladd hx hb dX7_dryMoment_18 ?_
  refine topL (y := 0) (by decide) ?_
  refine lv_aload_n hx hb dX7_dryMoment_19 rfl (lv_at hl 0 rfl) ?_
  refine gf_X7_28 cx hw dX7_dryMoment_20 ?_
  refine goL hw (runVW (k := 2) (As := []) (rest := [.long 0]) cx hw (c_X0_takenMoment l D a cI cZ f u  h2_3) lk_X7_286 rfl rfl ⟨Nat.le_of_ble_eq_true rfl, Nat.le_of_ble_eq_true rfl⟩ ⟨rfl, rfl⟩ ⟨Nat.zero_le _, Nat.zero_le _⟩ rfl rfl hl.1 (Nat.le_of_ble_eq_true rfl) dX7_dryMoment_23) (fun r_2 f2 u2 H locs hp hw => ?_)
  obtain ⟨rfl, rfl, e_2⟩ := hp
  refine topL e_2 ?_
  refine lv_ladd hx hb dX7_dryMoment_26 ?_
  refine topL (y := 0) (by decide) ?_
  exact retL cx hw hr hk dX7_dryMoment_27 ⟨rfl, rfl, rfl⟩

set_option maxHeartbeats 4000000 in
set_option maxRecDepth 100000 in
theorem c_X7_lean (l : Launch) (D : va_G) (a : Nat → Nat) (cI cZ : ClassId) (f : FF) (u : UU) (am : Int32) (h0_0 : f 0 0 = 1000) (h0_1 : f 0 1 = 0) (h1_12 : f 1 12 = 0) (h2_3 : f 2 3 = 0) (h2_4 : f 2 4 = 80)  : KL l yX7_lean cX7_lean 2 (some .long) ({ frames := 4, cells := 0, slots := 0, locals := 74 } : Room) D a cI cZ [.ref (a 0), .int am] f u (fun r f2 u2 => f = f2 ∧ u = u2 ∧ r = (0 - (am.toInt64 * 1000))) := by
  refine KX.of (by decide) (Nat.le_of_ble_eq_true rfl) ?_
  intro p e s m below meth c cx hw hr hk ls hl
  have cx : Cx p s m _ c cX7_lean RX7 2 D cI cZ := cx
  have hl : lv_has ls 2 [(0, .ref (a 0)), (1, .int am)] := hl
  have hx := cx.1.1
  have hb := cx.1.2.1
  refine lv_aload_n hx hb dX7_lean_0 rfl (lv_at hl 0 rfl) ?_
  refine goL hw (runVW (k := 0) (As := []) (rest := []) cx hw (c_X7_dryMoment l D a cI cZ f u  h0_0 h0_1 h1_12 h2_3) lk_X7_207 rfl rfl ⟨Nat.le_of_ble_eq_true rfl, Nat.le_of_ble_eq_true rfl⟩ ⟨rfl, rfl⟩ ⟨Nat.zero_le _, Nat.zero_le _⟩ rfl rfl hl.1 (Nat.le_of_ble_eq_true rfl) dX7_lean_1) (fun r_1 f2 u2 H locs hp hw => ?_)
  obtain ⟨rfl, rfl, e_1⟩ := hp
  refine topL e_1 ?_
  refine lv_iload_n hx hb dX7_lean_4 rfl (lv_at hl 1 rfl) ?_
  refine lv_i2l (v := am.toInt64) hx hb dX7_lean_5 rfl ?_
  refine lv_aload_n hx hb dX7_lean_6 rfl (lv_at hl 0 rfl) ?_
  refine goI hw (runVW (k := 0) (As := []) (rest := [.long am.toInt64, .long 0]) cx hw (c_X7_dryWeight l D a cI cZ f u  h0_0 h1_12 h2_3 h2_4) lk_X7_201 rfl rfl ⟨Nat.le_of_ble_eq_true rfl, Nat.le_of_ble_eq_true rfl⟩ ⟨rfl, rfl⟩ ⟨Nat.zero_le _, Nat.zero_le _⟩ rfl rfl hl.1 (Nat.le_of_ble_eq_true rfl) dX7_lean_7) (fun r_2 f2 u2 H locs hp hw => ?_)
  obtain ⟨rfl, rfl, e_2⟩ := hp
  refine topc e_2 ?_
  refine lv_i2l (v := 1000) hx hb dX7_lean_10 (by decide) ?_
  refine lv_lmul hx hb dX7_lean_11 ?_
  refine lv_lsub hx hb dX7_lean_12 ?_
  exact retL cx hw hr hk dX7_lean_13 ⟨rfl, rfl, rfl⟩

set_option maxHeartbeats 4000000 in
set_option maxRecDepth 100000 in
theorem c_X7_empty (l : Launch) (D : va_G) (a : Nat → Nat) (cI cZ : ClassId) (f : FF) (u : UU) (w : Int32) (am : Int32)   : KI l yX7_empty cX7_empty 3 (some .int) ({ frames := 3, cells := 0, slots := 0, locals := 54 } : Room) D a cI cZ [.ref (a 0), .int w, .int am] f u (fun r f2 u2 => (r = an_empty w am) ∧ KP f f2) := by
  refine KX.of (by decide) (Nat.le_of_ble_eq_true rfl) ?_
  intro p e s m below meth c cx hw hr hk ls hl
  have cx : Cx p s m _ c cX7_empty RX7 3 D cI cZ := cx
  have hl : lv_has ls 3 [(0, .ref (a 0)), (1, .int w), (2, .int am)] := hl
  have hx := cx.1.1
  have hb := cx.1.2.1
  refine lv_iload_n hx hb dX7_empty_0 rfl (lv_at hl 1 rfl) ?_
  refine lv_sipush (v := 1000) hx hb dX7_empty_1 (by decide) ?_
  refine lv_ldc (v := 100000) hx hb cx.1.2.2.2.1 (cx.1.2.2.2.2 _ mm_2_21) dX7_empty_4 ?_
  refine goI hw (runSW (As := [.int w, .int 1000, .int 100000]) (rest := []) cx hw (c_X7_isFromTo l D a cI cZ f u w 1000 100000 ) lk_X7_75 ⟨Nat.le_of_ble_eq_true rfl, Nat.le_of_ble_eq_true rfl⟩ ⟨rfl, rfl⟩ ⟨Nat.zero_le _, Nat.zero_le _⟩ rfl rfl hl.1 (Nat.le_of_ble_eq_true rfl) dX7_empty_6) (fun r_1 f2 u2 H locs hp hw => ?_)
  obtain ⟨rfl, rfl, e_1⟩ := hp
  refine topc e_1 ?_
  refine lv_if_eq (tgt := 19) hx hb dX7_empty_9 (by decide) (fun c_2 => ?_) (fun c_2 => ?_)
  · refine lv_bipush (v := (-2)) hx hb dX7_empty_19 (by decide) ?_
    exact retI cx hw hr hk dX7_empty_21 ⟨(by simp [an_empty, c_2]), KP.rf⟩
  · refine lv_iload_n hx hb dX7_empty_12 rfl (lv_at hl 2 rfl) ?_
    refine goI hw (runSW (As := [.int am]) (rest := []) cx hw (c_X7_isArm l D a cI cZ f u am ) lk_X7_79 ⟨Nat.le_of_ble_eq_true rfl, Nat.le_of_ble_eq_true rfl⟩ ⟨rfl, rfl⟩ ⟨Nat.zero_le _, Nat.zero_le _⟩ rfl rfl hl.1 (Nat.le_of_ble_eq_true rfl) dX7_empty_13) (fun r_3 f2 u2 H locs hp hw => ?_)
    obtain ⟨rfl, rfl, e_3⟩ := hp
    refine topc e_3 ?_
    refine lv_if_ne (tgt := 22) hx hb dX7_empty_16 (by decide) (fun c_4 => ?_) (fun c_4 => ?_)
    · refine lv_aload_n hx hb dX7_empty_22 rfl (lv_at hl 0 rfl) ?_
      refine lv_iload_n hx hb dX7_empty_23 rfl (lv_at hl 1 rfl) ?_
      refine pf_X7_9 cx hw dX7_empty_24 (fun H locs hw => ?_)
      refine lv_aload_n hx hb dX7_empty_27 rfl (lv_at hl 0 rfl) ?_
      refine lv_iload_n hx hb dX7_empty_28 rfl (lv_at hl 2 rfl) ?_
      refine pf_X7_15 cx hw dX7_empty_29 (fun H locs hw => ?_)
      refine lv_iconst (v := 0) hx hb dX7_empty_32 (by decide) ?_
      exact retI cx hw hr hk dX7_empty_33 ⟨(by simp [an_empty, c_2, c_4]), (KP.up (by decide) (KP.up (by decide) KP.rf))⟩
    · refine lv_bipush (v := (-2)) hx hb dX7_empty_19 (by decide) ?_
      exact retI cx hw hr hk dX7_empty_21 ⟨(by simp [an_empty, c_2, c_4]), KP.rf⟩

set_option maxHeartbeats 4000000 in
set_option maxRecDepth 100000 in
theorem c_X7_hold (l : Launch) (D : va_G) (a : Nat → Nat) (cI cZ : ClassId) (f : FF) (u : UU) (mo : Int32) (fl : Int32) (h1_3 : f 1 3 = 0)  : KI l yX7_hold cX7_hold 3 (some .int) ({ frames := 3, cells := 0, slots := 0, locals := 54 } : Room) D a cI cZ [.ref (a 0), .int mo, .int fl] f u (fun r f2 u2 => (r = an_hold mo fl) ∧ KP f f2) := by
  refine KX.of (by decide) (Nat.le_of_ble_eq_true rfl) ?_
  intro p e s m below meth c cx hw hr hk ls hl
  have cx : Cx p s m _ c cX7_hold RX7 3 D cI cZ := cx
  have hl : lv_has ls 3 [(0, .ref (a 0)), (1, .int mo), (2, .int fl)] := hl
  have hx := cx.1.1
  have hb := cx.1.2.1
  refine lv_iload_n hx hb dX7_hold_0 rfl (lv_at hl 1 rfl) ?_
  refine goI hw (runSW (As := [.int mo]) (rest := []) cx hw (c_X7_isBorne l D a cI cZ f u mo ) lk_X7_83 ⟨Nat.le_of_ble_eq_true rfl, Nat.le_of_ble_eq_true rfl⟩ ⟨rfl, rfl⟩ ⟨Nat.zero_le _, Nat.zero_le _⟩ rfl rfl hl.1 (Nat.le_of_ble_eq_true rfl) dX7_hold_1) (fun r_1 f2 u2 H locs hp hw => ?_)
  obtain ⟨rfl, rfl, e_1⟩ := hp
  refine topc e_1 ?_
  refine lv_if_eq (tgt := 14) hx hb dX7_hold_4 (by decide) (fun c_2 => ?_) (fun c_2 => ?_)
  · refine lv_bipush (v := (-2)) hx hb dX7_hold_14 (by decide) ?_
    exact retI cx hw hr hk dX7_hold_16 ⟨(by simp [an_hold, c_2]), KP.rf⟩
  · refine lv_iload_n hx hb dX7_hold_7 rfl (lv_at hl 2 rfl) ?_
    refine goI hw (runSW (As := [.int fl]) (rest := []) cx hw (c_X7_isBorne l D a cI cZ f u fl ) lk_X7_83 ⟨Nat.le_of_ble_eq_true rfl, Nat.le_of_ble_eq_true rfl⟩ ⟨rfl, rfl⟩ ⟨Nat.zero_le _, Nat.zero_le _⟩ rfl rfl hl.1 (Nat.le_of_ble_eq_true rfl) dX7_hold_8) (fun r_3 f2 u2 H locs hp hw => ?_)
    obtain ⟨rfl, rfl, e_3⟩ := hp
    refine topc e_3 ?_
    refine lv_if_ne (tgt := 17) hx hb dX7_hold_11 (by decide) (fun c_4 => ?_) (fun c_4 => ?_)
    · refine lv_aload_n hx hb dX7_hold_17 rfl (lv_at hl 0 rfl) ?_
      refine gf_X7_21 cx hw dX7_hold_18 ?_
      refine lv_iload_n hx hb dX7_hold_21 rfl (lv_at hl 1 rfl) ?_
      refine lv_iload_n hx hb dX7_hold_22 rfl (lv_at hl 2 rfl) ?_
      refine goI hw (runVW (k := 1) (As := [.int mo, .int fl]) (rest := []) cx hw (c_X1_addHold l D a cI cZ f u mo fl h1_3) lk_X7_86 rfl rfl ⟨Nat.le_of_ble_eq_true rfl, Nat.le_of_ble_eq_true rfl⟩ ⟨rfl, rfl⟩ ⟨Nat.zero_le _, Nat.zero_le _⟩ rfl rfl hl.1 (Nat.le_of_ble_eq_true rfl) dX7_hold_23) (fun r_5 f_5 u_5 H locs hp_5 hw => ?_)
      refine topc (y := 0) hp_5.1 ?_
      exact retI cx hw hr hk dX7_hold_26 ⟨(by simp [an_hold, c_2, c_4]), (KP.tr KP.rf hp_5.2)⟩
    · refine lv_bipush (v := (-2)) hx hb dX7_hold_14 (by decide) ?_
      exact retI cx hw hr hk dX7_hold_16 ⟨(by simp [an_hold, c_2, c_4]), KP.rf⟩

set_option maxHeartbeats 4000000 in
set_option maxRecDepth 100000 in
theorem c_X7_slot (l : Launch) (D : va_G) (a : Nat → Nat) (cI cZ : ClassId) (f : FF) (u : UU) (h : Int32) (am : Int32) (mo : Int32) (h1_3 : f 1 3 = 0)  : KI l yX7_slot cX7_slot 4 (some .int) ({ frames := 2, cells := 0, slots := 0, locals := 33 } : Room) D a cI cZ [.ref (a 0), .int h, .int am, .int mo] f u (fun r f2 u2 => (r = (-1)) ∧ KP f f2) := by
  refine KX.of (by decide) (Nat.le_of_ble_eq_true rfl) ?_
  intro p e s m below meth c cx hw hr hk ls hl
  have cx : Cx p s m _ c cX7_slot RX7 4 D cI cZ := cx
  have hl : lv_has ls 4 [(0, .ref (a 0)), (1, .int h), (2, .int am), (3, .int mo)] := hl
  have hx := cx.1.1
  have hb := cx.1.2.1
  refine lv_aload_n hx hb dX7_slot_0 rfl (lv_at hl 0 rfl) ?_
  refine gf_X7_21 cx hw dX7_slot_1 ?_
  refine lv_iload_n hx hb dX7_slot_4 rfl (lv_at hl 1 rfl) ?_
  refine goI hw (runVW (k := 1) (As := [.int h]) (rest := []) cx hw (c_X1_hasHold l D a cI cZ f u h h1_3) lk_X7_90 rfl rfl ⟨Nat.le_of_ble_eq_true rfl, Nat.le_of_ble_eq_true rfl⟩ ⟨rfl, rfl⟩ ⟨Nat.zero_le _, Nat.zero_le _⟩ rfl rfl hl.1 (Nat.le_of_ble_eq_true rfl) dX7_slot_5) (fun r_1 f2 u2 H locs hp hw => ?_)
  obtain ⟨rfl, rfl, e_1⟩ := hp
  refine topc e_1 ?_
  refine lv_if_ne (tgt := 13) hx hb dX7_slot_8 (by decide) (fun q => absurd (by decide) q) (fun _ => ?_)
  refine lv_iconst (v := (-1)) hx hb dX7_slot_11 (by decide) ?_
  exact retI cx hw hr hk dX7_slot_12 ⟨(by simp []), KP.rf⟩

set_option maxHeartbeats 4000000 in
set_option maxRecDepth 100000 in
theorem c_X7_apart (l : Launch) (D : va_G) (a : Nat → Nat) (cI cZ : ClassId) (f : FF) (u : UU) (x : Int32) (y : Int32) (d : Int32)  (hz : ∀ i, f 20 i = 0) : KI l yX7_apart cX7_apart 4 (some .int) ({ frames := 3, cells := 0, slots := 0, locals := 54 } : Room) D a cI cZ [.ref (a 0), .int x, .int y, .int d] f u (fun r f2 u2 => (r = an_apart x y d) ∧ KP f f2) := by
  refine KX.of (by decide) (Nat.le_of_ble_eq_true rfl) ?_
  intro p e s m below meth c cx hw hr hk ls hl
  have cx : Cx p s m _ c cX7_apart RX7 4 D cI cZ := cx
  have hl : lv_has ls 4 [(0, .ref (a 0)), (1, .int x), (2, .int y), (3, .int d)] := hl
  have hx := cx.1.1
  have hb := cx.1.2.1
  refine lv_iload_n hx hb dX7_apart_0 rfl (lv_at hl 1 rfl) ?_
  refine goI hw (runSW (As := [.int x]) (rest := []) cx hw (c_X7_isKind l D a cI cZ f u x ) lk_X7_101 ⟨Nat.le_of_ble_eq_true rfl, Nat.le_of_ble_eq_true rfl⟩ ⟨rfl, rfl⟩ ⟨Nat.zero_le _, Nat.zero_le _⟩ rfl rfl hl.1 (Nat.le_of_ble_eq_true rfl) dX7_apart_1) (fun r_1 f2 u2 H locs hp hw => ?_)
  obtain ⟨rfl, rfl, e_1⟩ := hp
  refine topc e_1 ?_
  refine lv_if_eq (tgt := 14) hx hb dX7_apart_4 (by decide) (fun c_2 => ?_) (fun c_2 => ?_)
  · refine lv_iconst (v := (-1)) hx hb dX7_apart_14 (by decide) ?_
    exact retI cx hw hr hk dX7_apart_15 ⟨(by simp [an_apart, c_2]), KP.rf⟩
  · refine lv_iload_n hx hb dX7_apart_7 rfl (lv_at hl 2 rfl) ?_
    refine goI hw (runSW (As := [.int y]) (rest := []) cx hw (c_X7_isKind l D a cI cZ f u y ) lk_X7_101 ⟨Nat.le_of_ble_eq_true rfl, Nat.le_of_ble_eq_true rfl⟩ ⟨rfl, rfl⟩ ⟨Nat.zero_le _, Nat.zero_le _⟩ rfl rfl hl.1 (Nat.le_of_ble_eq_true rfl) dX7_apart_8) (fun r_3 f2 u2 H locs hp hw => ?_)
    obtain ⟨rfl, rfl, e_3⟩ := hp
    refine topc e_3 ?_
    refine lv_if_ne (tgt := 16) hx hb dX7_apart_11 (by decide) (fun c_4 => ?_) (fun c_4 => ?_)
    · refine lv_iload_n hx hb dX7_apart_16 rfl (lv_at hl 3 rfl) ?_
      refine lv_iconst (v := 0) hx hb dX7_apart_17 (by decide) ?_
      refine lv_bipush (v := 8) hx hb dX7_apart_18 (by decide) ?_
      refine goI hw (runSW (As := [.int d, .int 0, .int 8]) (rest := []) cx hw (c_X7_isFromTo l D a cI cZ f u d 0 8 ) lk_X7_75 ⟨Nat.le_of_ble_eq_true rfl, Nat.le_of_ble_eq_true rfl⟩ ⟨rfl, rfl⟩ ⟨Nat.zero_le _, Nat.zero_le _⟩ rfl rfl hl.1 (Nat.le_of_ble_eq_true rfl) dX7_apart_20) (fun r_5 f2 u2 H locs hp hw => ?_)
      obtain ⟨rfl, rfl, e_5⟩ := hp
      refine topc e_5 ?_
      refine lv_if_ne (tgt := 29) hx hb dX7_apart_23 (by decide) (fun c_6 => ?_) (fun c_6 => ?_)
      · refine lv_aload_n hx hb dX7_apart_29 rfl (lv_at hl 0 rfl) ?_
        refine gf_X7_21 cx hw dX7_apart_30 ?_
        refine lv_iload_n hx hb dX7_apart_33 rfl (lv_at hl 1 rfl) ?_
        refine lv_iload_n hx hb dX7_apart_34 rfl (lv_at hl 2 rfl) ?_
        refine lv_iload_n hx hb dX7_apart_35 rfl (lv_at hl 3 rfl) ?_
        refine goI hw (runVW (k := 1) (As := [.int x, .int y, .int d]) (rest := []) cx hw (c_X1_setDistance l D a cI cZ f u x y d c_2 c_4 hz) lk_X7_104 rfl rfl ⟨Nat.le_of_ble_eq_true rfl, Nat.le_of_ble_eq_true rfl⟩ ⟨rfl, rfl⟩ ⟨Nat.zero_le _, Nat.zero_le _⟩ rfl rfl hl.1 (Nat.le_of_ble_eq_true rfl) dX7_apart_36) (fun r_7 f_7 u_7 H locs hp_7 hw => ?_)
        refine topc (y := 0) hp_7.1 ?_
        exact retI cx hw hr hk dX7_apart_39 ⟨(by simp [an_apart, c_2, c_4, c_6]), (KP.tr KP.rf hp_7.2)⟩
      · refine lv_bipush (v := (-2)) hx hb dX7_apart_26 (by decide) ?_
        exact retI cx hw hr hk dX7_apart_28 ⟨(by simp [an_apart, c_2, c_4, c_6]), KP.rf⟩
    · refine lv_iconst (v := (-1)) hx hb dX7_apart_14 (by decide) ?_
      exact retI cx hw hr hk dX7_apart_15 ⟨(by simp [an_apart, c_2, c_4]), KP.rf⟩

set_option maxHeartbeats 4000000 in
set_option maxRecDepth 100000 in
theorem c_X7_item (l : Launch) (D : va_G) (a : Nat → Nat) (cI cZ : ClassId) (f : FF) (u : UU) (w : Int32) (ki : Int32) (sp : Int32) (h1_12 : f 1 12 = 0)  : KI l yX7_item cX7_item 4 (some .int) ({ frames := 3, cells := 0, slots := 0, locals := 58 } : Room) D a cI cZ [.ref (a 0), .int w, .int ki, .int sp] f u (fun r f2 u2 => (r = an_item w ki sp) ∧ KP f f2) := by
  refine KX.of (by decide) (Nat.le_of_ble_eq_true rfl) ?_
  intro p e s m below meth c cx hw hr hk ls hl
  have cx : Cx p s m _ c cX7_item RX7 4 D cI cZ := cx
  have hl : lv_has ls 4 [(0, .ref (a 0)), (1, .int w), (2, .int ki), (3, .int sp)] := hl
  have hx := cx.1.1
  have hb := cx.1.2.1
  refine lv_iload_n hx hb dX7_item_0 rfl (lv_at hl 1 rfl) ?_
  refine lv_iconst (v := 1) hx hb dX7_item_1 (by decide) ?_
  refine lv_sipush (v := 5000) hx hb dX7_item_2 (by decide) ?_
  refine goI hw (runSW (As := [.int w, .int 1, .int 5000]) (rest := []) cx hw (c_X7_isFromTo l D a cI cZ f u w 1 5000 ) lk_X7_75 ⟨Nat.le_of_ble_eq_true rfl, Nat.le_of_ble_eq_true rfl⟩ ⟨rfl, rfl⟩ ⟨Nat.zero_le _, Nat.zero_le _⟩ rfl rfl hl.1 (Nat.le_of_ble_eq_true rfl) dX7_item_5) (fun r_1 f2 u2 H locs hp hw => ?_)
  obtain ⟨rfl, rfl, e_1⟩ := hp
  refine topc e_1 ?_
  refine lv_if_ne (tgt := 14) hx hb dX7_item_8 (by decide) (fun c_2 => ?_) (fun c_2 => ?_)
  · refine lv_iload_n hx hb dX7_item_14 rfl (lv_at hl 2 rfl) ?_
    refine goI hw (runSW (As := [.int ki]) (rest := []) cx hw (c_X7_isKind l D a cI cZ f u ki ) lk_X7_101 ⟨Nat.le_of_ble_eq_true rfl, Nat.le_of_ble_eq_true rfl⟩ ⟨rfl, rfl⟩ ⟨Nat.zero_le _, Nat.zero_le _⟩ rfl rfl hl.1 (Nat.le_of_ble_eq_true rfl) dX7_item_15) (fun r_3 f2 u2 H locs hp hw => ?_)
    obtain ⟨rfl, rfl, e_3⟩ := hp
    refine topc e_3 ?_
    refine lv_if_eq (tgt := 28) hx hb dX7_item_18 (by decide) (fun c_4 => ?_) (fun c_4 => ?_)
    · refine lv_iconst (v := (-1)) hx hb dX7_item_28 (by decide) ?_
      exact retI cx hw hr hk dX7_item_29 ⟨(by simp [an_item, c_2, c_4]), KP.rf⟩
    · refine lv_iload_n hx hb dX7_item_21 rfl (lv_at hl 3 rfl) ?_
      refine goI hw (runSW (As := [.int sp]) (rest := []) cx hw (c_X7_isStop l D a cI cZ f u sp ) lk_X7_107 ⟨Nat.le_of_ble_eq_true rfl, Nat.le_of_ble_eq_true rfl⟩ ⟨rfl, rfl⟩ ⟨Nat.zero_le _, Nat.zero_le _⟩ rfl rfl hl.1 (Nat.le_of_ble_eq_true rfl) dX7_item_22) (fun r_5 f2 u2 H locs hp hw => ?_)
      obtain ⟨rfl, rfl, e_5⟩ := hp
      refine topc e_5 ?_
      refine lv_if_ne (tgt := 30) hx hb dX7_item_25 (by decide) (fun c_6 => ?_) (fun c_6 => ?_)
      · refine lv_aload_n hx hb dX7_item_30 rfl (lv_at hl 0 rfl) ?_
        refine gf_X7_21 cx hw dX7_item_31 ?_
        refine lv_iload_n hx hb dX7_item_34 rfl (lv_at hl 1 rfl) ?_
        refine lv_iload_n hx hb dX7_item_35 rfl (lv_at hl 2 rfl) ?_
        refine lv_iload_n hx hb dX7_item_36 rfl (lv_at hl 3 rfl) ?_
        refine goI hw (runVW (k := 1) (As := [.int w, .int ki, .int sp]) (rest := []) cx hw (c_X1_addItem l D a cI cZ f u w ki sp h1_12) lk_X7_110 rfl rfl ⟨Nat.le_of_ble_eq_true rfl, Nat.le_of_ble_eq_true rfl⟩ ⟨rfl, rfl⟩ ⟨Nat.zero_le _, Nat.zero_le _⟩ rfl rfl hl.1 (Nat.le_of_ble_eq_true rfl) dX7_item_37) (fun r_7 f_7 u_7 H locs hp_7 hw => ?_)
        refine topc (y := 0) hp_7.1 ?_
        exact retI cx hw hr hk dX7_item_40 ⟨(by simp [an_item, c_2, c_4, c_6]), (KP.tr KP.rf hp_7.2)⟩
      · refine lv_iconst (v := (-1)) hx hb dX7_item_28 (by decide) ?_
        exact retI cx hw hr hk dX7_item_29 ⟨(by simp [an_item, c_2, c_4, c_6]), KP.rf⟩
  · refine lv_bipush (v := (-2)) hx hb dX7_item_11 (by decide) ?_
    exact retI cx hw hr hk dX7_item_13 ⟨(by simp [an_item, c_2]), KP.rf⟩

set_option maxHeartbeats 4000000 in
set_option maxRecDepth 100000 in
theorem c_X7_row (l : Launch) (D : va_G) (a : Nat → Nat) (cI cZ : ClassId) (f : FF) (u : UU) (am : Int32) (n : Int32) (h2_3 : f 2 3 = 0)  : KI l yX7_row cX7_row 3 (some .int) ({ frames := 3, cells := 0, slots := 0, locals := 54 } : Room) D a cI cZ [.ref (a 0), .int am, .int n] f u (fun r f2 u2 => (r = an_row am n) ∧ KP f f2) := by
  refine KX.of (by decide) (Nat.le_of_ble_eq_true rfl) ?_
  intro p e s m below meth c cx hw hr hk ls hl
  have cx : Cx p s m _ c cX7_row RX7 3 D cI cZ := cx
  have hl : lv_has ls 3 [(0, .ref (a 0)), (1, .int am), (2, .int n)] := hl
  have hx := cx.1.1
  have hb := cx.1.2.1
  refine lv_iload_n hx hb dX7_row_0 rfl (lv_at hl 1 rfl) ?_
  refine goI hw (runSW (As := [.int am]) (rest := []) cx hw (c_X7_isArm l D a cI cZ f u am ) lk_X7_79 ⟨Nat.le_of_ble_eq_true rfl, Nat.le_of_ble_eq_true rfl⟩ ⟨rfl, rfl⟩ ⟨Nat.zero_le _, Nat.zero_le _⟩ rfl rfl hl.1 (Nat.le_of_ble_eq_true rfl) dX7_row_1) (fun r_1 f2 u2 H locs hp hw => ?_)
  obtain ⟨rfl, rfl, e_1⟩ := hp
  refine topc e_1 ?_
  refine lv_if_eq (tgt := 17) hx hb dX7_row_4 (by decide) (fun c_2 => ?_) (fun c_2 => ?_)
  · refine lv_bipush (v := (-2)) hx hb dX7_row_17 (by decide) ?_
    exact retI cx hw hr hk dX7_row_19 ⟨(by simp [an_row, c_2]), KP.rf⟩
  · refine lv_iload_n hx hb dX7_row_7 rfl (lv_at hl 2 rfl) ?_
    refine lv_iconst (v := 1) hx hb dX7_row_8 (by decide) ?_
    refine lv_bipush (v := 8) hx hb dX7_row_9 (by decide) ?_
    refine goI hw (runSW (As := [.int n, .int 1, .int 8]) (rest := []) cx hw (c_X7_isFromTo l D a cI cZ f u n 1 8 ) lk_X7_75 ⟨Nat.le_of_ble_eq_true rfl, Nat.le_of_ble_eq_true rfl⟩ ⟨rfl, rfl⟩ ⟨Nat.zero_le _, Nat.zero_le _⟩ rfl rfl hl.1 (Nat.le_of_ble_eq_true rfl) dX7_row_11) (fun r_3 f2 u2 H locs hp hw => ?_)
    obtain ⟨rfl, rfl, e_3⟩ := hp
    refine topc e_3 ?_
    refine lv_if_ne (tgt := 20) hx hb dX7_row_14 (by decide) (fun c_4 => ?_) (fun c_4 => ?_)
    · refine lv_aload_n hx hb dX7_row_20 rfl (lv_at hl 0 rfl) ?_
      refine gf_X7_28 cx hw dX7_row_21 ?_
      refine lv_iload_n hx hb dX7_row_24 rfl (lv_at hl 1 rfl) ?_
      refine lv_iload_n hx hb dX7_row_25 rfl (lv_at hl 2 rfl) ?_
      refine goI hw (runVW (k := 2) (As := [.int am, .int n]) (rest := []) cx hw (c_X0_addRow l D a cI cZ f u am n h2_3) lk_X7_113 rfl rfl ⟨Nat.le_of_ble_eq_true rfl, Nat.le_of_ble_eq_true rfl⟩ ⟨rfl, rfl⟩ ⟨Nat.zero_le _, Nat.zero_le _⟩ rfl rfl hl.1 (Nat.le_of_ble_eq_true rfl) dX7_row_26) (fun r_5 f_5 u_5 H locs hp_5 hw => ?_)
      refine topc (y := 0) hp_5.1 ?_
      exact retI cx hw hr hk dX7_row_29 ⟨(by simp [an_row, c_2, c_4]), (KP.tr KP.rf hp_5.2)⟩
    · refine lv_bipush (v := (-2)) hx hb dX7_row_17 (by decide) ?_
      exact retI cx hw hr hk dX7_row_19 ⟨(by simp [an_row, c_2, c_4]), KP.rf⟩

set_option maxHeartbeats 4000000 in
set_option maxRecDepth 100000 in
theorem c_X7_tank (l : Launch) (D : va_G) (a : Nat → Nat) (cI cZ : ClassId) (f : FF) (u : UU) (am : Int32) (mo : Int32) (h3_3 : f 3 3 = 0)  : KI l yX7_tank cX7_tank 3 (some .int) ({ frames := 3, cells := 0, slots := 0, locals := 54 } : Room) D a cI cZ [.ref (a 0), .int am, .int mo] f u (fun r f2 u2 => (r = an_tank am mo) ∧ KP f f2) := by
  refine KX.of (by decide) (Nat.le_of_ble_eq_true rfl) ?_
  intro p e s m below meth c cx hw hr hk ls hl
  have cx : Cx p s m _ c cX7_tank RX7 3 D cI cZ := cx
  have hl : lv_has ls 3 [(0, .ref (a 0)), (1, .int am), (2, .int mo)] := hl
  have hx := cx.1.1
  have hb := cx.1.2.1
  refine lv_iload_n hx hb dX7_tank_0 rfl (lv_at hl 1 rfl) ?_
  refine goI hw (runSW (As := [.int am]) (rest := []) cx hw (c_X7_isArm l D a cI cZ f u am ) lk_X7_79 ⟨Nat.le_of_ble_eq_true rfl, Nat.le_of_ble_eq_true rfl⟩ ⟨rfl, rfl⟩ ⟨Nat.zero_le _, Nat.zero_le _⟩ rfl rfl hl.1 (Nat.le_of_ble_eq_true rfl) dX7_tank_1) (fun r_1 f2 u2 H locs hp hw => ?_)
  obtain ⟨rfl, rfl, e_1⟩ := hp
  refine topc e_1 ?_
  refine lv_if_eq (tgt := 14) hx hb dX7_tank_4 (by decide) (fun c_2 => ?_) (fun c_2 => ?_)
  · refine lv_bipush (v := (-2)) hx hb dX7_tank_14 (by decide) ?_
    exact retI cx hw hr hk dX7_tank_16 ⟨(by simp [an_tank, c_2]), KP.rf⟩
  · refine lv_iload_n hx hb dX7_tank_7 rfl (lv_at hl 2 rfl) ?_
    refine goI hw (runSW (As := [.int mo]) (rest := []) cx hw (c_X7_isBorne l D a cI cZ f u mo ) lk_X7_83 ⟨Nat.le_of_ble_eq_true rfl, Nat.le_of_ble_eq_true rfl⟩ ⟨rfl, rfl⟩ ⟨Nat.zero_le _, Nat.zero_le _⟩ rfl rfl hl.1 (Nat.le_of_ble_eq_true rfl) dX7_tank_8) (fun r_3 f2 u2 H locs hp hw => ?_)
    obtain ⟨rfl, rfl, e_3⟩ := hp
    refine topc e_3 ?_
    refine lv_if_ne (tgt := 17) hx hb dX7_tank_11 (by decide) (fun c_4 => ?_) (fun c_4 => ?_)
    · refine lv_aload_n hx hb dX7_tank_17 rfl (lv_at hl 0 rfl) ?_
      refine gf_X7_35 cx hw dX7_tank_18 ?_
      refine lv_iload_n hx hb dX7_tank_21 rfl (lv_at hl 1 rfl) ?_
      refine lv_iload_n hx hb dX7_tank_22 rfl (lv_at hl 2 rfl) ?_
      refine goI hw (runVW (k := 3) (As := [.int am, .int mo]) (rest := []) cx hw (c_X6_addTank l D a cI cZ f u am mo h3_3) lk_X7_116 rfl rfl ⟨Nat.le_of_ble_eq_true rfl, Nat.le_of_ble_eq_true rfl⟩ ⟨rfl, rfl⟩ ⟨Nat.zero_le _, Nat.zero_le _⟩ rfl rfl hl.1 (Nat.le_of_ble_eq_true rfl) dX7_tank_23) (fun r_5 f_5 u_5 H locs hp_5 hw => ?_)
      refine topc (y := 0) hp_5.1 ?_
      exact retI cx hw hr hk dX7_tank_26 ⟨(by simp [an_tank, c_2, c_4]), (KP.tr KP.rf hp_5.2)⟩
    · refine lv_bipush (v := (-2)) hx hb dX7_tank_14 (by decide) ?_
      exact retI cx hw hr hk dX7_tank_16 ⟨(by simp [an_tank, c_2, c_4]), KP.rf⟩

set_option maxHeartbeats 4000000 in
set_option maxRecDepth 100000 in
theorem c_X7_person (l : Launch) (D : va_G) (a : Nat → Nat) (cI cZ : ClassId) (f : FF) (u : UU) (w : Int32) (h2_4 : f 2 4 = 80)  : KI l yX7_person cX7_person 3 (some .int) ({ frames := 2, cells := 0, slots := 0, locals := 34 } : Room) D a cI cZ [.ref (a 0), .int w] f u (fun r f2 u2 => (r = an_person w) ∧ KP f f2) := by
  refine KX.of (by decide) (Nat.le_of_ble_eq_true rfl) ?_
  intro p e s m below meth c cx hw hr hk ls hl
  have cx : Cx p s m _ c cX7_person RX7 3 D cI cZ := cx
  have hl : lv_has ls 3 [(0, .ref (a 0)), (1, .int w)] := hl
  have hx := cx.1.1
  have hb := cx.1.2.1
  refine lv_iload_n hx hb dX7_person_0 rfl (lv_at hl 1 rfl) ?_
  refine lv_bipush (v := 50) hx hb dX7_person_1 (by decide) ?_
  refine lv_sipush (v := 150) hx hb dX7_person_3 (by decide) ?_
  refine goI hw (runSW (As := [.int w, .int 50, .int 150]) (rest := []) cx hw (c_X7_isFromTo l D a cI cZ f u w 50 150 ) lk_X7_75 ⟨Nat.le_of_ble_eq_true rfl, Nat.le_of_ble_eq_true rfl⟩ ⟨rfl, rfl⟩ ⟨Nat.zero_le _, Nat.zero_le _⟩ rfl rfl hl.1 (Nat.le_of_ble_eq_true rfl) dX7_person_6) (fun r_1 f2 u2 H locs hp hw => ?_)
  obtain ⟨rfl, rfl, e_1⟩ := hp
  refine topc e_1 ?_
  refine lv_if_ne (tgt := 15) hx hb dX7_person_9 (by decide) (fun c_2 => ?_) (fun c_2 => ?_)
  · refine lv_aload_n hx hb dX7_person_15 rfl (lv_at hl 0 rfl) ?_
    refine gf_X7_28 cx hw dX7_person_16 ?_
    refine gf_X7_119 cx hw dX7_person_19 ?_
    refine topc (y := 80) h2_4 ?_
    refine lv_istore_n (lv' := [(2, .int 80), (0, .ref (a 0)), (1, .int w)]) hx hb dX7_person_22 rfl hl (by decide) rfl (fun ls hl => ?_)
    refine lv_aload_n hx hb dX7_person_23 rfl (lv_at hl 1 rfl) ?_
    refine gf_X7_28 cx hw dX7_person_24 ?_
    refine lv_iload_n hx hb dX7_person_27 rfl (lv_at hl 2 rfl) ?_
    refine pf_X7_119 cx hw dX7_person_28 (fun H locs hw => ?_)
    refine lv_iload_n hx hb dX7_person_31 rfl (lv_at hl 0 rfl) ?_
    exact retI cx hw hr hk dX7_person_32 ⟨(by simp [an_person, c_2]), (KP.up (by decide) KP.rf)⟩
  · refine lv_bipush (v := (-2)) hx hb dX7_person_12 (by decide) ?_
    exact retI cx hw hr hk dX7_person_14 ⟨(by simp [an_person, c_2]), KP.rf⟩

set_option maxHeartbeats 4000000 in
set_option maxRecDepth 100000 in
theorem c_X7_seat (l : Launch) (D : va_G) (a : Nat → Nat) (cI cZ : ClassId) (f : FF) (u : UU) (ro : Int32) (n : Int32) (h2_3 : f 2 3 = 0)  : KI l yX7_seat cX7_seat 4 (some .int) ({ frames := 2, cells := 0, slots := 0, locals := 34 } : Room) D a cI cZ [.ref (a 0), .int ro, .int n] f u (fun r f2 u2 => (r = (-1)) ∧ KP f f2) := by
  refine KX.of (by decide) (Nat.le_of_ble_eq_true rfl) ?_
  intro p e s m below meth c cx hw hr hk ls hl
  have cx : Cx p s m _ c cX7_seat RX7 4 D cI cZ := cx
  have hl : lv_has ls 4 [(0, .ref (a 0)), (1, .int ro), (2, .int n)] := hl
  have hx := cx.1.1
  have hb := cx.1.2.1
  refine lv_iload_n hx hb dX7_seat_0 rfl (lv_at hl 1 rfl) ?_
  refine lv_iconst (v := 0) hx hb dX7_seat_1 (by decide) ?_
  refine lv_aload_n hx hb dX7_seat_2 rfl (lv_at hl 0 rfl) ?_
  refine gf_X7_28 cx hw dX7_seat_3 ?_
  refine gf_X7_122 cx hw dX7_seat_6 ?_
  refine topc (y := 0) h2_3 ?_
  refine lv_iconst (v := 1) hx hb dX7_seat_9 (by decide) ?_
  refine lv_isub hx hb dX7_seat_10 ?_
  refine topc (y := (-1)) (by decide) ?_
  refine goI hw (runSW (As := [.int ro, .int 0, .int (-1)]) (rest := []) cx hw (c_X7_isFromTo l D a cI cZ f u ro 0 (-1) ) lk_X7_75 ⟨Nat.le_of_ble_eq_true rfl, Nat.le_of_ble_eq_true rfl⟩ ⟨rfl, rfl⟩ ⟨Nat.zero_le _, Nat.zero_le _⟩ rfl rfl hl.1 (Nat.le_of_ble_eq_true rfl) dX7_seat_11) (fun r_1 f2 u2 H locs hp hw => ?_)
  obtain ⟨rfl, rfl, e_1⟩ := hp
  refine topc e_1 ?_
  refine topc (y := 0) (rg_m1 ro) ?_
  refine lv_if_ne (tgt := 19) hx hb dX7_seat_14 (by decide) (fun q => absurd (by decide) q) (fun _ => ?_)
  refine lv_iconst (v := (-1)) hx hb dX7_seat_17 (by decide) ?_
  exact retI cx hw hr hk dX7_seat_18 ⟨(by simp []), KP.rf⟩

set_option maxHeartbeats 4000000 in
set_option maxRecDepth 100000 in
theorem c_X7_fuel (l : Launch) (D : va_G) (a : Nat → Nat) (cI cZ : ClassId) (f : FF) (u : UU) (t : Int32) (am : Int32) (h3_3 : f 3 3 = 0)  : KI l yX7_fuel cX7_fuel 4 (some .int) ({ frames := 2, cells := 0, slots := 0, locals := 34 } : Room) D a cI cZ [.ref (a 0), .int t, .int am] f u (fun r f2 u2 => (r = (-1)) ∧ KP f f2) := by
  refine KX.of (by decide) (Nat.le_of_ble_eq_true rfl) ?_
  intro p e s m below meth c cx hw hr hk ls hl
  have cx : Cx p s m _ c cX7_fuel RX7 4 D cI cZ := cx
  have hl : lv_has ls 4 [(0, .ref (a 0)), (1, .int t), (2, .int am)] := hl
  have hx := cx.1.1
  have hb := cx.1.2.1
  refine lv_iload_n hx hb dX7_fuel_0 rfl (lv_at hl 1 rfl) ?_
  refine lv_iconst (v := 0) hx hb dX7_fuel_1 (by decide) ?_
  refine lv_aload_n hx hb dX7_fuel_2 rfl (lv_at hl 0 rfl) ?_
  refine gf_X7_35 cx hw dX7_fuel_3 ?_
  refine gf_X7_132 cx hw dX7_fuel_6 ?_
  refine topc (y := 0) h3_3 ?_
  refine lv_iconst (v := 1) hx hb dX7_fuel_9 (by decide) ?_
  refine lv_isub hx hb dX7_fuel_10 ?_
  refine topc (y := (-1)) (by decide) ?_
  refine goI hw (runSW (As := [.int t, .int 0, .int (-1)]) (rest := []) cx hw (c_X7_isFromTo l D a cI cZ f u t 0 (-1) ) lk_X7_75 ⟨Nat.le_of_ble_eq_true rfl, Nat.le_of_ble_eq_true rfl⟩ ⟨rfl, rfl⟩ ⟨Nat.zero_le _, Nat.zero_le _⟩ rfl rfl hl.1 (Nat.le_of_ble_eq_true rfl) dX7_fuel_11) (fun r_1 f2 u2 H locs hp hw => ?_)
  obtain ⟨rfl, rfl, e_1⟩ := hp
  refine topc e_1 ?_
  refine topc (y := 0) (rg_m1 t) ?_
  refine lv_if_ne (tgt := 19) hx hb dX7_fuel_14 (by decide) (fun q => absurd (by decide) q) (fun _ => ?_)
  refine lv_iconst (v := (-1)) hx hb dX7_fuel_17 (by decide) ?_
  exact retI cx hw hr hk dX7_fuel_18 ⟨(by simp []), KP.rf⟩

set_option maxHeartbeats 4000000 in
set_option maxRecDepth 100000 in
theorem c_X7_point (l : Launch) (D : va_G) (a : Nat → Nat) (cI cZ : ClassId) (f : FF) (u : UU) (ph : Int32) (w : Int32) (lo : Int32) (hi : Int32) (h4_3 : f 4 3 = 0) (h5_3 : f 5 3 = 0)  : KI l yX7_point cX7_point 6 (some .int) ({ frames := 3, cells := 0, slots := 0, locals := 54 } : Room) D a cI cZ [.ref (a 0), .int ph, .int w, .int lo, .int hi] f u (fun r f2 u2 => (r = an_point ph w lo hi) ∧ KP f f2) := by
  refine KX.of (by decide) (Nat.le_of_ble_eq_true rfl) ?_
  intro p e s m below meth c cx hw hr hk ls hl
  have cx : Cx p s m _ c cX7_point RX7 6 D cI cZ := cx
  have hl : lv_has ls 6 [(0, .ref (a 0)), (1, .int ph), (2, .int w), (3, .int lo), (4, .int hi)] := hl
  have hx := cx.1.1
  have hb := cx.1.2.1
  refine lv_iload_n hx hb dX7_point_0 rfl (lv_at hl 1 rfl) ?_
  refine goI hw (runSW (As := [.int ph]) (rest := []) cx hw (c_X7_isPhase l D a cI cZ f u ph ) lk_X7_141 ⟨Nat.le_of_ble_eq_true rfl, Nat.le_of_ble_eq_true rfl⟩ ⟨rfl, rfl⟩ ⟨Nat.zero_le _, Nat.zero_le _⟩ rfl rfl hl.1 (Nat.le_of_ble_eq_true rfl) dX7_point_1) (fun r_1 f2 u2 H locs hp hw => ?_)
  obtain ⟨rfl, rfl, e_1⟩ := hp
  refine topc e_1 ?_
  refine lv_if_ne (tgt := 9) hx hb dX7_point_4 (by decide) (fun c_2 => ?_) (fun c_2 => ?_)
  · rcases rg_01 c_2 with e_2 | e_2
    · subst e_2
      refine lv_aload_n hx hb dX7_point_9 rfl (lv_at hl 0 rfl) ?_
      refine lv_iload_n hx hb dX7_point_10 rfl (lv_at hl 1 rfl) ?_
      refine goR hw (runVW (k := 0) (As := [.int 0]) (rest := []) cx hw (c_X7_limitsOf_4 l D a cI cZ f u  ) lk_X7_144 rfl rfl ⟨Nat.le_of_ble_eq_true rfl, Nat.le_of_ble_eq_true rfl⟩ ⟨rfl, rfl⟩ ⟨Nat.zero_le _, Nat.zero_le _⟩ rfl rfl hl.1 (Nat.le_of_ble_eq_true rfl) dX7_point_11) (fun r_3 f2 u2 H locs hp hw => ?_)
      obtain ⟨rfl, rfl, rfl⟩ := hp
      refine lv_astore (lv' := [(5, .ref (a 4)), (0, .ref (a 0)), (1, .int 0), (2, .int w), (3, .int lo), (4, .int hi)]) hx hb dX7_point_14 hl (by decide) rfl (fun ls hl => ?_)
      refine lv_iload_n hx hb dX7_point_16 rfl (lv_at hl 3 rfl) ?_
      refine lv_aload hx hb dX7_point_17 (lv_at hl 0 rfl) ?_
      refine goI hw (runVW (k := 4) (As := []) (rest := [.int w]) cx hw (c_X3_lastWeight_4 l D a cI cZ f u  h4_3) lk_X7_148 rfl rfl ⟨Nat.le_of_ble_eq_true rfl, Nat.le_of_ble_eq_true rfl⟩ ⟨rfl, rfl⟩ ⟨Nat.zero_le _, Nat.zero_le _⟩ rfl rfl hl.1 (Nat.le_of_ble_eq_true rfl) dX7_point_19) (fun r_4 f2 u2 H locs hp hw => ?_)
      obtain ⟨rfl, rfl, e_4⟩ := hp
      refine topc e_4 ?_
      refine lv_iconst (v := 1) hx hb dX7_point_22 (by decide) ?_
      refine lv_iadd hx hb dX7_point_23 ?_
      refine topc (y := 1) (by decide) ?_
      refine lv_ldc (v := 1000000) hx hb cx.1.2.2.2.1 (cx.1.2.2.2.2 _ mm_2_127) dX7_point_24 ?_
      refine goI hw (runSW (As := [.int w, .int 1, .int 1000000]) (rest := []) cx hw (c_X7_isFromTo l D a cI cZ f u w 1 1000000 ) lk_X7_75 ⟨Nat.le_of_ble_eq_true rfl, Nat.le_of_ble_eq_true rfl⟩ ⟨rfl, rfl⟩ ⟨Nat.zero_le _, Nat.zero_le _⟩ rfl rfl hl.1 (Nat.le_of_ble_eq_true rfl) dX7_point_26) (fun r_5 f2 u2 H locs hp hw => ?_)
      obtain ⟨rfl, rfl, e_5⟩ := hp
      refine topc e_5 ?_
      refine lv_if_ne (tgt := 35) hx hb dX7_point_29 (by decide) (fun c_6 => ?_) (fun c_6 => ?_)
      · refine lv_iload_n hx hb dX7_point_35 rfl (lv_at hl 4 rfl) ?_
        refine goI hw (runSW (As := [.int lo]) (rest := []) cx hw (c_X7_isArm l D a cI cZ f u lo ) lk_X7_79 ⟨Nat.le_of_ble_eq_true rfl, Nat.le_of_ble_eq_true rfl⟩ ⟨rfl, rfl⟩ ⟨Nat.zero_le _, Nat.zero_le _⟩ rfl rfl hl.1 (Nat.le_of_ble_eq_true rfl) dX7_point_36) (fun r_7 f2 u2 H locs hp hw => ?_)
        obtain ⟨rfl, rfl, e_7⟩ := hp
        refine topc e_7 ?_
        refine lv_if_eq (tgt := 56) hx hb dX7_point_39 (by decide) (fun c_8 => ?_) (fun c_8 => ?_)
        · refine lv_bipush (v := (-2)) hx hb dX7_point_56 (by decide) ?_
          exact retI cx hw hr hk dX7_point_58 ⟨(by simp [an_point, c_2, c_6, c_8]), KP.rf⟩
        · refine lv_iload hx hb dX7_point_42 (lv_at hl 5 rfl) ?_
          refine goI hw (runSW (As := [.int hi]) (rest := []) cx hw (c_X7_isArm l D a cI cZ f u hi ) lk_X7_79 ⟨Nat.le_of_ble_eq_true rfl, Nat.le_of_ble_eq_true rfl⟩ ⟨rfl, rfl⟩ ⟨Nat.zero_le _, Nat.zero_le _⟩ rfl rfl hl.1 (Nat.le_of_ble_eq_true rfl) dX7_point_44) (fun r_9 f2 u2 H locs hp hw => ?_)
          obtain ⟨rfl, rfl, e_9⟩ := hp
          refine topc e_9 ?_
          refine lv_if_eq (tgt := 56) hx hb dX7_point_47 (by decide) (fun c_10 => ?_) (fun c_10 => ?_)
          · refine lv_bipush (v := (-2)) hx hb dX7_point_56 (by decide) ?_
            exact retI cx hw hr hk dX7_point_58 ⟨(by simp [an_point, c_2, c_6, c_8, c_10]), KP.rf⟩
          · refine lv_iload_n hx hb dX7_point_50 rfl (lv_at hl 4 rfl) ?_
            refine lv_iload hx hb dX7_point_51 (lv_at hl 5 rfl) ?_
            refine lv_icmp_le (tgt := 59) hx hb dX7_point_53 (by decide) (fun c_11 => ?_) (fun c_11 => ?_)
            · refine lv_aload hx hb dX7_point_59 (lv_at hl 0 rfl) ?_
              refine lv_iload_n hx hb dX7_point_61 rfl (lv_at hl 3 rfl) ?_
              refine lv_iload_n hx hb dX7_point_62 rfl (lv_at hl 4 rfl) ?_
              refine lv_iload hx hb dX7_point_63 (lv_at hl 5 rfl) ?_
              refine goI hw (runVW (k := 4) (As := [.int w, .int lo, .int hi]) (rest := []) cx hw (c_X3_addPoint_4 l D a cI cZ f u w lo hi h4_3) lk_X7_153 rfl rfl ⟨Nat.le_of_ble_eq_true rfl, Nat.le_of_ble_eq_true rfl⟩ ⟨rfl, rfl⟩ ⟨Nat.zero_le _, Nat.zero_le _⟩ rfl rfl hl.1 (Nat.le_of_ble_eq_true rfl) dX7_point_65) (fun r_12 f_12 u_12 H locs hp_12 hw => ?_)
              refine topc (y := 1) hp_12.1 ?_
              exact retI cx hw hr hk dX7_point_68 ⟨(by simp [an_point, c_2, c_6, c_8, c_10, c_11]), (KP.tr KP.rf hp_12.2)⟩
            · refine lv_bipush (v := (-2)) hx hb dX7_point_56 (by decide) ?_
              exact retI cx hw hr hk dX7_point_58 ⟨(by simp [an_point, c_2, c_6, c_8, c_10, c_11]), KP.rf⟩
      · refine lv_bipush (v := (-2)) hx hb dX7_point_32 (by decide) ?_
        exact retI cx hw hr hk dX7_point_34 ⟨(by simp [an_point, c_2, c_6]), KP.rf⟩
    · subst e_2
      refine lv_aload_n hx hb dX7_point_9 rfl (lv_at hl 0 rfl) ?_
      refine lv_iload_n hx hb dX7_point_10 rfl (lv_at hl 1 rfl) ?_
      refine goR hw (runVW (k := 0) (As := [.int 1]) (rest := []) cx hw (c_X7_limitsOf_5 l D a cI cZ f u  ) lk_X7_144 rfl rfl ⟨Nat.le_of_ble_eq_true rfl, Nat.le_of_ble_eq_true rfl⟩ ⟨rfl, rfl⟩ ⟨Nat.zero_le _, Nat.zero_le _⟩ rfl rfl hl.1 (Nat.le_of_ble_eq_true rfl) dX7_point_11) (fun r_13 f2 u2 H locs hp hw => ?_)
      obtain ⟨rfl, rfl, rfl⟩ := hp
      refine lv_astore (lv' := [(5, .ref (a 5)), (0, .ref (a 0)), (1, .int 1), (2, .int w), (3, .int lo), (4, .int hi)]) hx hb dX7_point_14 hl (by decide) rfl (fun ls hl => ?_)
      refine lv_iload_n hx hb dX7_point_16 rfl (lv_at hl 3 rfl) ?_
      refine lv_aload hx hb dX7_point_17 (lv_at hl 0 rfl) ?_
      refine goI hw (runVW (k := 5) (As := []) (rest := [.int w]) cx hw (c_X3_lastWeight_5 l D a cI cZ f u  h5_3) lk_X7_148 rfl rfl ⟨Nat.le_of_ble_eq_true rfl, Nat.le_of_ble_eq_true rfl⟩ ⟨rfl, rfl⟩ ⟨Nat.zero_le _, Nat.zero_le _⟩ rfl rfl hl.1 (Nat.le_of_ble_eq_true rfl) dX7_point_19) (fun r_14 f2 u2 H locs hp hw => ?_)
      obtain ⟨rfl, rfl, e_14⟩ := hp
      refine topc e_14 ?_
      refine lv_iconst (v := 1) hx hb dX7_point_22 (by decide) ?_
      refine lv_iadd hx hb dX7_point_23 ?_
      refine topc (y := 1) (by decide) ?_
      refine lv_ldc (v := 1000000) hx hb cx.1.2.2.2.1 (cx.1.2.2.2.2 _ mm_2_127) dX7_point_24 ?_
      refine goI hw (runSW (As := [.int w, .int 1, .int 1000000]) (rest := []) cx hw (c_X7_isFromTo l D a cI cZ f u w 1 1000000 ) lk_X7_75 ⟨Nat.le_of_ble_eq_true rfl, Nat.le_of_ble_eq_true rfl⟩ ⟨rfl, rfl⟩ ⟨Nat.zero_le _, Nat.zero_le _⟩ rfl rfl hl.1 (Nat.le_of_ble_eq_true rfl) dX7_point_26) (fun r_15 f2 u2 H locs hp hw => ?_)
      obtain ⟨rfl, rfl, e_15⟩ := hp
      refine topc e_15 ?_
      refine lv_if_ne (tgt := 35) hx hb dX7_point_29 (by decide) (fun c_16 => ?_) (fun c_16 => ?_)
      · refine lv_iload_n hx hb dX7_point_35 rfl (lv_at hl 4 rfl) ?_
        refine goI hw (runSW (As := [.int lo]) (rest := []) cx hw (c_X7_isArm l D a cI cZ f u lo ) lk_X7_79 ⟨Nat.le_of_ble_eq_true rfl, Nat.le_of_ble_eq_true rfl⟩ ⟨rfl, rfl⟩ ⟨Nat.zero_le _, Nat.zero_le _⟩ rfl rfl hl.1 (Nat.le_of_ble_eq_true rfl) dX7_point_36) (fun r_17 f2 u2 H locs hp hw => ?_)
        obtain ⟨rfl, rfl, e_17⟩ := hp
        refine topc e_17 ?_
        refine lv_if_eq (tgt := 56) hx hb dX7_point_39 (by decide) (fun c_18 => ?_) (fun c_18 => ?_)
        · refine lv_bipush (v := (-2)) hx hb dX7_point_56 (by decide) ?_
          exact retI cx hw hr hk dX7_point_58 ⟨(by simp [an_point, c_2, c_16, c_18]), KP.rf⟩
        · refine lv_iload hx hb dX7_point_42 (lv_at hl 5 rfl) ?_
          refine goI hw (runSW (As := [.int hi]) (rest := []) cx hw (c_X7_isArm l D a cI cZ f u hi ) lk_X7_79 ⟨Nat.le_of_ble_eq_true rfl, Nat.le_of_ble_eq_true rfl⟩ ⟨rfl, rfl⟩ ⟨Nat.zero_le _, Nat.zero_le _⟩ rfl rfl hl.1 (Nat.le_of_ble_eq_true rfl) dX7_point_44) (fun r_19 f2 u2 H locs hp hw => ?_)
          obtain ⟨rfl, rfl, e_19⟩ := hp
          refine topc e_19 ?_
          refine lv_if_eq (tgt := 56) hx hb dX7_point_47 (by decide) (fun c_20 => ?_) (fun c_20 => ?_)
          · refine lv_bipush (v := (-2)) hx hb dX7_point_56 (by decide) ?_
            exact retI cx hw hr hk dX7_point_58 ⟨(by simp [an_point, c_2, c_16, c_18, c_20]), KP.rf⟩
          · refine lv_iload_n hx hb dX7_point_50 rfl (lv_at hl 4 rfl) ?_
            refine lv_iload hx hb dX7_point_51 (lv_at hl 5 rfl) ?_
            refine lv_icmp_le (tgt := 59) hx hb dX7_point_53 (by decide) (fun c_21 => ?_) (fun c_21 => ?_)
            · refine lv_aload hx hb dX7_point_59 (lv_at hl 0 rfl) ?_
              refine lv_iload_n hx hb dX7_point_61 rfl (lv_at hl 3 rfl) ?_
              refine lv_iload_n hx hb dX7_point_62 rfl (lv_at hl 4 rfl) ?_
              refine lv_iload hx hb dX7_point_63 (lv_at hl 5 rfl) ?_
              refine goI hw (runVW (k := 5) (As := [.int w, .int lo, .int hi]) (rest := []) cx hw (c_X3_addPoint_5 l D a cI cZ f u w lo hi h5_3) lk_X7_153 rfl rfl ⟨Nat.le_of_ble_eq_true rfl, Nat.le_of_ble_eq_true rfl⟩ ⟨rfl, rfl⟩ ⟨Nat.zero_le _, Nat.zero_le _⟩ rfl rfl hl.1 (Nat.le_of_ble_eq_true rfl) dX7_point_65) (fun r_22 f_22 u_22 H locs hp_22 hw => ?_)
              refine topc (y := 1) hp_22.1 ?_
              exact retI cx hw hr hk dX7_point_68 ⟨(by simp [an_point, c_2, c_16, c_18, c_20, c_21]), (KP.tr KP.rf hp_22.2)⟩
            · refine lv_bipush (v := (-2)) hx hb dX7_point_56 (by decide) ?_
              exact retI cx hw hr hk dX7_point_58 ⟨(by simp [an_point, c_2, c_16, c_18, c_20, c_21]), KP.rf⟩
      · refine lv_bipush (v := (-2)) hx hb dX7_point_32 (by decide) ?_
        exact retI cx hw hr hk dX7_point_34 ⟨(by simp [an_point, c_2, c_16]), KP.rf⟩
  · refine lv_iconst (v := (-1)) hx hb dX7_point_7 (by decide) ?_
    exact retI cx hw hr hk dX7_point_8 ⟨(by simp [an_point, c_2]), KP.rf⟩

set_option maxHeartbeats 4000000 in
set_option maxRecDepth 100000 in
theorem c_X7_wipe (l : Launch) (D : va_G) (a : Nat → Nat) (cI cZ : ClassId) (f : FF) (u : UU) (ph : Int32) (h4_3 : f 4 3 = 0) (h5_3 : f 5 3 = 0)  : KI l yX7_wipe cX7_wipe 4 (some .int) ({ frames := 2, cells := 0, slots := 0, locals := 33 } : Room) D a cI cZ [.ref (a 0), .int ph] f u (fun r f2 u2 => (r = an_wipe ph) ∧ KP f f2) := by
  refine KX.of (by decide) (Nat.le_of_ble_eq_true rfl) ?_
  intro p e s m below meth c cx hw hr hk ls hl
  have cx : Cx p s m _ c cX7_wipe RX7 4 D cI cZ := cx
  have hl : lv_has ls 4 [(0, .ref (a 0)), (1, .int ph)] := hl
  have hx := cx.1.1
  have hb := cx.1.2.1
  refine lv_iload_n hx hb dX7_wipe_0 rfl (lv_at hl 1 rfl) ?_
  refine goI hw (runSW (As := [.int ph]) (rest := []) cx hw (c_X7_isPhase l D a cI cZ f u ph ) lk_X7_141 ⟨Nat.le_of_ble_eq_true rfl, Nat.le_of_ble_eq_true rfl⟩ ⟨rfl, rfl⟩ ⟨Nat.zero_le _, Nat.zero_le _⟩ rfl rfl hl.1 (Nat.le_of_ble_eq_true rfl) dX7_wipe_1) (fun r_1 f2 u2 H locs hp hw => ?_)
  obtain ⟨rfl, rfl, e_1⟩ := hp
  refine topc e_1 ?_
  refine lv_if_ne (tgt := 9) hx hb dX7_wipe_4 (by decide) (fun c_2 => ?_) (fun c_2 => ?_)
  · rcases rg_01 c_2 with e_2 | e_2
    · subst e_2
      refine lv_aload_n hx hb dX7_wipe_9 rfl (lv_at hl 0 rfl) ?_
      refine lv_iload_n hx hb dX7_wipe_10 rfl (lv_at hl 1 rfl) ?_
      refine goR hw (runVW (k := 0) (As := [.int 0]) (rest := []) cx hw (c_X7_limitsOf_4 l D a cI cZ f u  ) lk_X7_144 rfl rfl ⟨Nat.le_of_ble_eq_true rfl, Nat.le_of_ble_eq_true rfl⟩ ⟨rfl, rfl⟩ ⟨Nat.zero_le _, Nat.zero_le _⟩ rfl rfl hl.1 (Nat.le_of_ble_eq_true rfl) dX7_wipe_11) (fun r_3 f2 u2 H locs hp hw => ?_)
      obtain ⟨rfl, rfl, rfl⟩ := hp
      refine lv_astore_n (lv' := [(2, .ref (a 4)), (0, .ref (a 0)), (1, .int 0)]) hx hb dX7_wipe_14 rfl hl (by decide) rfl (fun ls hl => ?_)
      refine lv_aload_n hx hb dX7_wipe_15 rfl (lv_at hl 0 rfl) ?_
      refine gf_X7_156_4 cx hw dX7_wipe_16 ?_
      refine topc (y := 0) h4_3 ?_
      refine lv_istore_n (lv' := [(3, .int 0), (2, .ref (a 4)), (0, .ref (a 0)), (1, .int 0)]) hx hb dX7_wipe_19 rfl hl (by decide) rfl (fun ls hl => ?_)
      refine lv_aload_n hx hb dX7_wipe_20 rfl (lv_at hl 1 rfl) ?_
      refine lv_iconst (v := 0) hx hb dX7_wipe_21 (by decide) ?_
      refine pf_X7_156_4 cx hw dX7_wipe_22 (fun H locs hw => ?_)
      refine lv_iload_n hx hb dX7_wipe_25 rfl (lv_at hl 0 rfl) ?_
      exact retI cx hw hr hk dX7_wipe_26 ⟨(by simp [an_wipe, c_2]), (KP.up (by decide) KP.rf)⟩
    · subst e_2
      refine lv_aload_n hx hb dX7_wipe_9 rfl (lv_at hl 0 rfl) ?_
      refine lv_iload_n hx hb dX7_wipe_10 rfl (lv_at hl 1 rfl) ?_
      refine goR hw (runVW (k := 0) (As := [.int 1]) (rest := []) cx hw (c_X7_limitsOf_5 l D a cI cZ f u  ) lk_X7_144 rfl rfl ⟨Nat.le_of_ble_eq_true rfl, Nat.le_of_ble_eq_true rfl⟩ ⟨rfl, rfl⟩ ⟨Nat.zero_le _, Nat.zero_le _⟩ rfl rfl hl.1 (Nat.le_of_ble_eq_true rfl) dX7_wipe_11) (fun r_4 f2 u2 H locs hp hw => ?_)
      obtain ⟨rfl, rfl, rfl⟩ := hp
      refine lv_astore_n (lv' := [(2, .ref (a 5)), (0, .ref (a 0)), (1, .int 1)]) hx hb dX7_wipe_14 rfl hl (by decide) rfl (fun ls hl => ?_)
      refine lv_aload_n hx hb dX7_wipe_15 rfl (lv_at hl 0 rfl) ?_
      refine gf_X7_156_5 cx hw dX7_wipe_16 ?_
      refine topc (y := 0) h5_3 ?_
      refine lv_istore_n (lv' := [(3, .int 0), (2, .ref (a 5)), (0, .ref (a 0)), (1, .int 1)]) hx hb dX7_wipe_19 rfl hl (by decide) rfl (fun ls hl => ?_)
      refine lv_aload_n hx hb dX7_wipe_20 rfl (lv_at hl 1 rfl) ?_
      refine lv_iconst (v := 0) hx hb dX7_wipe_21 (by decide) ?_
      refine pf_X7_156_5 cx hw dX7_wipe_22 (fun H locs hw => ?_)
      refine lv_iload_n hx hb dX7_wipe_25 rfl (lv_at hl 0 rfl) ?_
      exact retI cx hw hr hk dX7_wipe_26 ⟨(by simp [an_wipe, c_2]), (KP.up (by decide) KP.rf)⟩
  · refine lv_iconst (v := (-1)) hx hb dX7_wipe_7 (by decide) ?_
    exact retI cx hw hr hk dX7_wipe_8 ⟨(by simp [an_wipe, c_2]), KP.rf⟩

set_option maxHeartbeats 4000000 in
set_option maxRecDepth 100000 in
theorem c_X7_fits (l : Launch) (D : va_G) (a : Nat → Nat) (cI cZ : ClassId) (f : FF) (u : UU) (i : Int32) (h : Int32) (k : Int32) (h1_12 : f 1 12 = 0)  : KI l yX7_fits cX7_fits 4 (some .int) ({ frames := 2, cells := 0, slots := 0, locals := 33 } : Room) D a cI cZ [.ref (a 0), .int i, .int h, .int k] f u (fun r f2 _ => r = (-1) ∧ KP f f2) := by
  refine KX.of (by decide) (Nat.le_of_ble_eq_true rfl) ?_
  intro p e s m below meth c cx hw hr hk ls hl
  have cx : Cx p s m _ c cX7_fits RX7 4 D cI cZ := cx
  have hl : lv_has ls 4 [(0, .ref (a 0)), (1, .int i), (2, .int h), (3, .int k)] := hl
  have hx := cx.1.1
  have hb := cx.1.2.1
  refine lv_aload_n hx hb dX7_fits_0 rfl (lv_at hl 0 rfl) ?_
  refine gf_X7_21 cx hw dX7_fits_1 ?_
  refine lv_iload_n hx hb dX7_fits_4 rfl (lv_at hl 1 rfl) ?_
  refine goI hw (runVW (k := 1) (As := [.int i]) (rest := []) cx hw (c_X1_hasItem l D a cI cZ f u i h1_12) lk_X7_159 rfl rfl ⟨Nat.le_of_ble_eq_true rfl, Nat.le_of_ble_eq_true rfl⟩ ⟨rfl, rfl⟩ ⟨Nat.zero_le _, Nat.zero_le _⟩ rfl rfl hl.1 (Nat.le_of_ble_eq_true rfl) dX7_fits_5) (fun r_1 f2 u2 H locs hp hw => ?_)
  obtain ⟨rfl, rfl, e_1⟩ := hp
  refine topc e_1 ?_
  refine lv_if_eq (tgt := 23) hx hb dX7_fits_8 (by decide) (fun _ => ?_) (fun q => absurd (by decide) q)
  refine lv_iconst (v := (-1)) hx hb dX7_fits_23 (by decide) ?_
  exact retI cx hw hr hk dX7_fits_24 ⟨rfl, KP.rf⟩

set_option maxHeartbeats 4000000 in
set_option maxRecDepth 100000 in
theorem c_X7_load (l : Launch) (D : va_G) (a : Nat → Nat) (cI cZ : ClassId) (f : FF) (u : UU) (i : Int32) (h : Int32) (k : Int32) (h1_12 : f 1 12 = 0)  : KI l yX7_load cX7_load 5 (some .int) ({ frames := 3, cells := 0, slots := 0, locals := 56 } : Room) D a cI cZ [.ref (a 0), .int i, .int h, .int k] f u (fun r f2 u2 => (r = (-1)) ∧ KP f f2) := by
  refine KX.of (by decide) (Nat.le_of_ble_eq_true rfl) ?_
  intro p e s m below meth c cx hw hr hk ls hl
  have cx : Cx p s m _ c cX7_load RX7 5 D cI cZ := cx
  have hl : lv_has ls 5 [(0, .ref (a 0)), (1, .int i), (2, .int h), (3, .int k)] := hl
  have hx := cx.1.1
  have hb := cx.1.2.1
  refine lv_aload_n hx hb dX7_load_0 rfl (lv_at hl 0 rfl) ?_
  refine lv_iload_n hx hb dX7_load_1 rfl (lv_at hl 1 rfl) ?_
  refine lv_iload_n hx hb dX7_load_2 rfl (lv_at hl 2 rfl) ?_
  refine lv_iload_n hx hb dX7_load_3 rfl (lv_at hl 3 rfl) ?_
  refine goI hw (runVW (k := 0) (As := [.int i, .int h, .int k]) (rest := []) cx hw (c_X7_fits l D a cI cZ f u i h k h1_12) lk_X7_175 rfl rfl ⟨Nat.le_of_ble_eq_true rfl, Nat.le_of_ble_eq_true rfl⟩ ⟨rfl, rfl⟩ ⟨Nat.zero_le _, Nat.zero_le _⟩ rfl rfl hl.1 (Nat.le_of_ble_eq_true rfl) dX7_load_4) (fun r_1 f_1 u_1 H locs hp_1 hw => ?_)
  refine topc (y := (-1)) hp_1.1 ?_
  refine lv_istore (lv' := [(4, .int (-1)), (0, .ref (a 0)), (1, .int i), (2, .int h), (3, .int k)]) hx hb dX7_load_7 hl (by decide) rfl (fun ls hl => ?_)
  refine lv_iload hx hb dX7_load_9 (lv_at hl 0 rfl) ?_
  refine lv_if_ne (tgt := 27) hx hb dX7_load_11 (by decide) (fun _ => ?_) (fun q => absurd q (by decide))
  refine lv_iload hx hb dX7_load_27 (lv_at hl 0 rfl) ?_
  exact retI cx hw hr hk dX7_load_29 ⟨(by simp []), (KP.tr KP.rf hp_1.2)⟩

set_option maxHeartbeats 4000000 in
set_option maxRecDepth 100000 in
theorem c_X7_unload (l : Launch) (D : va_G) (a : Nat → Nat) (cI cZ : ClassId) (f : FF) (u : UU) (i : Int32) (h1_12 : f 1 12 = 0)  : KI l yX7_unload cX7_unload 2 (some .int) ({ frames := 2, cells := 0, slots := 0, locals := 33 } : Room) D a cI cZ [.ref (a 0), .int i] f u (fun r f2 u2 => (r = (-1)) ∧ KP f f2) := by
  refine KX.of (by decide) (Nat.le_of_ble_eq_true rfl) ?_
  intro p e s m below meth c cx hw hr hk ls hl
  have cx : Cx p s m _ c cX7_unload RX7 2 D cI cZ := cx
  have hl : lv_has ls 2 [(0, .ref (a 0)), (1, .int i)] := hl
  have hx := cx.1.1
  have hb := cx.1.2.1
  refine lv_aload_n hx hb dX7_unload_0 rfl (lv_at hl 0 rfl) ?_
  refine gf_X7_21 cx hw dX7_unload_1 ?_
  refine lv_iload_n hx hb dX7_unload_4 rfl (lv_at hl 1 rfl) ?_
  refine goI hw (runVW (k := 1) (As := [.int i]) (rest := []) cx hw (c_X1_hasItem l D a cI cZ f u i h1_12) lk_X7_159 rfl rfl ⟨Nat.le_of_ble_eq_true rfl, Nat.le_of_ble_eq_true rfl⟩ ⟨rfl, rfl⟩ ⟨Nat.zero_le _, Nat.zero_le _⟩ rfl rfl hl.1 (Nat.le_of_ble_eq_true rfl) dX7_unload_5) (fun r_1 f2 u2 H locs hp hw => ?_)
  obtain ⟨rfl, rfl, e_1⟩ := hp
  refine topc e_1 ?_
  refine lv_if_ne (tgt := 13) hx hb dX7_unload_8 (by decide) (fun q => absurd (by decide) q) (fun _ => ?_)
  refine lv_iconst (v := (-1)) hx hb dX7_unload_11 (by decide) ?_
  exact retI cx hw hr hk dX7_unload_12 ⟨(by simp []), KP.rf⟩

set_option maxHeartbeats 4000000 in
set_option maxRecDepth 100000 in
theorem c_X7_where (l : Launch) (D : va_G) (a : Nat → Nat) (cI cZ : ClassId) (f : FF) (u : UU) (i : Int32) (h1_12 : f 1 12 = 0)  : KI l yX7_where cX7_where 2 (some .int) ({ frames := 2, cells := 0, slots := 0, locals := 33 } : Room) D a cI cZ [.ref (a 0), .int i] f u (fun r f2 u2 => (r = (-1)) ∧ KP f f2) := by
  refine KX.of (by decide) (Nat.le_of_ble_eq_true rfl) ?_
  intro p e s m below meth c cx hw hr hk ls hl
  have cx : Cx p s m _ c cX7_where RX7 2 D cI cZ := cx
  have hl : lv_has ls 2 [(0, .ref (a 0)), (1, .int i)] := hl
  have hx := cx.1.1
  have hb := cx.1.2.1
  refine lv_aload_n hx hb dX7_where_0 rfl (lv_at hl 0 rfl) ?_
  refine gf_X7_21 cx hw dX7_where_1 ?_
  refine lv_iload_n hx hb dX7_where_4 rfl (lv_at hl 1 rfl) ?_
  refine goI hw (runVW (k := 1) (As := [.int i]) (rest := []) cx hw (c_X1_hasItem l D a cI cZ f u i h1_12) lk_X7_159 rfl rfl ⟨Nat.le_of_ble_eq_true rfl, Nat.le_of_ble_eq_true rfl⟩ ⟨rfl, rfl⟩ ⟨Nat.zero_le _, Nat.zero_le _⟩ rfl rfl hl.1 (Nat.le_of_ble_eq_true rfl) dX7_where_5) (fun r_1 f2 u2 H locs hp hw => ?_)
  obtain ⟨rfl, rfl, e_1⟩ := hp
  refine topc e_1 ?_
  refine lv_if_eq (tgt := 23) hx hb dX7_where_8 (by decide) (fun _ => ?_) (fun q => absurd (by decide) q)
  refine lv_iconst (v := (-1)) hx hb dX7_where_23 (by decide) ?_
  exact retI cx hw hr hk dX7_where_24 ⟨(by simp []), KP.rf⟩

set_option maxHeartbeats 4000000 in
set_option maxRecDepth 100000 in
theorem c_X7_in (l : Launch) (D : va_G) (a : Nat → Nat) (cI cZ : ClassId) (f : FF) (u : UU) (h : Int32) (k : Int32) (h1_3 : f 1 3 = 0)  : KI l yX7_in cX7_in 3 (some .int) ({ frames := 3, cells := 0, slots := 0, locals := 55 } : Room) D a cI cZ [.ref (a 0), .int h, .int k] f u (fun r f2 u2 => (r = (-1)) ∧ KP f f2) := by
  refine KX.of (by decide) (Nat.le_of_ble_eq_true rfl) ?_
  intro p e s m below meth c cx hw hr hk ls hl
  have cx : Cx p s m _ c cX7_in RX7 3 D cI cZ := cx
  have hl : lv_has ls 3 [(0, .ref (a 0)), (1, .int h), (2, .int k)] := hl
  have hx := cx.1.1
  have hb := cx.1.2.1
  refine lv_aload_n hx hb dX7_in_0 rfl (lv_at hl 0 rfl) ?_
  refine gf_X7_21 cx hw dX7_in_1 ?_
  refine lv_iload_n hx hb dX7_in_4 rfl (lv_at hl 1 rfl) ?_
  refine lv_iload_n hx hb dX7_in_5 rfl (lv_at hl 2 rfl) ?_
  refine goI hw (runVW (k := 1) (As := [.int h, .int k]) (rest := []) cx hw (c_X1_hasSlot l D a cI cZ f u h k h1_3) lk_X7_162 rfl rfl ⟨Nat.le_of_ble_eq_true rfl, Nat.le_of_ble_eq_true rfl⟩ ⟨rfl, rfl⟩ ⟨Nat.zero_le _, Nat.zero_le _⟩ rfl rfl hl.1 (Nat.le_of_ble_eq_true rfl) dX7_in_6) (fun r_1 f2 u2 H locs hp hw => ?_)
  obtain ⟨rfl, rfl, e_1⟩ := hp
  refine topc e_1 ?_
  refine lv_if_eq (tgt := 28) hx hb dX7_in_9 (by decide) (fun _ => ?_) (fun q => absurd (by decide) q)
  refine lv_iconst (v := (-1)) hx hb dX7_in_28 (by decide) ?_
  exact retI cx hw hr hk dX7_in_29 ⟨(by simp []), KP.rf⟩

set_option maxHeartbeats 4000000 in
set_option maxRecDepth 100000 in
theorem c_X7_about (l : Launch) (D : va_G) (a : Nat → Nat) (cI cZ : ClassId) (f : FF) (u : UU) (h : Int32) (w : Int32) (h1_3 : f 1 3 = 0)  : KI l yX7_about cX7_about 3 (some .int) ({ frames := 2, cells := 0, slots := 0, locals := 33 } : Room) D a cI cZ [.ref (a 0), .int h, .int w] f u (fun r f2 u2 => (r = (-1)) ∧ KP f f2) := by
  refine KX.of (by decide) (Nat.le_of_ble_eq_true rfl) ?_
  intro p e s m below meth c cx hw hr hk ls hl
  have cx : Cx p s m _ c cX7_about RX7 3 D cI cZ := cx
  have hl : lv_has ls 3 [(0, .ref (a 0)), (1, .int h), (2, .int w)] := hl
  have hx := cx.1.1
  have hb := cx.1.2.1
  refine lv_aload_n hx hb dX7_about_0 rfl (lv_at hl 0 rfl) ?_
  refine gf_X7_21 cx hw dX7_about_1 ?_
  refine lv_iload_n hx hb dX7_about_4 rfl (lv_at hl 1 rfl) ?_
  refine goI hw (runVW (k := 1) (As := [.int h]) (rest := []) cx hw (c_X1_hasHold l D a cI cZ f u h h1_3) lk_X7_90 rfl rfl ⟨Nat.le_of_ble_eq_true rfl, Nat.le_of_ble_eq_true rfl⟩ ⟨rfl, rfl⟩ ⟨Nat.zero_le _, Nat.zero_le _⟩ rfl rfl hl.1 (Nat.le_of_ble_eq_true rfl) dX7_about_5) (fun r_1 f2 u2 H locs hp hw => ?_)
  obtain ⟨rfl, rfl, e_1⟩ := hp
  refine topc e_1 ?_
  refine lv_if_ne (tgt := 13) hx hb dX7_about_8 (by decide) (fun q => absurd (by decide) q) (fun _ => ?_)
  refine lv_iconst (v := (-1)) hx hb dX7_about_11 (by decide) ?_
  exact retI cx hw hr hk dX7_about_12 ⟨(by simp []), KP.rf⟩

set_option maxHeartbeats 4000000 in
set_option maxRecDepth 100000 in
theorem c_X7_weight (l : Launch) (D : va_G) (a : Nat → Nat) (cI cZ : ClassId) (f : FF) (u : UU) (w : Int32) (h0_0 : f 0 0 = 1000) (h1_12 : f 1 12 = 0) (h2_3 : f 2 3 = 0) (h2_4 : f 2 4 = 80) (h3_3 : f 3 3 = 0)  : KI l yX7_weight cX7_weight 2 (some .int) ({ frames := 4, cells := 0, slots := 0, locals := 74 } : Room) D a cI cZ [.ref (a 0), .int w] f u (fun r f2 u2 => (r = an_weight w) ∧ KP f f2) := by
  refine KX.of (by decide) (Nat.le_of_ble_eq_true rfl) ?_
  intro p e s m below meth c cx hw hr hk ls hl
  have cx : Cx p s m _ c cX7_weight RX7 2 D cI cZ := cx
  have hl : lv_has ls 2 [(0, .ref (a 0)), (1, .int w)] := hl
  have hx := cx.1.1
  have hb := cx.1.2.1
  refine lv_iload_n hx hb dX7_weight_0 rfl (lv_at hl 1 rfl) ?_
  rcases Decidable.em (w = 0) with c_1 | c_1
  · refine lv_tableIn (off := 27) (tgt := 28) hx hb dX7_weight_1 (by rw [c_1]; decide) (by rw [c_1]; decide) (by rw [c_1]; rfl) (by decide) ?_
    refine lv_aload_n hx hb dX7_weight_28 rfl (lv_at hl 0 rfl) ?_
    refine goI hw (runVW (k := 0) (As := []) (rest := []) cx hw (c_X7_dryWeight l D a cI cZ f u  h0_0 h1_12 h2_3 h2_4) lk_X7_201 rfl rfl ⟨Nat.le_of_ble_eq_true rfl, Nat.le_of_ble_eq_true rfl⟩ ⟨rfl, rfl⟩ ⟨Nat.zero_le _, Nat.zero_le _⟩ rfl rfl hl.1 (Nat.le_of_ble_eq_true rfl) dX7_weight_29) (fun r_2 f2 u2 H locs hp hw => ?_)
    obtain ⟨rfl, rfl, e_2⟩ := hp
    refine topc e_2 ?_
    exact retI cx hw hr hk dX7_weight_32 ⟨(by simp [an_weight, c_1]), KP.rf⟩
  rcases Decidable.em (w = 1) with c_3 | c_3
  · refine lv_tableIn (off := 32) (tgt := 33) hx hb dX7_weight_1 (by rw [c_3]; decide) (by rw [c_3]; decide) (by rw [c_3]; rfl) (by decide) ?_
    refine lv_aload_n hx hb dX7_weight_33 rfl (lv_at hl 0 rfl) ?_
    refine goI hw (runVW (k := 0) (As := []) (rest := []) cx hw (c_X7_dryWeight l D a cI cZ f u  h0_0 h1_12 h2_3 h2_4) lk_X7_201 rfl rfl ⟨Nat.le_of_ble_eq_true rfl, Nat.le_of_ble_eq_true rfl⟩ ⟨rfl, rfl⟩ ⟨Nat.zero_le _, Nat.zero_le _⟩ rfl rfl hl.1 (Nat.le_of_ble_eq_true rfl) dX7_weight_34) (fun r_4 f2 u2 H locs hp hw => ?_)
    obtain ⟨rfl, rfl, e_4⟩ := hp
    refine topc e_4 ?_
    refine lv_aload_n hx hb dX7_weight_37 rfl (lv_at hl 0 rfl) ?_
    refine gf_X7_35 cx hw dX7_weight_38 ?_
    refine goI hw (runVW (k := 3) (As := []) (rest := [.int 1000]) cx hw (c_X6_totalAmount l D a cI cZ f u  h3_3) lk_X7_204 rfl rfl ⟨Nat.le_of_ble_eq_true rfl, Nat.le_of_ble_eq_true rfl⟩ ⟨rfl, rfl⟩ ⟨Nat.zero_le _, Nat.zero_le _⟩ rfl rfl hl.1 (Nat.le_of_ble_eq_true rfl) dX7_weight_41) (fun r_5 f2 u2 H locs hp hw => ?_)
    obtain ⟨rfl, rfl, e_5⟩ := hp
    refine topc e_5 ?_
    refine lv_iadd hx hb dX7_weight_44 ?_
    refine topc (y := 1000) (by decide) ?_
    exact retI cx hw hr hk dX7_weight_45 ⟨(by simp [an_weight, c_1, c_3]), KP.rf⟩
  rcases Decidable.em (w = 2) with c_6 | c_6
  · refine lv_tableIn (off := 45) (tgt := 46) hx hb dX7_weight_1 (by rw [c_6]; decide) (by rw [c_6]; decide) (by rw [c_6]; rfl) (by decide) ?_
    refine lv_aload_n hx hb dX7_weight_46 rfl (lv_at hl 0 rfl) ?_
    refine gf_X7_35 cx hw dX7_weight_47 ?_
    refine goI hw (runVW (k := 3) (As := []) (rest := []) cx hw (c_X6_totalAmount l D a cI cZ f u  h3_3) lk_X7_204 rfl rfl ⟨Nat.le_of_ble_eq_true rfl, Nat.le_of_ble_eq_true rfl⟩ ⟨rfl, rfl⟩ ⟨Nat.zero_le _, Nat.zero_le _⟩ rfl rfl hl.1 (Nat.le_of_ble_eq_true rfl) dX7_weight_50) (fun r_7 f2 u2 H locs hp hw => ?_)
    obtain ⟨rfl, rfl, e_7⟩ := hp
    refine topc e_7 ?_
    exact retI cx hw hr hk dX7_weight_53 ⟨(by simp [an_weight, c_1, c_3, c_6]), KP.rf⟩
  refine lv_tableOut (tgt := 54) hx hb dX7_weight_1 (by have z0 := lv_neT (a := 0) c_1 rfl; have z1 := lv_neT (a := 1) c_3 rfl; have z2 := lv_neT (a := 2) c_6 rfl; omega) (by decide) ?_
  refine lv_iconst (v := (-1)) hx hb dX7_weight_54 (by decide) ?_
  exact retI cx hw hr hk dX7_weight_55 ⟨(by simp [an_weight, c_1, c_3, c_6]), KP.rf⟩

set_option maxHeartbeats 4000000 in
set_option maxRecDepth 100000 in
theorem c_X7_moment (l : Launch) (D : va_G) (a : Nat → Nat) (cI cZ : ClassId) (f : FF) (u : UU) (w : Int32) (h0_0 : f 0 0 = 1000) (h0_1 : f 0 1 = 0) (h1_12 : f 1 12 = 0) (h2_3 : f 2 3 = 0) (h3_3 : f 3 3 = 0)  : KL l yX7_moment cX7_moment 2 (some .long) ({ frames := 3, cells := 0, slots := 0, locals := 55 } : Room) D a cI cZ [.ref (a 0), .int w] f u (fun r f2 u2 => (r = an_moment w) ∧ KP f f2) := by
  refine KX.of (by decide) (Nat.le_of_ble_eq_true rfl) ?_
  intro p e s m below meth c cx hw hr hk ls hl
  have cx : Cx p s m _ c cX7_moment RX7 2 D cI cZ := cx
  have hl : lv_has ls 2 [(0, .ref (a 0)), (1, .int w)] := hl
  have hx := cx.1.1
  have hb := cx.1.2.1
  refine lv_iload_n hx hb dX7_moment_0 rfl (lv_at hl 1 rfl) ?_
  rcases Decidable.em (w = 0) with c_1 | c_1
  · refine lv_tableIn (off := 27) (tgt := 28) hx hb dX7_moment_1 (by rw [c_1]; decide) (by rw [c_1]; decide) (by rw [c_1]; rfl) (by decide) ?_
    refine lv_aload_n hx hb dX7_moment_28 rfl (lv_at hl 0 rfl) ?_
    refine goL hw (runVW (k := 0) (As := []) (rest := []) cx hw (c_X7_dryMoment l D a cI cZ f u  h0_0 h0_1 h1_12 h2_3) lk_X7_207 rfl rfl ⟨Nat.le_of_ble_eq_true rfl, Nat.le_of_ble_eq_true rfl⟩ ⟨rfl, rfl⟩ ⟨Nat.zero_le _, Nat.zero_le _⟩ rfl rfl hl.1 (Nat.le_of_ble_eq_true rfl) dX7_moment_29) (fun r_2 f2 u2 H locs hp hw => ?_)
    obtain ⟨rfl, rfl, e_2⟩ := hp
    refine topL e_2 ?_
    exact retL cx hw hr hk dX7_moment_32 ⟨(by simp [an_moment, c_1]), KP.rf⟩
  rcases Decidable.em (w = 1) with c_3 | c_3
  · refine lv_tableIn (off := 32) (tgt := 33) hx hb dX7_moment_1 (by rw [c_3]; decide) (by rw [c_3]; decide) (by rw [c_3]; rfl) (by decide) ?_
    refine lv_aload_n hx hb dX7_moment_33 rfl (lv_at hl 0 rfl) ?_
    refine goL hw (runVW (k := 0) (As := []) (rest := []) cx hw (c_X7_dryMoment l D a cI cZ f u  h0_0 h0_1 h1_12 h2_3) lk_X7_207 rfl rfl ⟨Nat.le_of_ble_eq_true rfl, Nat.le_of_ble_eq_true rfl⟩ ⟨rfl, rfl⟩ ⟨Nat.zero_le _, Nat.zero_le _⟩ rfl rfl hl.1 (Nat.le_of_ble_eq_true rfl) dX7_moment_34) (fun r_4 f2 u2 H locs hp hw => ?_)
    obtain ⟨rfl, rfl, e_4⟩ := hp
    refine topL e_4 ?_
    refine lv_aload_n hx hb dX7_moment_37 rfl (lv_at hl 0 rfl) ?_
    refine gf_X7_35 cx hw dX7_moment_38 ?_
    refine lv_iconst (v := 0) hx hb dX7_moment_41 (by decide) ?_
    refine goL hw (runVW (k := 3) (As := [.int 0]) (rest := [.long 0]) cx hw (c_X6_momentLeft l D a cI cZ f u 0 h3_3) lk_X7_211 rfl rfl ⟨Nat.le_of_ble_eq_true rfl, Nat.le_of_ble_eq_true rfl⟩ ⟨rfl, rfl⟩ ⟨Nat.zero_le _, Nat.zero_le _⟩ rfl rfl hl.1 (Nat.le_of_ble_eq_true rfl) dX7_moment_42) (fun r_5 f2 u2 H locs hp hw => ?_)
    obtain ⟨rfl, rfl, e_5⟩ := hp
    refine topL e_5 ?_
    refine lv_ladd hx hb dX7_moment_45 ?_
    refine topL (y := 0) (by decide) ?_
    exact retL cx hw hr hk dX7_moment_46 ⟨(by simp [an_moment, c_1, c_3]), KP.rf⟩
  rcases Decidable.em (w = 2) with c_6 | c_6
  · refine lv_tableIn (off := 46) (tgt := 47) hx hb dX7_moment_1 (by rw [c_6]; decide) (by rw [c_6]; decide) (by rw [c_6]; rfl) (by decide) ?_
    refine lv_aload_n hx hb dX7_moment_47 rfl (lv_at hl 0 rfl) ?_
    refine gf_X7_35 cx hw dX7_moment_48 ?_
    refine lv_iconst (v := 0) hx hb dX7_moment_51 (by decide) ?_
    refine goL hw (runVW (k := 3) (As := [.int 0]) (rest := []) cx hw (c_X6_momentLeft l D a cI cZ f u 0 h3_3) lk_X7_211 rfl rfl ⟨Nat.le_of_ble_eq_true rfl, Nat.le_of_ble_eq_true rfl⟩ ⟨rfl, rfl⟩ ⟨Nat.zero_le _, Nat.zero_le _⟩ rfl rfl hl.1 (Nat.le_of_ble_eq_true rfl) dX7_moment_52) (fun r_7 f2 u2 H locs hp hw => ?_)
    obtain ⟨rfl, rfl, e_7⟩ := hp
    refine topL e_7 ?_
    exact retL cx hw hr hk dX7_moment_55 ⟨(by simp [an_moment, c_1, c_3, c_6]), KP.rf⟩
  refine lv_tableOut (tgt := 56) hx hb dX7_moment_1 (by have z0 := lv_neT (a := 0) c_1 rfl; have z1 := lv_neT (a := 1) c_3 rfl; have z2 := lv_neT (a := 2) c_6 rfl; omega) (by decide) ?_
  refine lv_ldc2 (v := (-9223372036854775808)) hx hb cx.1.2.2.2.1 (cx.1.2.2.2.2 _ mm_3_34) dX7_moment_56 ?_
  exact retL cx hw hr hk dX7_moment_59 ⟨(by simp [an_moment, c_1, c_3, c_6]), KP.rf⟩

set_option maxHeartbeats 4000000 in
set_option maxRecDepth 100000 in
theorem c_X7_burnt (l : Launch) (D : va_G) (a : Nat → Nat) (cI cZ : ClassId) (f : FF) (u : UU) (b : Int32) (w : Int32) (h0_0 : f 0 0 = 1000) (h0_1 : f 0 1 = 0) (h1_12 : f 1 12 = 0) (h2_3 : f 2 3 = 0) (h2_4 : f 2 4 = 80) (h3_3 : f 3 3 = 0)  : KL l yX7_burnt cX7_burnt 3 (some .long) ({ frames := 4, cells := 0, slots := 0, locals := 74 } : Room) D a cI cZ [.ref (a 0), .int b, .int w] f u (fun r f2 u2 => (r = an_burnt b w) ∧ KP f f2) := by
  refine KX.of (by decide) (Nat.le_of_ble_eq_true rfl) ?_
  intro p e s m below meth c cx hw hr hk ls hl
  have cx : Cx p s m _ c cX7_burnt RX7 3 D cI cZ := cx
  have hl : lv_has ls 3 [(0, .ref (a 0)), (1, .int b), (2, .int w)] := hl
  have hx := cx.1.1
  have hb := cx.1.2.1
  refine lv_iload_n hx hb dX7_burnt_0 rfl (lv_at hl 1 rfl) ?_
  refine lv_iconst (v := 0) hx hb dX7_burnt_1 (by decide) ?_
  refine lv_aload_n hx hb dX7_burnt_2 rfl (lv_at hl 0 rfl) ?_
  refine gf_X7_35 cx hw dX7_burnt_3 ?_
  refine goI hw (runVW (k := 3) (As := []) (rest := [.int 0, .int b]) cx hw (c_X6_totalAmount l D a cI cZ f u  h3_3) lk_X7_204 rfl rfl ⟨Nat.le_of_ble_eq_true rfl, Nat.le_of_ble_eq_true rfl⟩ ⟨rfl, rfl⟩ ⟨Nat.zero_le _, Nat.zero_le _⟩ rfl rfl hl.1 (Nat.le_of_ble_eq_true rfl) dX7_burnt_6) (fun r_1 f2 u2 H locs hp hw => ?_)
  obtain ⟨rfl, rfl, e_1⟩ := hp
  refine topc e_1 ?_
  refine goI hw (runSW (As := [.int b, .int 0, .int 0]) (rest := []) cx hw (c_X7_isFromTo l D a cI cZ f u b 0 0 ) lk_X7_75 ⟨Nat.le_of_ble_eq_true rfl, Nat.le_of_ble_eq_true rfl⟩ ⟨rfl, rfl⟩ ⟨Nat.zero_le _, Nat.zero_le _⟩ rfl rfl hl.1 (Nat.le_of_ble_eq_true rfl) dX7_burnt_9) (fun r_2 f2 u2 H locs hp hw => ?_)
  obtain ⟨rfl, rfl, e_2⟩ := hp
  refine topc e_2 ?_
  refine lv_if_ne (tgt := 19) hx hb dX7_burnt_12 (by decide) (fun c_3 => ?_) (fun c_3 => ?_)
  · refine lv_iload_n hx hb dX7_burnt_19 rfl (lv_at hl 2 rfl) ?_
    rcases Decidable.em (w = 0) with c_4 | c_4
    · refine lv_lookup (off := 28) (tgt := 48) hx hb dX7_burnt_20 (by decide) (by rw [c_4]; rfl) (by decide) ?_
      refine lv_aload_n hx hb dX7_burnt_48 rfl (lv_at hl 0 rfl) ?_
      refine goL hw (runVW (k := 0) (As := []) (rest := []) cx hw (c_X7_dryMoment l D a cI cZ f u  h0_0 h0_1 h1_12 h2_3) lk_X7_207 rfl rfl ⟨Nat.le_of_ble_eq_true rfl, Nat.le_of_ble_eq_true rfl⟩ ⟨rfl, rfl⟩ ⟨Nat.zero_le _, Nat.zero_le _⟩ rfl rfl hl.1 (Nat.le_of_ble_eq_true rfl) dX7_burnt_49) (fun r_5 f2 u2 H locs hp hw => ?_)
      obtain ⟨rfl, rfl, e_5⟩ := hp
      refine topL e_5 ?_
      refine lv_aload_n hx hb dX7_burnt_52 rfl (lv_at hl 0 rfl) ?_
      refine gf_X7_35 cx hw dX7_burnt_53 ?_
      refine lv_iload_n hx hb dX7_burnt_56 rfl (lv_at hl 1 rfl) ?_
      refine goL hw (runVW (k := 3) (As := [.int b]) (rest := [.long 0]) cx hw (c_X6_momentLeft l D a cI cZ f u b h3_3) lk_X7_211 rfl rfl ⟨Nat.le_of_ble_eq_true rfl, Nat.le_of_ble_eq_true rfl⟩ ⟨rfl, rfl⟩ ⟨Nat.zero_le _, Nat.zero_le _⟩ rfl rfl hl.1 (Nat.le_of_ble_eq_true rfl) dX7_burnt_57) (fun r_6 f2 u2 H locs hp hw => ?_)
      obtain ⟨rfl, rfl, e_6⟩ := hp
      refine topL e_6 ?_
      refine lv_ladd hx hb dX7_burnt_60 ?_
      refine topL (y := 0) (by decide) ?_
      exact retL cx hw hr hk dX7_burnt_61 ⟨(by simp [an_burnt, c_3, c_4]), KP.rf⟩
    rcases Decidable.em (w = 1) with c_7 | c_7
    · refine lv_lookup (off := 42) (tgt := 62) hx hb dX7_burnt_20 (by decide) (by rw [c_7]; rfl) (by decide) ?_
      refine lv_aload_n hx hb dX7_burnt_62 rfl (lv_at hl 0 rfl) ?_
      refine goI hw (runVW (k := 0) (As := []) (rest := []) cx hw (c_X7_dryWeight l D a cI cZ f u  h0_0 h1_12 h2_3 h2_4) lk_X7_201 rfl rfl ⟨Nat.le_of_ble_eq_true rfl, Nat.le_of_ble_eq_true rfl⟩ ⟨rfl, rfl⟩ ⟨Nat.zero_le _, Nat.zero_le _⟩ rfl rfl hl.1 (Nat.le_of_ble_eq_true rfl) dX7_burnt_63) (fun r_8 f2 u2 H locs hp hw => ?_)
      obtain ⟨rfl, rfl, e_8⟩ := hp
      refine topc e_8 ?_
      refine lv_aload_n hx hb dX7_burnt_66 rfl (lv_at hl 0 rfl) ?_
      refine gf_X7_35 cx hw dX7_burnt_67 ?_
      refine goI hw (runVW (k := 3) (As := []) (rest := [.int 1000]) cx hw (c_X6_totalAmount l D a cI cZ f u  h3_3) lk_X7_204 rfl rfl ⟨Nat.le_of_ble_eq_true rfl, Nat.le_of_ble_eq_true rfl⟩ ⟨rfl, rfl⟩ ⟨Nat.zero_le _, Nat.zero_le _⟩ rfl rfl hl.1 (Nat.le_of_ble_eq_true rfl) dX7_burnt_70) (fun r_9 f2 u2 H locs hp hw => ?_)
      obtain ⟨rfl, rfl, e_9⟩ := hp
      refine topc e_9 ?_
      refine lv_iadd hx hb dX7_burnt_73 ?_
      refine topc (y := 1000) (by decide) ?_
      refine lv_iload_n hx hb dX7_burnt_74 rfl (lv_at hl 1 rfl) ?_
      refine lv_isub hx hb dX7_burnt_75 ?_
      refine lv_i2l (v := (1000 - b).toInt64) hx hb dX7_burnt_76 rfl ?_
      exact retL cx hw hr hk dX7_burnt_77 ⟨(by simp [an_burnt, c_3, c_4, c_7]), KP.rf⟩
    refine lv_lookup (off := 58) (tgt := 78) hx hb dX7_burnt_20 (by decide) (by show Op.lookupswitch.offset [(0, 28), (1, 42)] 58 _ = _; rw [lv_osw (a := 0) c_4 rfl]; rw [lv_osw (a := 1) c_7 rfl]; rfl) (by decide) ?_
    refine lv_ldc2 (v := (-9223372036854775808)) hx hb cx.1.2.2.2.1 (cx.1.2.2.2.2 _ mm_3_34) dX7_burnt_78 ?_
    exact retL cx hw hr hk dX7_burnt_81 ⟨(by simp [an_burnt, c_3, c_4, c_7]), KP.rf⟩
  · refine lv_ldc2 (v := (-9223372036854775808)) hx hb cx.1.2.2.2.1 (cx.1.2.2.2.2 _ mm_3_34) dX7_burnt_15 ?_
    exact retL cx hw hr hk dX7_burnt_18 ⟨(by simp [an_burnt, c_3]), KP.rf⟩

set_option maxHeartbeats 4000000 in
set_option maxRecDepth 100000 in
theorem c_X7_within (l : Launch) (D : va_G) (a : Nat → Nat) (cI cZ : ClassId) (f : FF) (u : UU) (ph : Int32) (h4_3 : f 4 3 = 0) (h5_3 : f 5 3 = 0)  : KI l yX7_within cX7_within 3 (some .int) ({ frames := 2, cells := 0, slots := 0, locals := 33 } : Room) D a cI cZ [.ref (a 0), .int ph] f u (fun r f2 u2 => (r = an_within ph) ∧ KP f f2) := by
  refine KX.of (by decide) (Nat.le_of_ble_eq_true rfl) ?_
  intro p e s m below meth c cx hw hr hk ls hl
  have cx : Cx p s m _ c cX7_within RX7 3 D cI cZ := cx
  have hl : lv_has ls 3 [(0, .ref (a 0)), (1, .int ph)] := hl
  have hx := cx.1.1
  have hb := cx.1.2.1
  refine lv_iload_n hx hb dX7_within_0 rfl (lv_at hl 1 rfl) ?_
  refine goI hw (runSW (As := [.int ph]) (rest := []) cx hw (c_X7_isPhase l D a cI cZ f u ph ) lk_X7_141 ⟨Nat.le_of_ble_eq_true rfl, Nat.le_of_ble_eq_true rfl⟩ ⟨rfl, rfl⟩ ⟨Nat.zero_le _, Nat.zero_le _⟩ rfl rfl hl.1 (Nat.le_of_ble_eq_true rfl) dX7_within_1) (fun r_1 f2 u2 H locs hp hw => ?_)
  obtain ⟨rfl, rfl, e_1⟩ := hp
  refine topc e_1 ?_
  refine lv_if_ne (tgt := 9) hx hb dX7_within_4 (by decide) (fun c_2 => ?_) (fun c_2 => ?_)
  · rcases rg_01 c_2 with e_2 | e_2
    · subst e_2
      refine lv_aload_n hx hb dX7_within_9 rfl (lv_at hl 0 rfl) ?_
      refine lv_iload_n hx hb dX7_within_10 rfl (lv_at hl 1 rfl) ?_
      refine goR hw (runVW (k := 0) (As := [.int 0]) (rest := []) cx hw (c_X7_limitsOf_4 l D a cI cZ f u  ) lk_X7_144 rfl rfl ⟨Nat.le_of_ble_eq_true rfl, Nat.le_of_ble_eq_true rfl⟩ ⟨rfl, rfl⟩ ⟨Nat.zero_le _, Nat.zero_le _⟩ rfl rfl hl.1 (Nat.le_of_ble_eq_true rfl) dX7_within_11) (fun r_3 f2 u2 H locs hp hw => ?_)
      obtain ⟨rfl, rfl, rfl⟩ := hp
      refine lv_astore_n (lv' := [(2, .ref (a 4)), (0, .ref (a 0)), (1, .int 0)]) hx hb dX7_within_14 rfl hl (by decide) rfl (fun ls hl => ?_)
      refine lv_aload_n hx hb dX7_within_15 rfl (lv_at hl 0 rfl) ?_
      refine gf_X7_156_4 cx hw dX7_within_16 ?_
      refine topc (y := 0) h4_3 ?_
      refine lv_if_ne (tgt := 25) hx hb dX7_within_19 (by decide) (fun q => absurd (by decide) q) (fun _ => ?_)
      refine lv_bipush (v := (-3)) hx hb dX7_within_22 (by decide) ?_
      exact retI cx hw hr hk dX7_within_24 ⟨(by simp [an_within, c_2]), KP.rf⟩
    · subst e_2
      refine lv_aload_n hx hb dX7_within_9 rfl (lv_at hl 0 rfl) ?_
      refine lv_iload_n hx hb dX7_within_10 rfl (lv_at hl 1 rfl) ?_
      refine goR hw (runVW (k := 0) (As := [.int 1]) (rest := []) cx hw (c_X7_limitsOf_5 l D a cI cZ f u  ) lk_X7_144 rfl rfl ⟨Nat.le_of_ble_eq_true rfl, Nat.le_of_ble_eq_true rfl⟩ ⟨rfl, rfl⟩ ⟨Nat.zero_le _, Nat.zero_le _⟩ rfl rfl hl.1 (Nat.le_of_ble_eq_true rfl) dX7_within_11) (fun r_5 f2 u2 H locs hp hw => ?_)
      obtain ⟨rfl, rfl, rfl⟩ := hp
      refine lv_astore_n (lv' := [(2, .ref (a 5)), (0, .ref (a 0)), (1, .int 1)]) hx hb dX7_within_14 rfl hl (by decide) rfl (fun ls hl => ?_)
      refine lv_aload_n hx hb dX7_within_15 rfl (lv_at hl 0 rfl) ?_
      refine gf_X7_156_5 cx hw dX7_within_16 ?_
      refine topc (y := 0) h5_3 ?_
      refine lv_if_ne (tgt := 25) hx hb dX7_within_19 (by decide) (fun q => absurd (by decide) q) (fun _ => ?_)
      refine lv_bipush (v := (-3)) hx hb dX7_within_22 (by decide) ?_
      exact retI cx hw hr hk dX7_within_24 ⟨(by simp [an_within, c_2]), KP.rf⟩
  · refine lv_iconst (v := (-1)) hx hb dX7_within_7 (by decide) ?_
    exact retI cx hw hr hk dX7_within_8 ⟨(by simp [an_within, c_2]), KP.rf⟩

set_option maxHeartbeats 4000000 in
set_option maxRecDepth 100000 in
theorem c_X7_safe (l : Launch) (D : va_G) (a : Nat → Nat) (cI cZ : ClassId) (f : FF) (u : UU) (n : Int32) (h4_3 : f 4 3 = 0)  : KI l yX7_safe cX7_safe 2 (some .int) ({ frames := 1, cells := 0, slots := 0, locals := 12 } : Room) D a cI cZ [.ref (a 0), .int n] f u (fun r f2 u2 => (r = an_safe n) ∧ KP f f2) := by
  refine KX.of (by decide) (Nat.le_of_ble_eq_true rfl) ?_
  intro p e s m below meth c cx hw hr hk ls hl
  have cx : Cx p s m _ c cX7_safe RX7 2 D cI cZ := cx
  have hl : lv_has ls 2 [(0, .ref (a 0)), (1, .int n)] := hl
  have hx := cx.1.1
  have hb := cx.1.2.1
  refine lv_iload_n hx hb dX7_safe_0 rfl (lv_at hl 1 rfl) ?_
  refine lv_if_ge (tgt := 7) hx hb dX7_safe_1 (by decide) (fun c_1 => ?_) (fun c_1 => ?_)
  · refine lv_aload_n hx hb dX7_safe_7 rfl (lv_at hl 0 rfl) ?_
    refine gf_X7_42 cx hw dX7_safe_8 ?_
    refine gf_X7_156_4 cx hw dX7_safe_11 ?_
    refine topc (y := 0) h4_3 ?_
    refine lv_if_eq (tgt := 27) hx hb dX7_safe_14 (by decide) (fun _ => ?_) (fun q => absurd (by decide) q)
    refine lv_bipush (v := (-3)) hx hb dX7_safe_27 (by decide) ?_
    exact retI cx hw hr hk dX7_safe_29 ⟨(by simp [an_safe, c_1]), KP.rf⟩
  · refine lv_bipush (v := (-2)) hx hb dX7_safe_4 (by decide) ?_
    exact retI cx hw hr hk dX7_safe_6 ⟨(by simp [an_safe, c_1]), KP.rf⟩

set_option maxHeartbeats 4000000 in
set_option maxRecDepth 100000 in
theorem c_X7_wrong (l : Launch) (D : va_G) (a : Nat → Nat) (cI cZ : ClassId) (f : FF) (u : UU) (n : Int32) (h5_3 : f 5 3 = 0)  : KI l yX7_wrong cX7_wrong 2 (some .int) ({ frames := 1, cells := 0, slots := 0, locals := 12 } : Room) D a cI cZ [.ref (a 0), .int n] f u (fun r f2 u2 => (r = an_safe n) ∧ KP f f2) := by
  refine KX.of (by decide) (Nat.le_of_ble_eq_true rfl) ?_
  intro p e s m below meth c cx hw hr hk ls hl
  have cx : Cx p s m _ c cX7_wrong RX7 2 D cI cZ := cx
  have hl : lv_has ls 2 [(0, .ref (a 0)), (1, .int n)] := hl
  have hx := cx.1.1
  have hb := cx.1.2.1
  refine lv_iload_n hx hb dX7_wrong_0 rfl (lv_at hl 1 rfl) ?_
  refine lv_if_ge (tgt := 7) hx hb dX7_wrong_1 (by decide) (fun c_1 => ?_) (fun c_1 => ?_)
  · refine lv_aload_n hx hb dX7_wrong_7 rfl (lv_at hl 0 rfl) ?_
    refine gf_X7_46 cx hw dX7_wrong_8 ?_
    refine gf_X7_156_5 cx hw dX7_wrong_11 ?_
    refine topc (y := 0) h5_3 ?_
    refine lv_if_ne (tgt := 20) hx hb dX7_wrong_14 (by decide) (fun q => absurd (by decide) q) (fun _ => ?_)
    refine lv_bipush (v := (-3)) hx hb dX7_wrong_17 (by decide) ?_
    exact retI cx hw hr hk dX7_wrong_19 ⟨(by simp [an_safe, c_1]), KP.rf⟩
  · refine lv_bipush (v := (-2)) hx hb dX7_wrong_4 (by decide) ?_
    exact retI cx hw hr hk dX7_wrong_6 ⟨(by simp [an_safe, c_1]), KP.rf⟩

set_option maxHeartbeats 4000000 in
set_option maxRecDepth 100000 in
theorem c_X7_pushed (l : Launch) (D : va_G) (a : Nat → Nat) (cI cZ : ClassId) (f : FF) (u : UU) (sp : Int32) (h1_3 : f 1 3 = 0)  : KI l yX7_pushed cX7_pushed 2 (some .int) ({ frames := 3, cells := 0, slots := 0, locals := 54 } : Room) D a cI cZ [.ref (a 0), .int sp] f u (fun r f2 u2 => (r = an_pushed sp) ∧ KP f f2) := by
  refine KX.of (by decide) (Nat.le_of_ble_eq_true rfl) ?_
  intro p e s m below meth c cx hw hr hk ls hl
  have cx : Cx p s m _ c cX7_pushed RX7 2 D cI cZ := cx
  have hl : lv_has ls 2 [(0, .ref (a 0)), (1, .int sp)] := hl
  have hx := cx.1.1
  have hb := cx.1.2.1
  refine lv_iload_n hx hb dX7_pushed_0 rfl (lv_at hl 1 rfl) ?_
  refine lv_if_ne (tgt := 14) hx hb dX7_pushed_1 (by decide) (fun c_1 => ?_) (fun c_1 => ?_)
  · refine lv_iload_n hx hb dX7_pushed_14 rfl (lv_at hl 1 rfl) ?_
    refine goI hw (runSW (As := [.int sp]) (rest := []) cx hw (c_X7_isStop l D a cI cZ f u sp ) lk_X7_107 ⟨Nat.le_of_ble_eq_true rfl, Nat.le_of_ble_eq_true rfl⟩ ⟨rfl, rfl⟩ ⟨Nat.zero_le _, Nat.zero_le _⟩ rfl rfl hl.1 (Nat.le_of_ble_eq_true rfl) dX7_pushed_15) (fun r_2 f2 u2 H locs hp hw => ?_)
    obtain ⟨rfl, rfl, e_2⟩ := hp
    refine topc e_2 ?_
    refine lv_if_eq (tgt := 34) hx hb dX7_pushed_18 (by decide) (fun c_3 => ?_) (fun c_3 => ?_)
    · refine lv_iconst (v := (-1)) hx hb dX7_pushed_34 (by decide) ?_
      exact retI cx hw hr hk dX7_pushed_35 ⟨(by simp [an_pushed, rg_p1 c_1, c_3]), KP.rf⟩
    · refine lv_aload_n hx hb dX7_pushed_21 rfl (lv_at hl 0 rfl) ?_
      refine gf_X7_21 cx hw dX7_pushed_22 ?_
      refine lv_iconst (v := 1) hx hb dX7_pushed_25 (by decide) ?_
      refine lv_iload_n hx hb dX7_pushed_26 rfl (lv_at hl 1 rfl) ?_
      refine lv_ishl hx hb dX7_pushed_27 ?_
      refine goI hw (runVW (k := 1) (As := [.int (1 <<< (sp &&& 31))]) (rest := []) cx hw (c_X1_pushedInAll l D a cI cZ f u (1 <<< (sp &&& 31)) h1_3) lk_X7_231 rfl rfl ⟨Nat.le_of_ble_eq_true rfl, Nat.le_of_ble_eq_true rfl⟩ ⟨rfl, rfl⟩ ⟨Nat.zero_le _, Nat.zero_le _⟩ rfl rfl hl.1 (Nat.le_of_ble_eq_true rfl) dX7_pushed_28) (fun r_4 f2 u2 H locs hp hw => ?_)
      obtain ⟨rfl, rfl, e_4⟩ := hp
      refine topc e_4 ?_
      refine lv_goto (tgt := 35) hx hb dX7_pushed_31 (by decide) ?_
      exact retI cx hw hr hk dX7_pushed_35 ⟨(by simp [an_pushed, rg_p1 c_1, c_3]), KP.rf⟩
  · refine lv_aload_n hx hb dX7_pushed_4 rfl (lv_at hl 0 rfl) ?_
    refine gf_X7_21 cx hw dX7_pushed_5 ?_
    refine lv_bipush (v := 30) hx hb dX7_pushed_8 (by decide) ?_
    refine goI hw (runVW (k := 1) (As := [.int 30]) (rest := []) cx hw (c_X1_pushedInAll l D a cI cZ f u 30 h1_3) lk_X7_231 rfl rfl ⟨Nat.le_of_ble_eq_true rfl, Nat.le_of_ble_eq_true rfl⟩ ⟨rfl, rfl⟩ ⟨Nat.zero_le _, Nat.zero_le _⟩ rfl rfl hl.1 (Nat.le_of_ble_eq_true rfl) dX7_pushed_10) (fun r_5 f2 u2 H locs hp hw => ?_)
    obtain ⟨rfl, rfl, e_5⟩ := hp
    refine topc e_5 ?_
    exact retI cx hw hr hk dX7_pushed_13 ⟨(by rw [c_1]; rfl), KP.rf⟩

set_option maxHeartbeats 4000000 in
set_option maxRecDepth 100000 in
theorem c_X7_arrive (l : Launch) (D : va_G) (a : Nat → Nat) (cI cZ : ClassId) (f : FF) (u : UU) (sp : Int32) (h1_12 : f 1 12 = 0)  : KI l yX7_arrive cX7_arrive 2 (some .int) ({ frames := 3, cells := 0, slots := 0, locals := 54 } : Room) D a cI cZ [.ref (a 0), .int sp] f u (fun r f2 u2 => (r = an_arrive sp) ∧ KP f f2) := by
  refine KX.of (by decide) (Nat.le_of_ble_eq_true rfl) ?_
  intro p e s m below meth c cx hw hr hk ls hl
  have cx : Cx p s m _ c cX7_arrive RX7 2 D cI cZ := cx
  have hl : lv_has ls 2 [(0, .ref (a 0)), (1, .int sp)] := hl
  have hx := cx.1.1
  have hb := cx.1.2.1
  refine lv_iload_n hx hb dX7_arrive_0 rfl (lv_at hl 1 rfl) ?_
  refine goI hw (runSW (As := [.int sp]) (rest := []) cx hw (c_X7_isStop l D a cI cZ f u sp ) lk_X7_107 ⟨Nat.le_of_ble_eq_true rfl, Nat.le_of_ble_eq_true rfl⟩ ⟨rfl, rfl⟩ ⟨Nat.zero_le _, Nat.zero_le _⟩ rfl rfl hl.1 (Nat.le_of_ble_eq_true rfl) dX7_arrive_1) (fun r_1 f2 u2 H locs hp hw => ?_)
  obtain ⟨rfl, rfl, e_1⟩ := hp
  refine topc e_1 ?_
  refine lv_if_eq (tgt := 18) hx hb dX7_arrive_4 (by decide) (fun c_2 => ?_) (fun c_2 => ?_)
  · refine lv_iconst (v := (-1)) hx hb dX7_arrive_18 (by decide) ?_
    exact retI cx hw hr hk dX7_arrive_19 ⟨(by simp [an_arrive, c_2]), KP.rf⟩
  · refine lv_aload_n hx hb dX7_arrive_7 rfl (lv_at hl 0 rfl) ?_
    refine gf_X7_21 cx hw dX7_arrive_8 ?_
    refine lv_iload_n hx hb dX7_arrive_11 rfl (lv_at hl 1 rfl) ?_
    refine goI hw (runVW (k := 1) (As := [.int sp]) (rest := []) cx hw (c_X1_takeOutAllOf l D a cI cZ f u sp h1_12) lk_X7_234 rfl rfl ⟨Nat.le_of_ble_eq_true rfl, Nat.le_of_ble_eq_true rfl⟩ ⟨rfl, rfl⟩ ⟨Nat.zero_le _, Nat.zero_le _⟩ rfl rfl hl.1 (Nat.le_of_ble_eq_true rfl) dX7_arrive_12) (fun r_3 f2 u2 H locs hp hw => ?_)
    obtain ⟨rfl, rfl, e_3⟩ := hp
    refine topc e_3 ?_
    refine lv_goto (tgt := 19) hx hb dX7_arrive_15 (by decide) ?_
    exact retI cx hw hr hk dX7_arrive_19 ⟨(by simp [an_arrive, c_2]), KP.rf⟩

set_option maxHeartbeats 4000000 in
set_option maxRecDepth 100000 in
theorem c_X7_loadAll (l : Launch) (D : va_G) (a : Nat → Nat) (cI cZ : ClassId) (f : FF) (u : UU) (am : Int32) (h0_0 : f 0 0 = 1000) (h0_1 : f 0 1 = 0) (h1_12 : f 1 12 = 0) (h2_3 : f 2 3 = 0) (h2_4 : f 2 4 = 80)  : KI l yX7_loadAll cX7_loadAll 2 (some .int) ({ frames := 5, cells := 0, slots := 0, locals := 95 } : Room) D a cI cZ [.ref (a 0), .int am] f u (fun r f2 u2 => (r = an_arm am) ∧ KP f f2) := by
  refine KX.of (by decide) (Nat.le_of_ble_eq_true rfl) ?_
  intro p e s m below meth c cx hw hr hk ls hl
  have cx : Cx p s m _ c cX7_loadAll RX7 2 D cI cZ := cx
  have hl : lv_has ls 2 [(0, .ref (a 0)), (1, .int am)] := hl
  have hx := cx.1.1
  have hb := cx.1.2.1
  refine lv_iload_n hx hb dX7_loadAll_0 rfl (lv_at hl 1 rfl) ?_
  refine goI hw (runSW (As := [.int am]) (rest := []) cx hw (c_X7_isArm l D a cI cZ f u am ) lk_X7_79 ⟨Nat.le_of_ble_eq_true rfl, Nat.le_of_ble_eq_true rfl⟩ ⟨rfl, rfl⟩ ⟨Nat.zero_le _, Nat.zero_le _⟩ rfl rfl hl.1 (Nat.le_of_ble_eq_true rfl) dX7_loadAll_1) (fun r_1 f2 u2 H locs hp hw => ?_)
  obtain ⟨rfl, rfl, e_1⟩ := hp
  refine topc e_1 ?_
  refine lv_if_eq (tgt := 23) hx hb dX7_loadAll_4 (by decide) (fun c_2 => ?_) (fun c_2 => ?_)
  · refine lv_bipush (v := (-2)) hx hb dX7_loadAll_23 (by decide) ?_
    exact retI cx hw hr hk dX7_loadAll_25 ⟨(by simp [an_arm, c_2]), KP.rf⟩
  · refine lv_aload_n hx hb dX7_loadAll_7 rfl (lv_at hl 0 rfl) ?_
    refine gf_X7_21 cx hw dX7_loadAll_8 ?_
    refine lv_iload_n hx hb dX7_loadAll_11 rfl (lv_at hl 1 rfl) ?_
    refine lv_aload_n hx hb dX7_loadAll_12 rfl (lv_at hl 0 rfl) ?_
    refine lv_iload_n hx hb dX7_loadAll_13 rfl (lv_at hl 1 rfl) ?_
    refine goL hw (runVW (k := 0) (As := [.int am]) (rest := [.int am, .ref (a 1)]) cx hw (c_X7_lean l D a cI cZ f u am h0_0 h0_1 h1_12 h2_3 h2_4) lk_X7_237 rfl rfl ⟨Nat.le_of_ble_eq_true rfl, Nat.le_of_ble_eq_true rfl⟩ ⟨rfl, rfl⟩ ⟨Nat.zero_le _, Nat.zero_le _⟩ rfl rfl hl.1 (Nat.le_of_ble_eq_true rfl) dX7_loadAll_14) (fun r_3 f2 u2 H locs hp hw => ?_)
    obtain ⟨rfl, rfl, e_3⟩ := hp
    refine topL e_3 ?_
    refine goI hw (runVW (k := 1) (As := [.int am, .long (0 - (am.toInt64 * 1000))]) (rest := []) cx hw (c_X1_loadHeaviestFirst l D a cI cZ f u am (0 - (am.toInt64 * 1000)) h1_12) lk_X7_240 rfl rfl ⟨Nat.le_of_ble_eq_true rfl, Nat.le_of_ble_eq_true rfl⟩ ⟨rfl, rfl⟩ ⟨Nat.zero_le _, Nat.zero_le _⟩ rfl rfl hl.1 (Nat.le_of_ble_eq_true rfl) dX7_loadAll_17) (fun r_4 f2 u2 H locs hp hw => ?_)
    obtain ⟨rfl, rfl, e_4⟩ := hp
    refine topc e_4 ?_
    refine lv_goto (tgt := 25) hx hb dX7_loadAll_20 (by decide) ?_
    exact retI cx hw hr hk dX7_loadAll_25 ⟨(by simp [an_arm, c_2]), KP.rf⟩

set_option maxHeartbeats 4000000 in
set_option maxRecDepth 100000 in
theorem c_X7_better (l : Launch) (D : va_G) (a : Nat → Nat) (cI cZ : ClassId) (f : FF) (u : UU) (am : Int32) (h0_0 : f 0 0 = 1000) (h0_1 : f 0 1 = 0) (h1_12 : f 1 12 = 0) (h2_3 : f 2 3 = 0) (h2_4 : f 2 4 = 80)  : KI l yX7_better cX7_better 5 (some .int) ({ frames := 5, cells := 0, slots := 0, locals := 95 } : Room) D a cI cZ [.ref (a 0), .int am] f u (fun r f2 u2 => (r = an_arm am) ∧ KP f f2) := by
  refine KX.of (by decide) (Nat.le_of_ble_eq_true rfl) ?_
  intro p e s m below meth c cx hw hr hk ls hl
  have cx : Cx p s m _ c cX7_better RX7 5 D cI cZ := cx
  have hl : lv_has ls 5 [(0, .ref (a 0)), (1, .int am)] := hl
  have hx := cx.1.1
  have hb := cx.1.2.1
  refine lv_iload_n hx hb dX7_better_0 rfl (lv_at hl 1 rfl) ?_
  refine goI hw (runSW (As := [.int am]) (rest := []) cx hw (c_X7_isArm l D a cI cZ f u am ) lk_X7_79 ⟨Nat.le_of_ble_eq_true rfl, Nat.le_of_ble_eq_true rfl⟩ ⟨rfl, rfl⟩ ⟨Nat.zero_le _, Nat.zero_le _⟩ rfl rfl hl.1 (Nat.le_of_ble_eq_true rfl) dX7_better_1) (fun r_1 f2 u2 H locs hp hw => ?_)
  obtain ⟨rfl, rfl, e_1⟩ := hp
  refine topc e_1 ?_
  refine lv_if_ne (tgt := 10) hx hb dX7_better_4 (by decide) (fun c_2 => ?_) (fun c_2 => ?_)
  · refine lv_iconst (v := 0) hx hb dX7_better_10 (by decide) ?_
    refine lv_istore_n (lv' := [(2, .int 0), (0, .ref (a 0)), (1, .int am)]) hx hb dX7_better_11 rfl hl (by decide) rfl (fun ls hl => ?_)
    refine lv_iload_n hx hb dX7_better_12 rfl (lv_at hl 0 rfl) ?_
    refine lv_bipush (v := 50) hx hb dX7_better_13 (by decide) ?_
    refine lv_icmp_ge (tgt := 55) hx hb dX7_better_15 (by decide) (fun q => absurd q (by decide)) (fun _ => ?_)
    refine lv_aload_n hx hb dX7_better_18 rfl (lv_at hl 1 rfl) ?_
    refine lv_iload_n hx hb dX7_better_19 rfl (lv_at hl 2 rfl) ?_
    refine goL hw (runVW (k := 0) (As := [.int am]) (rest := []) cx hw (c_X7_lean l D a cI cZ f u am h0_0 h0_1 h1_12 h2_3 h2_4) lk_X7_237 rfl rfl ⟨Nat.le_of_ble_eq_true rfl, Nat.le_of_ble_eq_true rfl⟩ ⟨rfl, rfl⟩ ⟨Nat.zero_le _, Nat.zero_le _⟩ rfl rfl hl.1 (Nat.le_of_ble_eq_true rfl) dX7_better_20) (fun r_4 f2 u2 H locs hp hw => ?_)
    obtain ⟨rfl, rfl, e_4⟩ := hp
    refine topL e_4 ?_
    refine lv_lstore_n (lv' := [(3, .long (0 - (am.toInt64 * 1000))), (2, .int 0), (0, .ref (a 0)), (1, .int am)]) hx hb dX7_better_23 rfl hl (by decide) rfl (fun ls hl => ?_)
    refine lv_aload_n hx hb dX7_better_24 rfl (lv_at hl 2 rfl) ?_
    refine gf_X7_63 cx hw dX7_better_25 ?_
    refine lv_lload_n hx hb dX7_better_28 rfl (lv_at hl 0 rfl) ?_
    refine goI hw (runVW (k := 7) (As := [.long (0 - (am.toInt64 * 1000))]) (rest := []) cx hw (c_X5_doFirstGoodSwap l D a cI cZ f u (0 - (am.toInt64 * 1000)) h1_12) lk_X7_243 rfl rfl ⟨Nat.le_of_ble_eq_true rfl, Nat.le_of_ble_eq_true rfl⟩ ⟨rfl, rfl⟩ ⟨Nat.zero_le _, Nat.zero_le _⟩ rfl rfl hl.1 (Nat.le_of_ble_eq_true rfl) dX7_better_29) (fun r_5 f2 u2 H locs hp hw => ?_)
    obtain ⟨rfl, rfl, e_5⟩ := hp
    refine topc e_5 ?_
    refine lv_if_ne (tgt := 49) hx hb dX7_better_32 (by decide) (fun q => absurd (by decide) q) (fun _ => ?_)
    refine lv_aload_n hx hb dX7_better_35 rfl (lv_at hl 2 rfl) ?_
    refine gf_X7_63 cx hw dX7_better_36 ?_
    refine lv_iload_n hx hb dX7_better_39 rfl (lv_at hl 3 rfl) ?_
    refine lv_lload_n hx hb dX7_better_40 rfl (lv_at hl 0 rfl) ?_
    refine goI hw (runVW (k := 7) (As := [.int am, .long (0 - (am.toInt64 * 1000))]) (rest := []) cx hw (c_X5_doFirstGoodMove l D a cI cZ f u am (0 - (am.toInt64 * 1000)) h1_12) lk_X7_247 rfl rfl ⟨Nat.le_of_ble_eq_true rfl, Nat.le_of_ble_eq_true rfl⟩ ⟨rfl, rfl⟩ ⟨Nat.zero_le _, Nat.zero_le _⟩ rfl rfl hl.1 (Nat.le_of_ble_eq_true rfl) dX7_better_41) (fun r_7 f2 u2 H locs hp hw => ?_)
    obtain ⟨rfl, rfl, e_7⟩ := hp
    refine topc e_7 ?_
    refine lv_if_ne (tgt := 49) hx hb dX7_better_44 (by decide) (fun q => absurd (by decide) q) (fun _ => ?_)
    refine lv_iload_n hx hb dX7_better_47 rfl (lv_at hl 1 rfl) ?_
    exact retI cx hw hr hk dX7_better_48 ⟨(by simp [an_arm, c_2]), KP.rf⟩
  · refine lv_bipush (v := (-2)) hx hb dX7_better_7 (by decide) ?_
    exact retI cx hw hr hk dX7_better_9 ⟨(by simp [an_arm, c_2]), KP.rf⟩

set_option maxHeartbeats 4000000 in
set_option maxRecDepth 100000 in
theorem c_X7_best (l : Launch) (D : va_G) (a : Nat → Nat) (cI cZ : ClassId) (f : FF) (u : UU) (am : Int32) (h1_12 : f 1 12 = 0) (h1_3 : f 1 3 = 0)  : KI l yX7_best cX7_best 2 (some .int) ({ frames := 3, cells := 0, slots := 0, locals := 55 } : Room) D a cI cZ [.ref (a 0), .int am] f u (fun r f2 u2 => (r = an_best am) ∧ KP f f2) := by
  refine KX.of (by decide) (Nat.le_of_ble_eq_true rfl) ?_
  intro p e s m below meth c cx hw hr hk ls hl
  have cx : Cx p s m _ c cX7_best RX7 2 D cI cZ := cx
  have hl : lv_has ls 2 [(0, .ref (a 0)), (1, .int am)] := hl
  have hx := cx.1.1
  have hb := cx.1.2.1
  refine lv_iload_n hx hb dX7_best_0 rfl (lv_at hl 1 rfl) ?_
  refine goI hw (runSW (As := [.int am]) (rest := []) cx hw (c_X7_isArm l D a cI cZ f u am ) lk_X7_79 ⟨Nat.le_of_ble_eq_true rfl, Nat.le_of_ble_eq_true rfl⟩ ⟨rfl, rfl⟩ ⟨Nat.zero_le _, Nat.zero_le _⟩ rfl rfl hl.1 (Nat.le_of_ble_eq_true rfl) dX7_best_1) (fun r_1 f2 u2 H locs hp hw => ?_)
  obtain ⟨rfl, rfl, e_1⟩ := hp
  refine topc e_1 ?_
  refine lv_if_ne (tgt := 10) hx hb dX7_best_4 (by decide) (fun c_2 => ?_) (fun c_2 => ?_)
  · refine lv_aload_n hx hb dX7_best_10 rfl (lv_at hl 0 rfl) ?_
    refine gf_X7_70 cx hw dX7_best_11 ?_
    refine goI hw (runVW (k := 8) (As := []) (rest := []) cx hw (c_X4_gather l D a cI cZ f u  h1_12 h1_3) lk_X7_251 rfl rfl ⟨Nat.le_of_ble_eq_true rfl, Nat.le_of_ble_eq_true rfl⟩ ⟨rfl, rfl⟩ ⟨Nat.zero_le _, Nat.zero_le _⟩ rfl rfl hl.1 (Nat.le_of_ble_eq_true rfl) dX7_best_14) (fun r_3 f_3 u_3 H locs hp_3 hw => ?_)
    refine topc (y := 0) hp_3.1 ?_
    refine lv_if_ne (tgt := 23) hx hb dX7_best_17 (by decide) (fun q => absurd (by decide) q) (fun _ => ?_)
    refine lv_bipush (v := (-3)) hx hb dX7_best_20 (by decide) ?_
    exact retI cx hw hr hk dX7_best_22 ⟨(by simp [an_best, c_2]), (KP.tr KP.rf hp_3.2)⟩
  · refine lv_bipush (v := (-2)) hx hb dX7_best_7 (by decide) ?_
    exact retI cx hw hr hk dX7_best_9 ⟨(by simp [an_best, c_2]), KP.rf⟩

set_option maxHeartbeats 4000000 in
set_option maxRecDepth 100000 in
theorem c_X7_late (l : Launch) (D : va_G) (a : Nat → Nat) (cI cZ : ClassId) (f : FF) (u : UU) (n : Int32) (am : Int32) (h0_0 : f 0 0 = 1000) (h0_1 : f 0 1 = 0) (h1_12 : f 1 12 = 0) (h2_3 : f 2 3 = 0) (h2_4 : f 2 4 = 80)  : KI l yX7_late cX7_late 3 (some .int) ({ frames := 5, cells := 0, slots := 0, locals := 95 } : Room) D a cI cZ [.ref (a 0), .int n, .int am] f u (fun r f2 u2 => (r = an_late n am) ∧ KP f f2) := by
  refine KX.of (by decide) (Nat.le_of_ble_eq_true rfl) ?_
  intro p e s m below meth c cx hw hr hk ls hl
  have cx : Cx p s m _ c cX7_late RX7 3 D cI cZ := cx
  have hl : lv_has ls 3 [(0, .ref (a 0)), (1, .int n), (2, .int am)] := hl
  have hx := cx.1.1
  have hb := cx.1.2.1
  refine lv_iload_n hx hb dX7_late_0 rfl (lv_at hl 1 rfl) ?_
  refine lv_iconst (v := 0) hx hb dX7_late_1 (by decide) ?_
  refine lv_bipush (v := 80) hx hb dX7_late_2 (by decide) ?_
  refine goI hw (runSW (As := [.int n, .int 0, .int 80]) (rest := []) cx hw (c_X7_isFromTo l D a cI cZ f u n 0 80 ) lk_X7_75 ⟨Nat.le_of_ble_eq_true rfl, Nat.le_of_ble_eq_true rfl⟩ ⟨rfl, rfl⟩ ⟨Nat.zero_le _, Nat.zero_le _⟩ rfl rfl hl.1 (Nat.le_of_ble_eq_true rfl) dX7_late_4) (fun r_1 f2 u2 H locs hp hw => ?_)
  obtain ⟨rfl, rfl, e_1⟩ := hp
  refine topc e_1 ?_
  refine lv_if_eq (tgt := 17) hx hb dX7_late_7 (by decide) (fun c_2 => ?_) (fun c_2 => ?_)
  · refine lv_bipush (v := (-2)) hx hb dX7_late_17 (by decide) ?_
    exact retI cx hw hr hk dX7_late_19 ⟨(by simp [an_late, c_2]), KP.rf⟩
  · refine lv_iload_n hx hb dX7_late_10 rfl (lv_at hl 2 rfl) ?_
    refine goI hw (runSW (As := [.int am]) (rest := []) cx hw (c_X7_isArm l D a cI cZ f u am ) lk_X7_79 ⟨Nat.le_of_ble_eq_true rfl, Nat.le_of_ble_eq_true rfl⟩ ⟨rfl, rfl⟩ ⟨Nat.zero_le _, Nat.zero_le _⟩ rfl rfl hl.1 (Nat.le_of_ble_eq_true rfl) dX7_late_11) (fun r_3 f2 u2 H locs hp hw => ?_)
    obtain ⟨rfl, rfl, e_3⟩ := hp
    refine topc e_3 ?_
    refine lv_if_ne (tgt := 20) hx hb dX7_late_14 (by decide) (fun c_4 => ?_) (fun c_4 => ?_)
    · refine lv_aload_n hx hb dX7_late_20 rfl (lv_at hl 0 rfl) ?_
      refine gf_X7_28 cx hw dX7_late_21 ?_
      refine lv_iload_n hx hb dX7_late_24 rfl (lv_at hl 1 rfl) ?_
      refine lv_iload_n hx hb dX7_late_25 rfl (lv_at hl 2 rfl) ?_
      refine lv_aload_n hx hb dX7_late_26 rfl (lv_at hl 0 rfl) ?_
      refine lv_iload_n hx hb dX7_late_27 rfl (lv_at hl 2 rfl) ?_
      refine goL hw (runVW (k := 0) (As := [.int am]) (rest := [.int am, .int n, .ref (a 2)]) cx hw (c_X7_lean l D a cI cZ f u am h0_0 h0_1 h1_12 h2_3 h2_4) lk_X7_237 rfl rfl ⟨Nat.le_of_ble_eq_true rfl, Nat.le_of_ble_eq_true rfl⟩ ⟨rfl, rfl⟩ ⟨Nat.zero_le _, Nat.zero_le _⟩ rfl rfl hl.1 (Nat.le_of_ble_eq_true rfl) dX7_late_28) (fun r_5 f2 u2 H locs hp hw => ?_)
      obtain ⟨rfl, rfl, e_5⟩ := hp
      refine topL e_5 ?_
      refine goI hw (runVW (k := 2) (As := [.int n, .int am, .long (0 - (am.toInt64 * 1000))]) (rest := []) cx hw (c_X0_seatLate l D a cI cZ f u n am (0 - (am.toInt64 * 1000)) h2_3 c_2) lk_X7_258 rfl rfl ⟨Nat.le_of_ble_eq_true rfl, Nat.le_of_ble_eq_true rfl⟩ ⟨rfl, rfl⟩ ⟨Nat.zero_le _, Nat.zero_le _⟩ rfl rfl hl.1 (Nat.le_of_ble_eq_true rfl) dX7_late_31) (fun r_6 f2 u2 H locs hp hw => ?_)
      obtain ⟨rfl, rfl, e_6⟩ := hp
      refine topc e_6 ?_
      exact retI cx hw hr hk dX7_late_34 ⟨(by simp [an_late, c_2, c_4]), KP.rf⟩
    · refine lv_bipush (v := (-2)) hx hb dX7_late_17 (by decide) ?_
      exact retI cx hw hr hk dX7_late_19 ⟨(by simp [an_late, c_2, c_4]), KP.rf⟩

set_option maxHeartbeats 4000000 in
set_option maxRecDepth 100000 in
theorem c_X7_count (l : Launch) (D : va_G) (a : Nat → Nat) (cI cZ : ClassId) (f : FF) (u : UU) (w : Int32) (h1_3 : f 1 3 = 0) (h1_12 : f 1 12 = 0) (h2_3 : f 2 3 = 0) (h3_3 : f 3 3 = 0) (h2_4 : f 2 4 = 80)  : KI l yX7_count cX7_count 2 (some .int) ({ frames := 2, cells := 0, slots := 0, locals := 34 } : Room) D a cI cZ [.ref (a 0), .int w] f u (fun r f2 u2 => (r = an_count w) ∧ KP f f2) := by
  refine KX.of (by decide) (Nat.le_of_ble_eq_true rfl) ?_
  intro p e s m below meth c cx hw hr hk ls hl
  have cx : Cx p s m _ c cX7_count RX7 2 D cI cZ := cx
  have hl : lv_has ls 2 [(0, .ref (a 0)), (1, .int w)] := hl
  have hx := cx.1.1
  have hb := cx.1.2.1
  refine lv_iload_n hx hb dX7_count_0 rfl (lv_at hl 1 rfl) ?_
  rcases Decidable.em (w = 0) with c_1 | c_1
  · refine lv_tableIn (off := 47) (tgt := 48) hx hb dX7_count_1 (by rw [c_1]; decide) (by rw [c_1]; decide) (by rw [c_1]; rfl) (by decide) ?_
    refine lv_aload_n hx hb dX7_count_48 rfl (lv_at hl 0 rfl) ?_
    refine gf_X7_21 cx hw dX7_count_49 ?_
    refine gf_X7_262 cx hw dX7_count_52 ?_
    refine topc (y := 0) h1_3 ?_
    exact retI cx hw hr hk dX7_count_55 ⟨(by simp [an_count, c_1]), KP.rf⟩
  rcases Decidable.em (w = 1) with c_2 | c_2
  · refine lv_tableIn (off := 55) (tgt := 56) hx hb dX7_count_1 (by rw [c_2]; decide) (by rw [c_2]; decide) (by rw [c_2]; rfl) (by decide) ?_
    refine lv_aload_n hx hb dX7_count_56 rfl (lv_at hl 0 rfl) ?_
    refine gf_X7_21 cx hw dX7_count_57 ?_
    refine goI hw (runVW (k := 1) (As := []) (rest := []) cx hw (c_X1_slotsInAll l D a cI cZ f u  h1_3) lk_X7_265 rfl rfl ⟨Nat.le_of_ble_eq_true rfl, Nat.le_of_ble_eq_true rfl⟩ ⟨rfl, rfl⟩ ⟨Nat.zero_le _, Nat.zero_le _⟩ rfl rfl hl.1 (Nat.le_of_ble_eq_true rfl) dX7_count_60) (fun r_3 f2 u2 H locs hp hw => ?_)
    obtain ⟨rfl, rfl, e_3⟩ := hp
    refine topc e_3 ?_
    exact retI cx hw hr hk dX7_count_63 ⟨(by simp [an_count, c_1, c_2]), KP.rf⟩
  rcases Decidable.em (w = 2) with c_4 | c_4
  · refine lv_tableIn (off := 63) (tgt := 64) hx hb dX7_count_1 (by rw [c_4]; decide) (by rw [c_4]; decide) (by rw [c_4]; rfl) (by decide) ?_
    refine lv_aload_n hx hb dX7_count_64 rfl (lv_at hl 0 rfl) ?_
    refine gf_X7_21 cx hw dX7_count_65 ?_
    refine gf_X7_268 cx hw dX7_count_68 ?_
    refine topc (y := 0) h1_12 ?_
    exact retI cx hw hr hk dX7_count_71 ⟨(by simp [an_count, c_1, c_2, c_4]), KP.rf⟩
  rcases Decidable.em (w = 3) with c_5 | c_5
  · refine lv_tableIn (off := 71) (tgt := 72) hx hb dX7_count_1 (by rw [c_5]; decide) (by rw [c_5]; decide) (by rw [c_5]; rfl) (by decide) ?_
    refine lv_aload_n hx hb dX7_count_72 rfl (lv_at hl 0 rfl) ?_
    refine gf_X7_21 cx hw dX7_count_73 ?_
    refine goI hw (runVW (k := 1) (As := []) (rest := []) cx hw (c_X1_loadedInAll l D a cI cZ f u  h1_12) lk_X7_271 rfl rfl ⟨Nat.le_of_ble_eq_true rfl, Nat.le_of_ble_eq_true rfl⟩ ⟨rfl, rfl⟩ ⟨Nat.zero_le _, Nat.zero_le _⟩ rfl rfl hl.1 (Nat.le_of_ble_eq_true rfl) dX7_count_76) (fun r_6 f2 u2 H locs hp hw => ?_)
    obtain ⟨rfl, rfl, e_6⟩ := hp
    refine topc e_6 ?_
    exact retI cx hw hr hk dX7_count_79 ⟨(by simp [an_count, c_1, c_2, c_4, c_5]), KP.rf⟩
  rcases Decidable.em (w = 4) with c_7 | c_7
  · refine lv_tableIn (off := 79) (tgt := 80) hx hb dX7_count_1 (by rw [c_7]; decide) (by rw [c_7]; decide) (by rw [c_7]; rfl) (by decide) ?_
    refine lv_aload_n hx hb dX7_count_80 rfl (lv_at hl 0 rfl) ?_
    refine gf_X7_28 cx hw dX7_count_81 ?_
    refine gf_X7_122 cx hw dX7_count_84 ?_
    refine topc (y := 0) h2_3 ?_
    exact retI cx hw hr hk dX7_count_87 ⟨(by simp [an_count, c_1, c_2, c_4, c_5, c_7]), KP.rf⟩
  rcases Decidable.em (w = 5) with c_8 | c_8
  · refine lv_tableIn (off := 87) (tgt := 88) hx hb dX7_count_1 (by rw [c_8]; decide) (by rw [c_8]; decide) (by rw [c_8]; rfl) (by decide) ?_
    refine lv_aload_n hx hb dX7_count_88 rfl (lv_at hl 0 rfl) ?_
    refine gf_X7_28 cx hw dX7_count_89 ?_
    refine goI hw (runVW (k := 2) (As := []) (rest := []) cx hw (c_X0_passengers l D a cI cZ f u  h2_3) lk_X7_274 rfl rfl ⟨Nat.le_of_ble_eq_true rfl, Nat.le_of_ble_eq_true rfl⟩ ⟨rfl, rfl⟩ ⟨Nat.zero_le _, Nat.zero_le _⟩ rfl rfl hl.1 (Nat.le_of_ble_eq_true rfl) dX7_count_92) (fun r_9 f2 u2 H locs hp hw => ?_)
    obtain ⟨rfl, rfl, e_9⟩ := hp
    refine topc e_9 ?_
    exact retI cx hw hr hk dX7_count_95 ⟨(by simp [an_count, c_1, c_2, c_4, c_5, c_7, c_8]), KP.rf⟩
  rcases Decidable.em (w = 6) with c_10 | c_10
  · refine lv_tableIn (off := 95) (tgt := 96) hx hb dX7_count_1 (by rw [c_10]; decide) (by rw [c_10]; decide) (by rw [c_10]; rfl) (by decide) ?_
    refine lv_aload_n hx hb dX7_count_96 rfl (lv_at hl 0 rfl) ?_
    refine gf_X7_35 cx hw dX7_count_97 ?_
    refine gf_X7_132 cx hw dX7_count_100 ?_
    refine topc (y := 0) h3_3 ?_
    exact retI cx hw hr hk dX7_count_103 ⟨(by simp [an_count, c_1, c_2, c_4, c_5, c_7, c_8, c_10]), KP.rf⟩
  rcases Decidable.em (w = 7) with c_11 | c_11
  · refine lv_tableIn (off := 103) (tgt := 104) hx hb dX7_count_1 (by rw [c_11]; decide) (by rw [c_11]; decide) (by rw [c_11]; rfl) (by decide) ?_
    refine lv_aload_n hx hb dX7_count_104 rfl (lv_at hl 0 rfl) ?_
    refine gf_X7_28 cx hw dX7_count_105 ?_
    refine gf_X7_119 cx hw dX7_count_108 ?_
    refine topc (y := 80) h2_4 ?_
    exact retI cx hw hr hk dX7_count_111 ⟨(by simp [an_count, c_1, c_2, c_4, c_5, c_7, c_8, c_10, c_11]), KP.rf⟩
  refine lv_tableOut (tgt := 112) hx hb dX7_count_1 (by have z0 := lv_neT (a := 0) c_1 rfl; have z1 := lv_neT (a := 1) c_2 rfl; have z2 := lv_neT (a := 2) c_4 rfl; have z3 := lv_neT (a := 3) c_5 rfl; have z4 := lv_neT (a := 4) c_7 rfl; have z5 := lv_neT (a := 5) c_8 rfl; have z6 := lv_neT (a := 6) c_10 rfl; have z7 := lv_neT (a := 7) c_11 rfl; omega) (by decide) ?_
  refine lv_iconst (v := (-1)) hx hb dX7_count_112 (by decide) ?_
  exact retI cx hw hr hk dX7_count_113 ⟨(by simp [an_count, c_1, c_2, c_4, c_5, c_7, c_8, c_10, c_11]), KP.rf⟩
