set_option maxHeartbeats 4000000 in
set_option maxRecDepth 100000 in
theorem c_X7_isFromTo (l : Launch) (D : va_G) (a : Nat → Nat) (cI cZ : ClassId) (f : FF) (u : UU) (v : Int32) (lo : Int32) (hi : Int32)   : KI l yX7_isFromTo cX7_isFromTo 3 (some .boolean) ({ frames := 1, cells := 0, slots := 0, locals := 12 } : Room) D a cI cZ [.int v, .int lo, .int hi] f u (fun r f2 u2 => f = f2 ∧ u = u2 ∧ r = (rg v lo hi)) := by
  refine KX.of (by decide) (Nat.le_of_ble_eq_true rfl) ?_
  intro p e s m below meth c cx hw hr hk ls hl
  have cx : Cx p s m _ c cX7_isFromTo RX7 3 D cI cZ := cx
  have hl : lv_has ls 3 [(0, .int v), (1, .int lo), (2, .int hi)] := hl
  have hx := cx.1.1
  have hb := cx.1.2.1
  refine lv_iload_n hx hb dX7_isFromTo_0 rfl (lv_at hl 0 rfl) ?_
  refine lv_iload_n hx hb dX7_isFromTo_1 rfl (lv_at hl 1 rfl) ?_
  refine lv_icmp_lt (tgt := 14) hx hb dX7_isFromTo_2 (by decide) (fun c_1 => ?_) (fun c_1 => ?_)
  · refine lv_iconst (v := 0) hx hb dX7_isFromTo_14 (by decide) ?_
    exact retZ cx hw hr hk rfl dX7_isFromTo_15 ⟨rfl, rfl, (rg_lo c_1)⟩
  · refine lv_iload_n hx hb dX7_isFromTo_5 rfl (lv_at hl 0 rfl) ?_
    refine lv_iload_n hx hb dX7_isFromTo_6 rfl (lv_at hl 2 rfl) ?_
    refine lv_icmp_gt (tgt := 14) hx hb dX7_isFromTo_7 (by decide) (fun c_2 => ?_) (fun c_2 => ?_)
    · refine lv_iconst (v := 0) hx hb dX7_isFromTo_14 (by decide) ?_
      exact retZ cx hw hr hk rfl dX7_isFromTo_15 ⟨rfl, rfl, (rg_hi c_1 c_2)⟩
    · refine lv_iconst (v := 1) hx hb dX7_isFromTo_10 (by decide) ?_
      refine lv_goto (tgt := 15) hx hb dX7_isFromTo_11 (by decide) ?_
      exact retZ cx hw hr hk rfl dX7_isFromTo_15 ⟨rfl, rfl, (rg_in c_1 c_2)⟩

set_option maxHeartbeats 4000000 in
set_option maxRecDepth 100000 in
theorem c_X8_isIn (l : Launch) (D : va_G) (a : Nat → Nat) (cI cZ : ClassId) (f : FF) (u : UU) (v : Int32) (lo : Int32) (hi : Int32)   : KI l yX8_isIn cX8_isIn 3 (some .boolean) ({ frames := 1, cells := 0, slots := 0, locals := 12 } : Room) D a cI cZ [.int v, .int lo, .int hi] f u (fun r f2 u2 => f = f2 ∧ u = u2 ∧ r = (rg v lo hi)) := by
  refine KX.of (by decide) (Nat.le_of_ble_eq_true rfl) ?_
  intro p e s m below meth c cx hw hr hk ls hl
  have cx : Cx p s m _ c cX8_isIn RX8 3 D cI cZ := cx
  have hl : lv_has ls 3 [(0, .int v), (1, .int lo), (2, .int hi)] := hl
  have hx := cx.1.1
  have hb := cx.1.2.1
  refine lv_iload_n hx hb dX8_isIn_0 rfl (lv_at hl 0 rfl) ?_
  refine lv_iload_n hx hb dX8_isIn_1 rfl (lv_at hl 1 rfl) ?_
  refine lv_icmp_lt (tgt := 14) hx hb dX8_isIn_2 (by decide) (fun c_1 => ?_) (fun c_1 => ?_)
  · refine lv_iconst (v := 0) hx hb dX8_isIn_14 (by decide) ?_
    exact retZ cx hw hr hk rfl dX8_isIn_15 ⟨rfl, rfl, (rg_lo c_1)⟩
  · refine lv_iload_n hx hb dX8_isIn_5 rfl (lv_at hl 0 rfl) ?_
    refine lv_iload_n hx hb dX8_isIn_6 rfl (lv_at hl 2 rfl) ?_
    refine lv_icmp_gt (tgt := 14) hx hb dX8_isIn_7 (by decide) (fun c_2 => ?_) (fun c_2 => ?_)
    · refine lv_iconst (v := 0) hx hb dX8_isIn_14 (by decide) ?_
      exact retZ cx hw hr hk rfl dX8_isIn_15 ⟨rfl, rfl, (rg_hi c_1 c_2)⟩
    · refine lv_iconst (v := 1) hx hb dX8_isIn_10 (by decide) ?_
      refine lv_goto (tgt := 15) hx hb dX8_isIn_11 (by decide) ?_
      exact retZ cx hw hr hk rfl dX8_isIn_15 ⟨rfl, rfl, (rg_in c_1 c_2)⟩

set_option maxHeartbeats 4000000 in
set_option maxRecDepth 100000 in
theorem c_X7_isArm (l : Launch) (D : va_G) (a : Nat → Nat) (cI cZ : ClassId) (f : FF) (u : UU) (v : Int32)   : KI l yX7_isArm cX7_isArm 1 (some .boolean) ({ frames := 2, cells := 0, slots := 0, locals := 34 } : Room) D a cI cZ [.int v] f u (fun r f2 u2 => f = f2 ∧ u = u2 ∧ r = (rg v 0 5000)) := by
  refine KX.of (by decide) (Nat.le_of_ble_eq_true rfl) ?_
  intro p e s m below meth c cx hw hr hk ls hl
  have cx : Cx p s m _ c cX7_isArm RX7 1 D cI cZ := cx
  have hl : lv_has ls 1 [(0, .int v)] := hl
  have hx := cx.1.1
  have hb := cx.1.2.1
  refine lv_iload_n hx hb dX7_isArm_0 rfl (lv_at hl 0 rfl) ?_
  refine lv_iconst (v := 0) hx hb dX7_isArm_1 (by decide) ?_
  refine lv_sipush (v := 5000) hx hb dX7_isArm_2 (by decide) ?_
  refine goI hw (runSW (As := [.int v, .int 0, .int 5000]) (rest := []) cx hw (c_X7_isFromTo l D a cI cZ f u v 0 5000 ) lk_X7_75 ⟨Nat.le_of_ble_eq_true rfl, Nat.le_of_ble_eq_true rfl⟩ ⟨rfl, rfl⟩ ⟨Nat.zero_le _, Nat.zero_le _⟩ rfl rfl hl.1 (Nat.le_of_ble_eq_true rfl) dX7_isArm_5) (fun r_1 f2 u2 H locs hp hw => ?_)
  obtain ⟨rfl, rfl, e_1⟩ := hp
  refine topc e_1 ?_
  exact retZ cx hw hr hk (nar_rg _ _ _) dX7_isArm_8 ⟨rfl, rfl, rfl⟩

set_option maxHeartbeats 4000000 in
set_option maxRecDepth 100000 in
theorem c_X7_isBorne (l : Launch) (D : va_G) (a : Nat → Nat) (cI cZ : ClassId) (f : FF) (u : UU) (v : Int32)   : KI l yX7_isBorne cX7_isBorne 1 (some .boolean) ({ frames := 2, cells := 0, slots := 0, locals := 34 } : Room) D a cI cZ [.int v] f u (fun r f2 u2 => f = f2 ∧ u = u2 ∧ r = (rg v 0 20000)) := by
  refine KX.of (by decide) (Nat.le_of_ble_eq_true rfl) ?_
  intro p e s m below meth c cx hw hr hk ls hl
  have cx : Cx p s m _ c cX7_isBorne RX7 1 D cI cZ := cx
  have hl : lv_has ls 1 [(0, .int v)] := hl
  have hx := cx.1.1
  have hb := cx.1.2.1
  refine lv_iload_n hx hb dX7_isBorne_0 rfl (lv_at hl 0 rfl) ?_
  refine lv_iconst (v := 0) hx hb dX7_isBorne_1 (by decide) ?_
  refine lv_sipush (v := 20000) hx hb dX7_isBorne_2 (by decide) ?_
  refine goI hw (runSW (As := [.int v, .int 0, .int 20000]) (rest := []) cx hw (c_X7_isFromTo l D a cI cZ f u v 0 20000 ) lk_X7_75 ⟨Nat.le_of_ble_eq_true rfl, Nat.le_of_ble_eq_true rfl⟩ ⟨rfl, rfl⟩ ⟨Nat.zero_le _, Nat.zero_le _⟩ rfl rfl hl.1 (Nat.le_of_ble_eq_true rfl) dX7_isBorne_5) (fun r_1 f2 u2 H locs hp hw => ?_)
  obtain ⟨rfl, rfl, e_1⟩ := hp
  refine topc e_1 ?_
  exact retZ cx hw hr hk (nar_rg _ _ _) dX7_isBorne_8 ⟨rfl, rfl, rfl⟩

set_option maxHeartbeats 4000000 in
set_option maxRecDepth 100000 in
theorem c_X7_isKind (l : Launch) (D : va_G) (a : Nat → Nat) (cI cZ : ClassId) (f : FF) (u : UU) (v : Int32)   : KI l yX7_isKind cX7_isKind 1 (some .boolean) ({ frames := 2, cells := 0, slots := 0, locals := 34 } : Room) D a cI cZ [.int v] f u (fun r f2 u2 => f = f2 ∧ u = u2 ∧ r = (rg v 0 7)) := by
  refine KX.of (by decide) (Nat.le_of_ble_eq_true rfl) ?_
  intro p e s m below meth c cx hw hr hk ls hl
  have cx : Cx p s m _ c cX7_isKind RX7 1 D cI cZ := cx
  have hl : lv_has ls 1 [(0, .int v)] := hl
  have hx := cx.1.1
  have hb := cx.1.2.1
  refine lv_iload_n hx hb dX7_isKind_0 rfl (lv_at hl 0 rfl) ?_
  refine lv_iconst (v := 0) hx hb dX7_isKind_1 (by decide) ?_
  refine lv_bipush (v := 7) hx hb dX7_isKind_2 (by decide) ?_
  refine goI hw (runSW (As := [.int v, .int 0, .int 7]) (rest := []) cx hw (c_X7_isFromTo l D a cI cZ f u v 0 7 ) lk_X7_75 ⟨Nat.le_of_ble_eq_true rfl, Nat.le_of_ble_eq_true rfl⟩ ⟨rfl, rfl⟩ ⟨Nat.zero_le _, Nat.zero_le _⟩ rfl rfl hl.1 (Nat.le_of_ble_eq_true rfl) dX7_isKind_4) (fun r_1 f2 u2 H locs hp hw => ?_)
  obtain ⟨rfl, rfl, e_1⟩ := hp
  refine topc e_1 ?_
  exact retZ cx hw hr hk (nar_rg _ _ _) dX7_isKind_7 ⟨rfl, rfl, rfl⟩

set_option maxHeartbeats 4000000 in
set_option maxRecDepth 100000 in
theorem c_X7_isStop (l : Launch) (D : va_G) (a : Nat → Nat) (cI cZ : ClassId) (f : FF) (u : UU) (v : Int32)   : KI l yX7_isStop cX7_isStop 1 (some .boolean) ({ frames := 2, cells := 0, slots := 0, locals := 34 } : Room) D a cI cZ [.int v] f u (fun r f2 u2 => f = f2 ∧ u = u2 ∧ r = (rg v 1 4)) := by
  refine KX.of (by decide) (Nat.le_of_ble_eq_true rfl) ?_
  intro p e s m below meth c cx hw hr hk ls hl
  have cx : Cx p s m _ c cX7_isStop RX7 1 D cI cZ := cx
  have hl : lv_has ls 1 [(0, .int v)] := hl
  have hx := cx.1.1
  have hb := cx.1.2.1
  refine lv_iload_n hx hb dX7_isStop_0 rfl (lv_at hl 0 rfl) ?_
  refine lv_iconst (v := 1) hx hb dX7_isStop_1 (by decide) ?_
  refine lv_iconst (v := 4) hx hb dX7_isStop_2 (by decide) ?_
  refine goI hw (runSW (As := [.int v, .int 1, .int 4]) (rest := []) cx hw (c_X7_isFromTo l D a cI cZ f u v 1 4 ) lk_X7_75 ⟨Nat.le_of_ble_eq_true rfl, Nat.le_of_ble_eq_true rfl⟩ ⟨rfl, rfl⟩ ⟨Nat.zero_le _, Nat.zero_le _⟩ rfl rfl hl.1 (Nat.le_of_ble_eq_true rfl) dX7_isStop_3) (fun r_1 f2 u2 H locs hp hw => ?_)
  obtain ⟨rfl, rfl, e_1⟩ := hp
  refine topc e_1 ?_
  exact retZ cx hw hr hk (nar_rg _ _ _) dX7_isStop_6 ⟨rfl, rfl, rfl⟩

set_option maxHeartbeats 4000000 in
set_option maxRecDepth 100000 in
theorem c_X8_isArm (l : Launch) (D : va_G) (a : Nat → Nat) (cI cZ : ClassId) (f : FF) (u : UU) (v : Int32)   : KI l yX8_isArm cX8_isArm 1 (some .boolean) ({ frames := 2, cells := 0, slots := 0, locals := 34 } : Room) D a cI cZ [.int v] f u (fun r f2 u2 => f = f2 ∧ u = u2 ∧ r = (rg v 0 5000)) := by
  refine KX.of (by decide) (Nat.le_of_ble_eq_true rfl) ?_
  intro p e s m below meth c cx hw hr hk ls hl
  have cx : Cx p s m _ c cX8_isArm RX8 1 D cI cZ := cx
  have hl : lv_has ls 1 [(0, .int v)] := hl
  have hx := cx.1.1
  have hb := cx.1.2.1
  refine lv_iload_n hx hb dX8_isArm_0 rfl (lv_at hl 0 rfl) ?_
  refine lv_iconst (v := 0) hx hb dX8_isArm_1 (by decide) ?_
  refine lv_sipush (v := 5000) hx hb dX8_isArm_2 (by decide) ?_
  refine goI hw (runSW (As := [.int v, .int 0, .int 5000]) (rest := []) cx hw (c_X8_isIn l D a cI cZ f u v 0 5000 ) lk_X8_95 ⟨Nat.le_of_ble_eq_true rfl, Nat.le_of_ble_eq_true rfl⟩ ⟨rfl, rfl⟩ ⟨Nat.zero_le _, Nat.zero_le _⟩ rfl rfl hl.1 (Nat.le_of_ble_eq_true rfl) dX8_isArm_5) (fun r_1 f2 u2 H locs hp hw => ?_)
  obtain ⟨rfl, rfl, e_1⟩ := hp
  refine topc e_1 ?_
  exact retZ cx hw hr hk (nar_rg _ _ _) dX8_isArm_8 ⟨rfl, rfl, rfl⟩

set_option maxHeartbeats 4000000 in
set_option maxRecDepth 100000 in
theorem c_X7_isPhase (l : Launch) (D : va_G) (a : Nat → Nat) (cI cZ : ClassId) (f : FF) (u : UU) (v : Int32)   : KI l yX7_isPhase cX7_isPhase 1 (some .boolean) ({ frames := 1, cells := 0, slots := 0, locals := 12 } : Room) D a cI cZ [.int v] f u (fun r f2 u2 => f = f2 ∧ u = u2 ∧ r = (rg v 0 1)) := by
  refine KX.of (by decide) (Nat.le_of_ble_eq_true rfl) ?_
  intro p e s m below meth c cx hw hr hk ls hl
  have cx : Cx p s m _ c cX7_isPhase RX7 1 D cI cZ := cx
  have hl : lv_has ls 1 [(0, .int v)] := hl
  have hx := cx.1.1
  have hb := cx.1.2.1
  refine lv_iload_n hx hb dX7_isPhase_0 rfl (lv_at hl 0 rfl) ?_
  refine lv_if_eq (tgt := 9) hx hb dX7_isPhase_1 (by decide) (fun c_1 => ?_) (fun c_1 => ?_)
  · refine lv_iconst (v := 1) hx hb dX7_isPhase_9 (by decide) ?_
    refine lv_goto (tgt := 14) hx hb dX7_isPhase_10 (by decide) ?_
    exact retZ cx hw hr hk rfl dX7_isPhase_14 ⟨rfl, rfl, (rg_ph1 c_1)⟩
  · refine lv_iload_n hx hb dX7_isPhase_4 rfl (lv_at hl 0 rfl) ?_
    refine lv_iconst (v := 1) hx hb dX7_isPhase_5 (by decide) ?_
    refine lv_icmp_ne (tgt := 13) hx hb dX7_isPhase_6 (by decide) (fun c_2 => ?_) (fun c_2 => ?_)
    · refine lv_iconst (v := 0) hx hb dX7_isPhase_13 (by decide) ?_
      exact retZ cx hw hr hk rfl dX7_isPhase_14 ⟨rfl, rfl, (rg_ph3 c_1 c_2)⟩
    · refine lv_iconst (v := 1) hx hb dX7_isPhase_9 (by decide) ?_
      refine lv_goto (tgt := 14) hx hb dX7_isPhase_10 (by decide) ?_
      exact retZ cx hw hr hk rfl dX7_isPhase_14 ⟨rfl, rfl, (rg_ph2 c_1 c_2)⟩

set_option maxHeartbeats 4000000 in
set_option maxRecDepth 100000 in
theorem c_X7_limitsOf_4 (l : Launch) (D : va_G) (a : Nat → Nat) (cI cZ : ClassId) (f : FF) (u : UU)    : KR l yX7_limitsOf cX7_limitsOf 2 (some (.object "TrimSheet$Limits")) ({ frames := 1, cells := 0, slots := 0, locals := 12 } : Room) D a cI cZ [.ref (a 0), .int 0] f u (fun r f2 u2 => f = f2 ∧ u = u2 ∧ r = 4) := by
  refine KX.of (by decide) (Nat.le_of_ble_eq_true rfl) ?_
  intro p e s m below meth c cx hw hr hk ls hl
  have cx : Cx p s m _ c cX7_limitsOf RX7 2 D cI cZ := cx
  have hl : lv_has ls 2 [(0, .ref (a 0)), (1, .int 0)] := hl
  have hx := cx.1.1
  have hb := cx.1.2.1
  refine lv_iload_n hx hb dX7_limitsOf_0 rfl (lv_at hl 1 rfl) ?_
  refine lv_if_ne (tgt := 11) hx hb dX7_limitsOf_1 (by decide) (fun q => absurd (by decide) q) (fun _ => ?_)
  refine lv_aload_n hx hb dX7_limitsOf_4 rfl (lv_at hl 0 rfl) ?_
  refine gf_X7_42 cx hw dX7_limitsOf_5 ?_
  refine lv_goto (tgt := 15) hx hb dX7_limitsOf_8 (by decide) ?_
  exact retR (k := 4) cx hw hr hk dX7_limitsOf_15 ⟨rfl, rfl, rfl⟩

set_option maxHeartbeats 4000000 in
set_option maxRecDepth 100000 in
theorem c_X7_limitsOf_5 (l : Launch) (D : va_G) (a : Nat → Nat) (cI cZ : ClassId) (f : FF) (u : UU)    : KR l yX7_limitsOf cX7_limitsOf 2 (some (.object "TrimSheet$Limits")) ({ frames := 1, cells := 0, slots := 0, locals := 12 } : Room) D a cI cZ [.ref (a 0), .int 1] f u (fun r f2 u2 => f = f2 ∧ u = u2 ∧ r = 5) := by
  refine KX.of (by decide) (Nat.le_of_ble_eq_true rfl) ?_
  intro p e s m below meth c cx hw hr hk ls hl
  have cx : Cx p s m _ c cX7_limitsOf RX7 2 D cI cZ := cx
  have hl : lv_has ls 2 [(0, .ref (a 0)), (1, .int 1)] := hl
  have hx := cx.1.1
  have hb := cx.1.2.1
  refine lv_iload_n hx hb dX7_limitsOf_0 rfl (lv_at hl 1 rfl) ?_
  refine lv_if_ne (tgt := 11) hx hb dX7_limitsOf_1 (by decide) (fun _ => ?_) (fun q => absurd q (by decide))
  refine lv_aload_n hx hb dX7_limitsOf_11 rfl (lv_at hl 0 rfl) ?_
  refine gf_X7_46 cx hw dX7_limitsOf_12 ?_
  exact retR (k := 5) cx hw hr hk dX7_limitsOf_15 ⟨rfl, rfl, rfl⟩
