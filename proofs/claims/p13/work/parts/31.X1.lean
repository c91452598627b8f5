set_option maxHeartbeats 4000000 in
set_option maxRecDepth 100000 in
theorem k_X1_placeOf (l : Launch) (D : va_G) (a : Nat → Nat) (cI cZ : ClassId) (f : FF) (u : UU) (h : Nat) (k : Nat)  : KI l yX1_placeOf cX1_placeOf 2 (some .int) ({ frames := 1, cells := 0, slots := 0, locals := 12 } : Room) D a cI cZ [.int (nI h), .int (nI k)] f u (fun r f2 u2 => f = f2 ∧ u = u2 ∧ ((r = nI (h * 8 + k)))) := by
  refine KX.of (by decide) (Nat.le_of_ble_eq_true rfl) ?_
  intro p e s m below meth c cx hw hr hk ls hl
  have cx : Cx p s m _ c cX1_placeOf RX1 2 D cI cZ := cx
  have hl : lv_has ls 2 [(0, .int (nI h)), (1, .int (nI k))] := hl
  have hx := cx.1.1
  have hb := cx.1.2.1
  refine lv_iload_n hx hb dX1_placeOf_0 rfl (lv_at hl 0 rfl) ?_
  refine lv_bipush (v := 8) hx hb dX1_placeOf_1 (by decide) ?_
  refine lv_imul hx hb dX1_placeOf_3 ?_
  refine topc (y := (nI (h * 8))) (pk_mul h 8) ?_
  refine lv_iload_n hx hb dX1_placeOf_4 rfl (lv_at hl 1 rfl) ?_
  refine lv_iadd hx hb dX1_placeOf_5 ?_
  refine topc (y := (nI ((h * 8) + k))) (nI_add (h * 8) k) ?_
  exact retI cx hw hr hk dX1_placeOf_6 ⟨rfl, rfl, rfl⟩

set_option maxHeartbeats 4000000 in
set_option maxRecDepth 100000 in
theorem k_X1_hasHold (l : Launch) (D : va_G) (a : Nat → Nat) (cI cZ : ClassId) (f : FF) (u : UU) (h : Int32) (hi : IV f)  : KI l yX1_hasHold cX1_hasHold 2 (some .boolean) ({ frames := 1, cells := 0, slots := 0, locals := 12 } : Room) D a cI cZ [.ref (a 1), .int h] f u (fun r f2 u2 => f = f2 ∧ u = u2 ∧ ((r = 0 ∧ rg h 0 (f 1 3 - 1) = 0) ∨ (r = 1 ∧ ∃ j c, j < c ∧ c ≤ 4 ∧ f 1 3 = nI c ∧ h = nI j))) := by
  refine KX.of (by decide) (Nat.le_of_ble_eq_true rfl) ?_
  intro p e s m below meth c cx hw hr hk ls hl
  have cx : Cx p s m _ c cX1_hasHold RX1 2 D cI cZ := cx
  have hl : lv_has ls 2 [(0, .ref (a 1)), (1, .int h)] := hl
  have hx := cx.1.1
  have hb := cx.1.2.1
  refine lv_iload_n hx hb dX1_hasHold_0 rfl (lv_at hl 1 rfl) ?_
  refine lv_if_lt (tgt := 16) hx hb dX1_hasHold_1 (by decide) (fun c_1 => ?_) (fun c_1 => ?_)
  · refine lv_iconst (v := 0) hx hb dX1_hasHold_16 (by decide) ?_
    exact retZ cx hw hr hk rfl dX1_hasHold_17 ⟨rfl, rfl, Or.inl ⟨rfl, rg_neg c_1⟩⟩
  · obtain ⟨t_1, ht_1, et_1⟩ := nI_of c_1
    subst et_1
    refine lv_iload_n hx hb dX1_hasHold_4 rfl (lv_at hl 1 rfl) ?_
    refine lv_aload_n hx hb dX1_hasHold_5 rfl (lv_at hl 0 rfl) ?_
    refine gf_X1_21 cx hw dX1_hasHold_6 ?_
    obtain ⟨n_2, hn_2, en_2⟩ := IV.s_1_3 hi
    refine topc (y := (nI n_2)) en_2 ?_
    refine lv_icmp_ge (tgt := 16) hx hb dX1_hasHold_9 (by decide) (fun c_3 => ?_) (fun c_3 => ?_)
    · have c_3 : n_2 ≤ t_1 := (nI_leI (a := n_2) (b := t_1) (by omega) (by omega)).mp c_3
      refine lv_iconst (v := 0) hx hb dX1_hasHold_16 (by decide) ?_
      exact retZ cx hw hr hk rfl dX1_hasHold_17 ⟨rfl, rfl, Or.inl ⟨rfl, by rw [en_2]; exact rg_big (by omega) (by omega)⟩⟩
    · have c_3 : ¬ n_2 ≤ t_1 := fun z => c_3 ((nI_leI (a := n_2) (b := t_1) (by omega) (by omega)).mpr z)
      refine lv_iconst (v := 1) hx hb dX1_hasHold_12 (by decide) ?_
      refine lv_goto (tgt := 17) hx hb dX1_hasHold_13 (by decide) ?_
      exact retZ cx hw hr hk rfl dX1_hasHold_17 ⟨rfl, rfl, Or.inr ⟨rfl, t_1, n_2, by omega, by omega, en_2, rfl⟩⟩

set_option maxHeartbeats 4000000 in
set_option maxRecDepth 100000 in
theorem k_X1_hasItem (l : Launch) (D : va_G) (a : Nat → Nat) (cI cZ : ClassId) (f : FF) (u : UU) (h : Int32) (hi : IV f)  : KI l yX1_hasItem cX1_hasItem 2 (some .boolean) ({ frames := 1, cells := 0, slots := 0, locals := 12 } : Room) D a cI cZ [.ref (a 1), .int h] f u (fun r f2 u2 => f = f2 ∧ u = u2 ∧ ((r = 0) ∨ (r = 1 ∧ ∃ j c, j < c ∧ c ≤ 40 ∧ f 1 12 = nI c ∧ h = nI j))) := by
  refine KX.of (by decide) (Nat.le_of_ble_eq_true rfl) ?_
  intro p e s m below meth c cx hw hr hk ls hl
  have cx : Cx p s m _ c cX1_hasItem RX1 2 D cI cZ := cx
  have hl : lv_has ls 2 [(0, .ref (a 1)), (1, .int h)] := hl
  have hx := cx.1.1
  have hb := cx.1.2.1
  refine lv_iload_n hx hb dX1_hasItem_0 rfl (lv_at hl 1 rfl) ?_
  refine lv_if_lt (tgt := 16) hx hb dX1_hasItem_1 (by decide) (fun c_1 => ?_) (fun c_1 => ?_)
  · refine lv_iconst (v := 0) hx hb dX1_hasItem_16 (by decide) ?_
    exact retZ cx hw hr hk rfl dX1_hasItem_17 ⟨rfl, rfl, Or.inl rfl⟩
  · obtain ⟨t_1, ht_1, et_1⟩ := nI_of c_1
    subst et_1
    refine lv_iload_n hx hb dX1_hasItem_4 rfl (lv_at hl 1 rfl) ?_
    refine lv_aload_n hx hb dX1_hasItem_5 rfl (lv_at hl 0 rfl) ?_
    refine gf_X1_49 cx hw dX1_hasItem_6 ?_
    obtain ⟨n_2, hn_2, en_2⟩ := IV.s_1_12 hi
    refine topc (y := (nI n_2)) en_2 ?_
    refine lv_icmp_ge (tgt := 16) hx hb dX1_hasItem_9 (by decide) (fun c_3 => ?_) (fun c_3 => ?_)
    · have c_3 : n_2 ≤ t_1 := (nI_leI (a := n_2) (b := t_1) (by omega) (by omega)).mp c_3
      refine lv_iconst (v := 0) hx hb dX1_hasItem_16 (by decide) ?_
      exact retZ cx hw hr hk rfl dX1_hasItem_17 ⟨rfl, rfl, Or.inl rfl⟩
    · have c_3 : ¬ n_2 ≤ t_1 := fun z => c_3 ((nI_leI (a := n_2) (b := t_1) (by omega) (by omega)).mpr z)
      refine lv_iconst (v := 1) hx hb dX1_hasItem_12 (by decide) ?_
      refine lv_goto (tgt := 17) hx hb dX1_hasItem_13 (by decide) ?_
      exact retZ cx hw hr hk rfl dX1_hasItem_17 ⟨rfl, rfl, Or.inr ⟨rfl, t_1, n_2, by omega, by omega, en_2, rfl⟩⟩

set_option maxHeartbeats 4000000 in
set_option maxRecDepth 100000 in
theorem k_X1_hasSlot (l : Launch) (D : va_G) (a : Nat → Nat) (cI cZ : ClassId) (f : FF) (u : UU) (h : Int32) (k : Int32) (hi : IV f)  : KI l yX1_hasSlot cX1_hasSlot 3 (some .boolean) ({ frames := 2, cells := 0, slots := 0, locals := 33 } : Room) D a cI cZ [.ref (a 1), .int h, .int k] f u (fun r f2 u2 => f = f2 ∧ u = u2 ∧ ((r = 0) ∨ (r = 1 ∧ ∃ j k1 c d, j < c ∧ c ≤ 4 ∧ f 1 3 = nI c ∧ k1 < d ∧ d ≤ 8 ∧ f 11 j = nI d ∧ h = nI j ∧ k = nI k1))) := by
  refine KX.of (by decide) (Nat.le_of_ble_eq_true rfl) ?_
  intro p e s m below meth c cx hw hr hk ls hl
  have cx : Cx p s m _ c cX1_hasSlot RX1 3 D cI cZ := cx
  have hl : lv_has ls 3 [(0, .ref (a 1)), (1, .int h), (2, .int k)] := hl
  have hx := cx.1.1
  have hb := cx.1.2.1
  refine lv_aload_n hx hb dX1_hasSlot_0 rfl (lv_at hl 0 rfl) ?_
  refine lv_iload_n hx hb dX1_hasSlot_1 rfl (lv_at hl 1 rfl) ?_
  refine goI hw (runVW (k := 1) (As := [.int h]) (rest := []) cx hw (k_X1_hasHold l D a cI cZ f u h  hi) lk_X1_61 rfl rfl ⟨Nat.le_of_ble_eq_true rfl, Nat.le_of_ble_eq_true rfl⟩ ⟨rfl, rfl⟩ ⟨Nat.zero_le _, Nat.zero_le _⟩ rfl rfl hl.1 (Nat.le_of_ble_eq_true rfl) dX1_hasSlot_2) (fun r_1 f_1 u_1 H locs hp_1 hw => ?_)
  obtain ⟨rfl, rfl, ha_1⟩ := hp_1
  rcases ha_1 with ⟨er_1, q0_1_0⟩ | ⟨er_1, b1_1_j, b1_1_c, q1_1_0, q1_1_1, q1_1_2, q1_1_3⟩
  · subst er_1
    refine lv_if_eq (tgt := 26) hx hb dX1_hasSlot_5 (by decide) (fun _ => ?_) (fun q => absurd (by decide) q)
    refine lv_iconst (v := 0) hx hb dX1_hasSlot_26 (by decide) ?_
    exact retZ cx hw hr hk rfl dX1_hasSlot_27 ⟨rfl, rfl, Or.inl rfl⟩
  · subst er_1
    subst q1_1_3
    refine lv_if_eq (tgt := 26) hx hb dX1_hasSlot_5 (by decide) (fun q => absurd q (by decide)) (fun _ => ?_)
    refine lv_iload_n hx hb dX1_hasSlot_8 rfl (lv_at hl 2 rfl) ?_
    refine lv_if_lt (tgt := 26) hx hb dX1_hasSlot_9 (by decide) (fun c_4 => ?_) (fun c_4 => ?_)
    · refine lv_iconst (v := 0) hx hb dX1_hasSlot_26 (by decide) ?_
      exact retZ cx hw hr hk rfl dX1_hasSlot_27 ⟨rfl, rfl, Or.inl rfl⟩
    · obtain ⟨t_4, ht_4, et_4⟩ := nI_of c_4
      subst et_4
      refine lv_iload_n hx hb dX1_hasSlot_12 rfl (lv_at hl 2 rfl) ?_
      refine lv_aload_n hx hb dX1_hasSlot_13 rfl (lv_at hl 0 rfl) ?_
      refine gf_X1_18 cx hw dX1_hasSlot_14 ?_
      refine lv_iload_n hx hb dX1_hasSlot_17 rfl (lv_at hl 1 rfl) ?_
      refine aldN 11 b1_1_j cx hw rfl (by omega) (by decide) dX1_hasSlot_18 ?_
      obtain ⟨n_5, hn_5, en_5⟩ := IV.a_11 hi (i := b1_1_j) (by omega)
      refine topc (y := (nI n_5)) en_5 ?_
      refine lv_icmp_ge (tgt := 26) hx hb dX1_hasSlot_19 (by decide) (fun c_6 => ?_) (fun c_6 => ?_)
      · have c_6 : n_5 ≤ t_4 := (nI_leI (a := n_5) (b := t_4) (by omega) (by omega)).mp c_6
        refine lv_iconst (v := 0) hx hb dX1_hasSlot_26 (by decide) ?_
        exact retZ cx hw hr hk rfl dX1_hasSlot_27 ⟨rfl, rfl, Or.inl rfl⟩
      · have c_6 : ¬ n_5 ≤ t_4 := fun z => c_6 ((nI_leI (a := n_5) (b := t_4) (by omega) (by omega)).mpr z)
        refine lv_iconst (v := 1) hx hb dX1_hasSlot_22 (by decide) ?_
        refine lv_goto (tgt := 27) hx hb dX1_hasSlot_23 (by decide) ?_
        exact retZ cx hw hr hk rfl dX1_hasSlot_27 ⟨rfl, rfl, Or.inr ⟨rfl, b1_1_j, t_4, b1_1_c, n_5, by omega, by omega, q1_1_2, by omega, by omega, en_5, rfl, rfl⟩⟩

set_option maxHeartbeats 4000000 in
set_option maxRecDepth 100000 in
theorem k_X1_isLoaded (l : Launch) (D : va_G) (a : Nat → Nat) (cI cZ : ClassId) (f : FF) (u : UU) (i : Nat) (hi : IV f) (h_i : i < 40) : KI l yX1_isLoaded cX1_isLoaded 2 (some .boolean) ({ frames := 1, cells := 0, slots := 0, locals := 12 } : Room) D a cI cZ [.ref (a 1), .int (nI i)] f u (fun r f2 u2 => f = f2 ∧ u = u2 ∧ ((r = 0 ∧ f 18 i = (-1)) ∨ (r = 1 ∧ ∃ j, j < 32 ∧ f 18 i = nI j))) := by
  refine KX.of (by decide) (Nat.le_of_ble_eq_true rfl) ?_
  intro p e s m below meth c cx hw hr hk ls hl
  have cx : Cx p s m _ c cX1_isLoaded RX1 2 D cI cZ := cx
  have hl : lv_has ls 2 [(0, .ref (a 1)), (1, .int (nI i))] := hl
  have hx := cx.1.1
  have hb := cx.1.2.1
  refine lv_aload_n hx hb dX1_isLoaded_0 rfl (lv_at hl 0 rfl) ?_
  refine gf_X1_43 cx hw dX1_isLoaded_1 ?_
  refine lv_iload_n hx hb dX1_isLoaded_4 rfl (lv_at hl 1 rfl) ?_
  refine aldN 18 i cx hw rfl (by omega) (by decide) dX1_isLoaded_5 ?_
  rcases IV.a_18 hi (i := i) (by omega) with en_1 | ⟨n_1, hn_1, en_1⟩
  · refine topc (y := (-1)) en_1 ?_
    refine lv_iconst (v := (-1)) hx hb dX1_isLoaded_6 (by decide) ?_
    refine lv_icmp_eq (tgt := 14) hx hb dX1_isLoaded_7 (by decide) (fun _ => ?_) (fun q => absurd (by decide) q)
    refine lv_iconst (v := 0) hx hb dX1_isLoaded_14 (by decide) ?_
    exact retZ cx hw hr hk rfl dX1_isLoaded_15 ⟨rfl, rfl, Or.inl ⟨rfl, en_1⟩⟩
  · refine topc (y := (nI n_1)) en_1 ?_
    refine lv_iconst (v := (-1)) hx hb dX1_isLoaded_6 (by decide) ?_
    refine lv_icmp_eq (tgt := 14) hx hb dX1_isLoaded_7 (by decide) (fun q => absurd q (nI_m1 (by omega))) (fun _ => ?_)
    refine lv_iconst (v := 1) hx hb dX1_isLoaded_10 (by decide) ?_
    refine lv_goto (tgt := 15) hx hb dX1_isLoaded_11 (by decide) ?_
    exact retZ cx hw hr hk rfl dX1_isLoaded_15 ⟨rfl, rfl, Or.inr ⟨rfl, n_1, by omega, en_1⟩⟩

set_option maxHeartbeats 4000000 in
set_option maxRecDepth 100000 in
theorem k_X1_addHold (l : Launch) (D : va_G) (a : Nat → Nat) (cI cZ : ClassId) (f : FF) (u : UU) (mo : Int32) (fl : Int32) (hi : IV f)  : KI l yX1_addHold cX1_addHold 3 (some .int) ({ frames := 1, cells := 0, slots := 0, locals := 12 } : Room) D a cI cZ [.ref (a 1), .int mo, .int fl] f u (fun r f2 u2 => IV f2 ∧ (r, vC f2) = S_cnt 0 4 (vC f) ∧ KP f f2) := by
  refine KX.of (by decide) (Nat.le_of_ble_eq_true rfl) ?_
  intro p e s m below meth c cx hw hr hk ls hl
  have cx : Cx p s m _ c cX1_addHold RX1 3 D cI cZ := cx
  have hl : lv_has ls 3 [(0, .ref (a 1)), (1, .int mo), (2, .int fl)] := hl
  have hx := cx.1.1
  have hb := cx.1.2.1
  refine lv_aload_n hx hb dX1_addHold_0 rfl (lv_at hl 0 rfl) ?_
  refine gf_X1_21 cx hw dX1_addHold_1 ?_
  obtain ⟨n_1, hn_1, en_1⟩ := IV.s_1_3 hi
  refine topc (y := (nI n_1)) en_1 ?_
  refine lv_iconst (v := 4) hx hb dX1_addHold_4 (by decide) ?_
  refine lv_icmp_lt (tgt := 11) hx hb dX1_addHold_5 (by decide) (fun c_2 => ?_) (fun c_2 => ?_)
  · have c_2 : n_1 < 4 := (nI_ltI (a := n_1) (b := 4) (by omega) (by omega)).mp c_2
    refine lv_aload_n hx hb dX1_addHold_11 rfl (lv_at hl 0 rfl) ?_
    refine gf_X1_11 cx hw dX1_addHold_12 ?_
    refine lv_aload_n hx hb dX1_addHold_15 rfl (lv_at hl 0 rfl) ?_
    refine gf_X1_21 cx hw dX1_addHold_16 ?_
    refine topc (y := (nI n_1)) en_1 ?_
    refine lv_iload_n hx hb dX1_addHold_19 rfl (lv_at hl 1 rfl) ?_
    refine astN 9 n_1 cx hw rfl ws_9 (by omega) (by decide) dX1_addHold_20 (fun H locs hw => ?_)
    have hi_3 : IV (up f 9 (upd (f 9) n_1 mo)) := IV.wr hi 9 trivial
    refine lv_aload_n hx hb dX1_addHold_21 rfl (lv_at hl 0 rfl) ?_
    refine gf_X1_15 cx hw dX1_addHold_22 ?_
    refine lv_aload_n hx hb dX1_addHold_25 rfl (lv_at hl 0 rfl) ?_
    refine gf_X1_21 cx hw dX1_addHold_26 ?_
    refine topc (y := (nI n_1)) en_1 ?_
    refine lv_iload_n hx hb dX1_addHold_29 rfl (lv_at hl 2 rfl) ?_
    refine astN 10 n_1 cx hw rfl ws_10 (by omega) (by decide) dX1_addHold_30 (fun H locs hw => ?_)
    have hi_4 : IV (up (up f 9 (upd (f 9) n_1 mo)) 10 (upd ((up f 9 (upd (f 9) n_1 mo)) 10) n_1 fl)) := IV.wr hi_3 10 trivial
    refine lv_aload_n hx hb dX1_addHold_31 rfl (lv_at hl 0 rfl) ?_
    refine lv_dup hx hb dX1_addHold_32 rfl ?_
    refine gf_X1_21 cx hw dX1_addHold_33 ?_
    refine topc (y := (nI n_1)) en_1 ?_
    refine lv_dup_x1 hx hb dX1_addHold_36 rfl rfl ?_
    refine lv_iconst (v := 1) hx hb dX1_addHold_37 (by decide) ?_
    refine lv_iadd hx hb dX1_addHold_38 ?_
    refine topc (y := (nI (n_1 + 1))) (nI_add n_1 1) ?_
    refine pf_X1_21 cx hw dX1_addHold_39 (fun H locs hw => ?_)
    have hi_5 : IV (up (up (up f 9 (upd (f 9) n_1 mo)) 10 (upd ((up f 9 (upd (f 9) n_1 mo)) 10) n_1 fl)) 1 (upd ((up (up f 9 (upd (f 9) n_1 mo)) 10 (upd ((up f 9 (upd (f 9) n_1 mo)) 10) n_1 fl)) 1) 3 (nI (n_1 + 1)))) := IV.t_1_3 hi_4 (okc_n (j := (n_1 + 1)) (by omega))
    have vp_6 : vC (up (up (up f 9 (upd (f 9) n_1 mo)) 10 (upd ((up f 9 (upd (f 9) n_1 mo)) 10) n_1 fl)) 1 (upd ((up (up f 9 (upd (f 9) n_1 mo)) 10 (upd ((up f 9 (upd (f 9) n_1 mo)) 10) n_1 fl)) 1) 3 (nI (n_1 + 1)))) = (up (vC f) 0 (upd ((vC f) 0) 0 (nI (n_1 + 1)))) := (vC_s_1_3).trans (congrArg (fun z : FF => up z 0 (upd (z 0) 0 (nI (n_1 + 1)))) (rfl : vC (up (up f 9 (upd (f 9) n_1 mo)) 10 (upd ((up f 9 (upd (f 9) n_1 mo)) 10) n_1 fl)) = (vC f)))
    exact retI cx hw hr hk dX1_addHold_42 ⟨hi_5, ((congrArg (Prod.mk (nI n_1)) (vp_6 : vC (up (up (up f 9 (upd (f 9) n_1 mo)) 10 (upd ((up f 9 (upd (f 9) n_1 mo)) 10) n_1 fl)) 1 (upd ((up (up f 9 (upd (f 9) n_1 mo)) 10 (upd ((up f 9 (upd (f 9) n_1 mo)) 10) n_1 fl)) 1) 3 (nI (n_1 + 1)))) = (up (vC f) 0 (upd ((vC f) 0) 0 (nI (n_1 + 1)))))).trans (show _ = S_cnt 0 4 (vC f) from (S_cnt_n (k := n_1) (n := 4) en_1 (by omega) (by omega) rfl (by omega)).symm)), (KP.up (by decide) (KP.up (by decide) (KP.up (by decide) KP.rf)))⟩
  · have c_2 : ¬ n_1 < 4 := fun z => c_2 ((nI_ltI (a := n_1) (b := 4) (by omega) (by omega)).mpr z)
    refine lv_bipush (v := (-4)) hx hb dX1_addHold_8 (by decide) ?_
    exact retI cx hw hr hk dX1_addHold_10 ⟨hi, ((congrArg (Prod.mk (-4)) (rfl : vC f = (vC f))).trans (show _ = S_cnt 0 4 (vC f) from (S_cnt_f (k := n_1) (n := 4) en_1 (by omega) rfl (by omega)).symm)), KP.rf⟩

set_option maxHeartbeats 4000000 in
set_option maxRecDepth 100000 in
theorem k_X1_lastArm (l : Launch) (D : va_G) (a : Nat → Nat) (cI cZ : ClassId) (f : FF) (u : UU) (h : Nat) (hi : IV f) (h_h : h < 4) : KI l yX1_lastArm cX1_lastArm 3 (some .int) ({ frames := 2, cells := 0, slots := 0, locals := 33 } : Room) D a cI cZ [.ref (a 1), .int (nI h)] f u (fun r f2 u2 => f = f2 ∧ u = u2 ∧ ((r = (-1) ∧ f 11 h = 0) ∨ (∃ n, 1 ≤ n ∧ n ≤ 8 ∧ f 11 h = nI n ∧ r = f 12 (h * 8 + (n - 1))))) := by
  refine KX.of (by decide) (Nat.le_of_ble_eq_true rfl) ?_
  intro p e s m below meth c cx hw hr hk ls hl
  have cx : Cx p s m _ c cX1_lastArm RX1 3 D cI cZ := cx
  have hl : lv_has ls 3 [(0, .ref (a 1)), (1, .int (nI h))] := hl
  have hx := cx.1.1
  have hb := cx.1.2.1
  refine lv_aload_n hx hb dX1_lastArm_0 rfl (lv_at hl 0 rfl) ?_
  refine gf_X1_18 cx hw dX1_lastArm_1 ?_
  refine lv_iload_n hx hb dX1_lastArm_4 rfl (lv_at hl 1 rfl) ?_
  refine aldN 11 h cx hw rfl (by omega) (by decide) dX1_lastArm_5 ?_
  obtain ⟨n_1, hn_1, en_1⟩ := IV.a_11 hi (i := h) (by omega)
  refine topc (y := (nI n_1)) en_1 ?_
  refine lv_istore_n (lv' := [(2, .int (nI n_1)), (0, .ref (a 1)), (1, .int (nI h))]) hx hb dX1_lastArm_6 rfl hl (by decide) rfl (fun ls hl => ?_)
  refine lv_iload_n hx hb dX1_lastArm_7 rfl (lv_at hl 0 rfl) ?_
  refine lv_if_ne (tgt := 15) hx hb dX1_lastArm_8 (by decide) (fun c_2 => ?_) (fun c_2 => ?_)
  · have c_2 : ¬ n_1 = 0 := fun z => c_2 ((nI_eq (a := n_1) (b := 0) (by omega) (by omega)).mpr z)
    refine lv_aload_n hx hb dX1_lastArm_15 rfl (lv_at hl 1 rfl) ?_
    refine gf_X1_25 cx hw dX1_lastArm_16 ?_
    refine lv_iload_n hx hb dX1_lastArm_19 rfl (lv_at hl 2 rfl) ?_
    refine lv_iload_n hx hb dX1_lastArm_20 rfl (lv_at hl 0 rfl) ?_
    refine lv_iconst (v := 1) hx hb dX1_lastArm_21 (by decide) ?_
    refine lv_isub hx hb dX1_lastArm_22 ?_
    refine topc (y := (nI (n_1 - 1))) (pk_sub (a := n_1) (b := 1) (by omega)) ?_
    refine goI hw (runSW (As := [.int (nI h), .int (nI (n_1 - 1))]) (rest := [.ref (a 12)]) cx hw (k_X1_placeOf l D a cI cZ f u h (n_1 - 1)  ) lk_X1_65 ⟨Nat.le_of_ble_eq_true rfl, Nat.le_of_ble_eq_true rfl⟩ ⟨rfl, rfl⟩ ⟨Nat.zero_le _, Nat.zero_le _⟩ rfl rfl hl.1 (Nat.le_of_ble_eq_true rfl) dX1_lastArm_23) (fun r_3 f_3 u_3 H locs hp_3 hw => ?_)
    obtain ⟨rfl, rfl, ha_3⟩ := hp_3
    have er_3 := ha_3
    · subst er_3
      refine aldN 12 (h * 8 + (n_1 - 1)) cx hw rfl (by omega) (by decide) dX1_lastArm_26 ?_
      exact retI cx hw hr hk dX1_lastArm_27 ⟨rfl, rfl, Or.inr ⟨n_1, by omega, by omega, en_1, rfl⟩⟩
  · have c_2 : n_1 = 0 := (nI_eq (a := n_1) (b := 0) (by omega) (by omega)).mp c_2
    refine lv_iconst (v := (-1)) hx hb dX1_lastArm_11 (by decide) ?_
    refine lv_goto (tgt := 27) hx hb dX1_lastArm_12 (by decide) ?_
    exact retI cx hw hr hk dX1_lastArm_27 ⟨rfl, rfl, Or.inl ⟨rfl, by rw [en_1, show n_1 = 0 by omega]; rfl⟩⟩

set_option maxHeartbeats 4000000 in
set_option maxRecDepth 100000 in
theorem k_X1_addSlot (l : Launch) (D : va_G) (a : Nat → Nat) (cI cZ : ClassId) (f : FF) (u : UU) (h : Nat) (ar : Int32) (mo : Int32) (hi : IV f) (h_h : h < 4) : KI l yX1_addSlot cX1_addSlot 5 (some .int) ({ frames := 2, cells := 0, slots := 0, locals := 33 } : Room) D a cI cZ [.ref (a 1), .int (nI h), .int ar, .int mo] f u (fun r f2 u2 => IV f2 ∧ (r, vC f2) = S_add h ar (vC f) ∧ KP f f2) := by
  refine KX.of (by decide) (Nat.le_of_ble_eq_true rfl) ?_
  intro p e s m below meth c cx hw hr hk ls hl
  have cx : Cx p s m _ c cX1_addSlot RX1 5 D cI cZ := cx
  have hl : lv_has ls 5 [(0, .ref (a 1)), (1, .int (nI h)), (2, .int ar), (3, .int mo)] := hl
  have hx := cx.1.1
  have hb := cx.1.2.1
  refine lv_aload_n hx hb dX1_addSlot_0 rfl (lv_at hl 0 rfl) ?_
  refine gf_X1_18 cx hw dX1_addSlot_1 ?_
  refine lv_iload_n hx hb dX1_addSlot_4 rfl (lv_at hl 1 rfl) ?_
  refine aldN 11 h cx hw rfl (by omega) (by decide) dX1_addSlot_5 ?_
  obtain ⟨n_1, hn_1, en_1⟩ := IV.a_11 hi (i := h) (by omega)
  refine topc (y := (nI n_1)) en_1 ?_
  refine lv_istore (lv' := [(4, .int (nI n_1)), (0, .ref (a 1)), (1, .int (nI h)), (2, .int ar), (3, .int mo)]) hx hb dX1_addSlot_6 hl (by decide) rfl (fun ls hl => ?_)
  refine lv_iload hx hb dX1_addSlot_8 (lv_at hl 0 rfl) ?_
  refine lv_bipush (v := 8) hx hb dX1_addSlot_10 (by decide) ?_
  refine lv_icmp_lt (tgt := 18) hx hb dX1_addSlot_12 (by decide) (fun c_2 => ?_) (fun c_2 => ?_)
  · have c_2 : n_1 < 8 := (nI_ltI (a := n_1) (b := 8) (by omega) (by omega)).mp c_2
    refine lv_aload_n hx hb dX1_addSlot_18 rfl (lv_at hl 1 rfl) ?_
    refine gf_X1_25 cx hw dX1_addSlot_19 ?_
    refine lv_iload_n hx hb dX1_addSlot_22 rfl (lv_at hl 2 rfl) ?_
    refine lv_iload hx hb dX1_addSlot_23 (lv_at hl 0 rfl) ?_
    refine goI hw (runSW (As := [.int (nI h), .int (nI n_1)]) (rest := [.ref (a 12)]) cx hw (k_X1_placeOf l D a cI cZ f u h n_1  ) lk_X1_65 ⟨Nat.le_of_ble_eq_true rfl, Nat.le_of_ble_eq_true rfl⟩ ⟨rfl, rfl⟩ ⟨Nat.zero_le _, Nat.zero_le _⟩ rfl rfl hl.1 (Nat.le_of_ble_eq_true rfl) dX1_addSlot_25) (fun r_3 f_3 u_3 H locs hp_3 hw => ?_)
    obtain ⟨rfl, rfl, ha_3⟩ := hp_3
    have er_3 := ha_3
    · subst er_3
      refine lv_iload_n hx hb dX1_addSlot_28 rfl (lv_at hl 3 rfl) ?_
      refine astN 12 (h * 8 + n_1) cx hw rfl ws_12 (by omega) (by decide) dX1_addSlot_29 (fun H locs hw => ?_)
      have hi_4 : IV (up f 12 (upd (f 12) (h * 8 + n_1) ar)) := IV.wr hi 12 trivial
      have vp_5 : vC (up f 12 (upd (f 12) (h * 8 + n_1) ar)) = (up (vC f) 8 (upd ((vC f) 8) (h * 8 + n_1) ar)) := (vC_a_12).trans (congrArg (fun z : FF => up z 8 (upd (z 8) (h * 8 + n_1) ar)) (rfl : vC f = (vC f)))
      refine lv_aload_n hx hb dX1_addSlot_30 rfl (lv_at hl 1 rfl) ?_
      refine gf_X1_28 cx hw dX1_addSlot_31 ?_
      refine lv_iload_n hx hb dX1_addSlot_34 rfl (lv_at hl 2 rfl) ?_
      refine lv_iload hx hb dX1_addSlot_35 (lv_at hl 0 rfl) ?_
      refine goI hw (runSW (As := [.int (nI h), .int (nI n_1)]) (rest := [.ref (a 13)]) cx hw (k_X1_placeOf l D a cI cZ (up f 12 (upd (f 12) (h * 8 + n_1) ar)) u h n_1  ) lk_X1_65 ⟨Nat.le_of_ble_eq_true rfl, Nat.le_of_ble_eq_true rfl⟩ ⟨rfl, rfl⟩ ⟨Nat.zero_le _, Nat.zero_le _⟩ rfl rfl hl.1 (Nat.le_of_ble_eq_true rfl) dX1_addSlot_37) (fun r_6 f_6 u_6 H locs hp_6 hw => ?_)
      obtain ⟨rfl, rfl, ha_6⟩ := hp_6
      have er_6 := ha_6
      · subst er_6
        refine lv_iload_n hx hb dX1_addSlot_40 rfl (lv_at hl 4 rfl) ?_
        refine astN 13 (h * 8 + n_1) cx hw rfl ws_13 (by omega) (by decide) dX1_addSlot_41 (fun H locs hw => ?_)
        have hi_7 : IV (up (up f 12 (upd (f 12) (h * 8 + n_1) ar)) 13 (upd ((up f 12 (upd (f 12) (h * 8 + n_1) ar)) 13) (h * 8 + n_1) mo)) := IV.wr hi_4 13 trivial
        refine lv_aload_n hx hb dX1_addSlot_42 rfl (lv_at hl 1 rfl) ?_
        refine gf_X1_18 cx hw dX1_addSlot_43 ?_
        refine lv_iload_n hx hb dX1_addSlot_46 rfl (lv_at hl 2 rfl) ?_
        refine lv_iload hx hb dX1_addSlot_47 (lv_at hl 0 rfl) ?_
        refine lv_iconst (v := 1) hx hb dX1_addSlot_49 (by decide) ?_
        refine lv_iadd hx hb dX1_addSlot_50 ?_
        refine topc (y := (nI (n_1 + 1))) (nI_add n_1 1) ?_
        refine astN 11 h cx hw rfl ws_11 (by omega) (by decide) dX1_addSlot_51 (fun H locs hw => ?_)
        have hi_8 : IV (up (up (up f 12 (upd (f 12) (h * 8 + n_1) ar)) 13 (upd ((up f 12 (upd (f 12) (h * 8 + n_1) ar)) 13) (h * 8 + n_1) mo)) 11 (upd ((up (up f 12 (upd (f 12) (h * 8 + n_1) ar)) 13 (upd ((up f 12 (upd (f 12) (h * 8 + n_1) ar)) 13) (h * 8 + n_1) mo)) 11) h (nI (n_1 + 1)))) := IV.b_11 hi_7 (okc_n (j := (n_1 + 1)) (by omega))
        have vp_9 : vC (up (up (up f 12 (upd (f 12) (h * 8 + n_1) ar)) 13 (upd ((up f 12 (upd (f 12) (h * 8 + n_1) ar)) 13) (h * 8 + n_1) mo)) 11 (upd ((up (up f 12 (upd (f 12) (h * 8 + n_1) ar)) 13 (upd ((up f 12 (upd (f 12) (h * 8 + n_1) ar)) 13) (h * 8 + n_1) mo)) 11) h (nI (n_1 + 1)))) = (up (up (vC f) 8 (upd ((vC f) 8) (h * 8 + n_1) ar)) 7 (upd ((up (vC f) 8 (upd ((vC f) 8) (h * 8 + n_1) ar)) 7) h (nI (n_1 + 1)))) := (vC_a_11).trans (congrArg (fun z : FF => up z 7 (upd (z 7) h (nI (n_1 + 1)))) (vp_5 : vC (up (up f 12 (upd (f 12) (h * 8 + n_1) ar)) 13 (upd ((up f 12 (upd (f 12) (h * 8 + n_1) ar)) 13) (h * 8 + n_1) mo)) = (up (vC f) 8 (upd ((vC f) 8) (h * 8 + n_1) ar))))
        refine lv_iload hx hb dX1_addSlot_52 (lv_at hl 0 rfl) ?_
        exact retI cx hw hr hk dX1_addSlot_54 ⟨hi_8, ((congrArg (Prod.mk (nI n_1)) (vp_9 : vC (up (up (up f 12 (upd (f 12) (h * 8 + n_1) ar)) 13 (upd ((up f 12 (upd (f 12) (h * 8 + n_1) ar)) 13) (h * 8 + n_1) mo)) 11 (upd ((up (up f 12 (upd (f 12) (h * 8 + n_1) ar)) 13 (upd ((up f 12 (upd (f 12) (h * 8 + n_1) ar)) 13) (h * 8 + n_1) mo)) 11) h (nI (n_1 + 1)))) = (up (up (vC f) 8 (upd ((vC f) 8) (h * 8 + n_1) ar)) 7 (upd ((up (vC f) 8 (upd ((vC f) 8) (h * 8 + n_1) ar)) 7) h (nI (n_1 + 1)))))).trans (show _ = S_add h ar (vC f) from (S_add_n (k := n_1) en_1 (by omega) (by omega)).symm)), (KP.up (by decide) (KP.up (by decide) (KP.up (by decide) KP.rf)))⟩
  · have c_2 : ¬ n_1 < 8 := fun z => c_2 ((nI_ltI (a := n_1) (b := 8) (by omega) (by omega)).mpr z)
    refine lv_bipush (v := (-4)) hx hb dX1_addSlot_15 (by decide) ?_
    exact retI cx hw hr hk dX1_addSlot_17 ⟨hi, ((congrArg (Prod.mk (-4)) (rfl : vC f = (vC f))).trans (show _ = S_add h ar (vC f) from (S_add_f (k := n_1) en_1 (by omega)).symm)), KP.rf⟩

set_option maxHeartbeats 4000000 in
set_option maxRecDepth 100000 in
theorem k_X1_setDistance (l : Launch) (D : va_G) (a : Nat → Nat) (cI cZ : ClassId) (f : FF) (u : UU) (x : Nat) (y : Nat) (d : Int32) (hi : IV f) (h_x : x < 8) (h_y : y < 8) : KI l yX1_setDistance cX1_setDistance 5 (some .int) ({ frames := 1, cells := 0, slots := 0, locals := 12 } : Room) D a cI cZ [.ref (a 1), .int (nI x), .int (nI y), .int d] f u (fun r f2 u2 => IV f2 ∧ (r, vC f2) = S_ap x y d (vC f) ∧ KP f f2) := by
  refine KX.of (by decide) (Nat.le_of_ble_eq_true rfl) ?_
  intro p e s m below meth c cx hw hr hk ls hl
  have cx : Cx p s m _ c cX1_setDistance RX1 5 D cI cZ := cx
  have hl : lv_has ls 5 [(0, .ref (a 1)), (1, .int (nI x)), (2, .int (nI y)), (3, .int d)] := hl
  have hx := cx.1.1
  have hb := cx.1.2.1
  refine lv_aload_n hx hb dX1_setDistance_0 rfl (lv_at hl 0 rfl) ?_
  refine gf_X1_52 cx hw dX1_setDistance_1 ?_
  refine lv_iload_n hx hb dX1_setDistance_4 rfl (lv_at hl 1 rfl) ?_
  refine lv_bipush (v := 8) hx hb dX1_setDistance_5 (by decide) ?_
  refine lv_imul hx hb dX1_setDistance_7 ?_
  refine topc (y := (nI (x * 8))) (pk_mul x 8) ?_
  refine lv_iload_n hx hb dX1_setDistance_8 rfl (lv_at hl 2 rfl) ?_
  refine lv_iadd hx hb dX1_setDistance_9 ?_
  refine topc (y := (nI ((x * 8) + y))) (nI_add (x * 8) y) ?_
  refine aldN 20 ((x * 8) + y) cx hw rfl (by omega) (by decide) dX1_setDistance_10 ?_
  refine lv_istore (lv' := [(4, .int (f 20 ((x * 8) + y))), (0, .ref (a 1)), (1, .int (nI x)), (2, .int (nI y)), (3, .int d)]) hx hb dX1_setDistance_11 hl (by decide) rfl (fun ls hl => ?_)
  refine lv_aload_n hx hb dX1_setDistance_13 rfl (lv_at hl 1 rfl) ?_
  refine gf_X1_52 cx hw dX1_setDistance_14 ?_
  refine lv_iload_n hx hb dX1_setDistance_17 rfl (lv_at hl 2 rfl) ?_
  refine lv_bipush (v := 8) hx hb dX1_setDistance_18 (by decide) ?_
  refine lv_imul hx hb dX1_setDistance_20 ?_
  refine topc (y := (nI (x * 8))) (pk_mul x 8) ?_
  refine lv_iload_n hx hb dX1_setDistance_21 rfl (lv_at hl 3 rfl) ?_
  refine lv_iadd hx hb dX1_setDistance_22 ?_
  refine topc (y := (nI ((x * 8) + y))) (nI_add (x * 8) y) ?_
  refine lv_iload_n hx hb dX1_setDistance_23 rfl (lv_at hl 4 rfl) ?_
  refine astN 20 ((x * 8) + y) cx hw rfl ws_20 (by omega) (by decide) dX1_setDistance_24 (fun H locs hw => ?_)
  have hi_1 : IV (up f 20 (upd (f 20) ((x * 8) + y) d)) := IV.wr hi 20 trivial
  have vp_2 : vC (up f 20 (upd (f 20) ((x * 8) + y) d)) = (up (vC f) 1 (upd ((vC f) 1) ((x * 8) + y) d)) := (vC_a_20).trans (congrArg (fun z : FF => up z 1 (upd (z 1) ((x * 8) + y) d)) (rfl : vC f = (vC f)))
  refine lv_aload_n hx hb dX1_setDistance_25 rfl (lv_at hl 1 rfl) ?_
  refine gf_X1_52 cx hw dX1_setDistance_26 ?_
  refine lv_iload_n hx hb dX1_setDistance_29 rfl (lv_at hl 3 rfl) ?_
  refine lv_bipush (v := 8) hx hb dX1_setDistance_30 (by decide) ?_
  refine lv_imul hx hb dX1_setDistance_32 ?_
  refine topc (y := (nI (y * 8))) (pk_mul y 8) ?_
  refine lv_iload_n hx hb dX1_setDistance_33 rfl (lv_at hl 2 rfl) ?_
  refine lv_iadd hx hb dX1_setDistance_34 ?_
  refine topc (y := (nI ((y * 8) + x))) (nI_add (y * 8) x) ?_
  refine lv_iload_n hx hb dX1_setDistance_35 rfl (lv_at hl 4 rfl) ?_
  refine astN 20 ((y * 8) + x) cx hw rfl ws_20 (by omega) (by decide) dX1_setDistance_36 (fun H locs hw => ?_)
  have hi_3 : IV (up (up f 20 (upd (f 20) ((x * 8) + y) d)) 20 (upd ((up f 20 (upd (f 20) ((x * 8) + y) d)) 20) ((y * 8) + x) d)) := IV.wr hi_1 20 trivial
  have vp_4 : vC (up (up f 20 (upd (f 20) ((x * 8) + y) d)) 20 (upd ((up f 20 (upd (f 20) ((x * 8) + y) d)) 20) ((y * 8) + x) d)) = (up (up (vC f) 1 (upd ((vC f) 1) ((x * 8) + y) d)) 1 (upd ((up (vC f) 1 (upd ((vC f) 1) ((x * 8) + y) d)) 1) ((y * 8) + x) d)) := (vC_a_20).trans (congrArg (fun z : FF => up z 1 (upd (z 1) ((y * 8) + x) d)) (vp_2 : vC (up f 20 (upd (f 20) ((x * 8) + y) d)) = (up (vC f) 1 (upd ((vC f) 1) ((x * 8) + y) d))))
  refine lv_iload hx hb dX1_setDistance_37 (lv_at hl 0 rfl) ?_
  exact retI cx hw hr hk dX1_setDistance_39 ⟨hi_3, ((congrArg (Prod.mk (f 20 ((x * 8) + y))) (vp_4 : vC (up (up f 20 (upd (f 20) ((x * 8) + y) d)) 20 (upd ((up f 20 (upd (f 20) ((x * 8) + y) d)) 20) ((y * 8) + x) d)) = (up (up (vC f) 1 (upd ((vC f) 1) ((x * 8) + y) d)) 1 (upd ((up (vC f) 1 (upd ((vC f) 1) ((x * 8) + y) d)) 1) ((y * 8) + x) d)))).trans (show _ = S_ap x y d (vC f) from rfl)), (KP.up (by decide) (KP.up (by decide) KP.rf))⟩

set_option maxHeartbeats 4000000 in
set_option maxRecDepth 100000 in
theorem k_X1_rankByWeight (l : Launch) (D : va_G) (a : Nat → Nat) (cI cZ : ClassId) (f : FF) (u : UU) (it : Nat) (we : Int32) (hi : IV f) (h_it : it < 40) : KV l yX1_rankByWeight cX1_rankByWeight 4 none ({ frames := 1, cells := 0, slots := 0, locals := 12 } : Room) D a cI cZ [.ref (a 1), .int (nI it), .int we] f u (fun f2 u2 => IV f2 ∧ KK [19] f f2) := by
  refine KX.of (by decide) (Nat.le_of_ble_eq_true rfl) ?_
  intro p e s m below meth c cx hw hr hk ls hl
  have cx : Cx p s m _ c cX1_rankByWeight RX1 4 D cI cZ := cx
  have hl : lv_has ls 4 [(0, .ref (a 1)), (1, .int (nI it)), (2, .int we)] := hl
  have hx := cx.1.1
  have hb := cx.1.2.1
  refine lv_iload_n hx hb dX1_rankByWeight_0 rfl (lv_at hl 1 rfl) ?_
  refine lv_istore_n (lv' := [(3, .int (nI it)), (0, .ref (a 1)), (1, .int (nI it)), (2, .int we)]) hx hb dX1_rankByWeight_1 rfl hl (by decide) rfl (fun ls hl => ?_)
  have loop_1 : ∀ (k_1 : Nat) (v3_1 : Nat), v3_1 ≤ 39 → v3_1 < k_1 → ∀ (f_1 : FF) (u_1 : UU), IV f_1 → KK [19] f f_1 → ∀ (H : Heap) (locs : List Loc) (ls : Array Slot), Wd D a cI cZ s f_1 u_1 H locs → lv_has ls 4 [(3, .int (nI v3_1)), (0, .ref (a 1)), (1, .int (nI it)), (2, .int we)] → W p l e ({ frames := 1, cells := 0, slots := 0, locals := 12 } : Room) s m ([.ref (a 1), .int (nI it), .int we] : List Value).toArray below meth c H locs 0 0 (MQ below (QV D a cI cZ (fun f2 u2 => IV f2 ∧ KK [19] f f2)) ([.ref (a 1), .int (nI it), .int we] : List Value).toArray s 0 0 (AA a)) (F0 m 2 ls []) := by
    intro k_1
    induction k_1 with
    | zero => intros; omega
    | succ k_1 ih_1 =>
      intro v3_1  hb0_1  hm_1 f_1 u_1 hi_1 kk_1  H locs ls hw hl
      refine lv_iload_n hx hb dX1_rankByWeight_2 rfl (lv_at hl 0 rfl) ?_
      refine lv_if_le (tgt := 43) hx hb dX1_rankByWeight_3 (by decide) (fun c_2 => ?_) (fun c_2 => ?_)
      · have c_2 : v3_1 ≤ 0 := (nI_leI (a := v3_1) (b := 0) (by omega) (by omega)).mp c_2
        refine lv_aload_n hx hb dX1_rankByWeight_43 rfl (lv_at hl 1 rfl) ?_
        refine gf_X1_46 cx hw dX1_rankByWeight_44 ?_
        refine lv_iload_n hx hb dX1_rankByWeight_47 rfl (lv_at hl 0 rfl) ?_
        refine lv_iload_n hx hb dX1_rankByWeight_48 rfl (lv_at hl 2 rfl) ?_
        refine astN 19 v3_1 cx hw rfl ws_19 (by omega) (by decide) dX1_rankByWeight_49 (fun H locs hw => ?_)
        have hi_3 : IV (up f_1 19 (upd (f_1 19) v3_1 (nI it))) := IV.b_19 hi_1 (oki_n (j := it) (by omega))
        exact retV cx hw hr hk dX1_rankByWeight_50 ⟨hi_3, (KK.wr (by decide) (by decide) kk_1)⟩
      · have c_2 : ¬ v3_1 ≤ 0 := fun z => c_2 ((nI_leI (a := v3_1) (b := 0) (by omega) (by omega)).mpr z)
        refine lv_aload_n hx hb dX1_rankByWeight_6 rfl (lv_at hl 1 rfl) ?_
        refine gf_X1_34 cx hw dX1_rankByWeight_7 ?_
        refine lv_aload_n hx hb dX1_rankByWeight_10 rfl (lv_at hl 1 rfl) ?_
        refine gf_X1_46 cx hw dX1_rankByWeight_11 ?_
        refine lv_iload_n hx hb dX1_rankByWeight_14 rfl (lv_at hl 0 rfl) ?_
        refine lv_iconst (v := 1) hx hb dX1_rankByWeight_15 (by decide) ?_
        refine lv_isub hx hb dX1_rankByWeight_16 ?_
        refine topc (y := (nI (v3_1 - 1))) (pk_sub (a := v3_1) (b := 1) (by omega)) ?_
        refine aldN 19 (v3_1 - 1) cx hw rfl (by omega) (by decide) dX1_rankByWeight_17 ?_
        obtain ⟨n_4, hn_4, en_4⟩ := IV.a_19 hi_1 (i := (v3_1 - 1)) (by omega)
        refine topc (y := (nI n_4)) en_4 ?_
        refine aldN 15 n_4 cx hw rfl (by omega) (by decide) dX1_rankByWeight_18 ?_
        refine lv_topi (fun x_5 _ => ?_)
        refine lv_iload_n hx hb dX1_rankByWeight_19 rfl (lv_at hl 3 rfl) ?_
        refine lv_icmp_ge (tgt := 43) hx hb dX1_rankByWeight_20 (by decide) (fun _ => ?_) (fun _ => ?_)
        · refine lv_aload_n hx hb dX1_rankByWeight_43 rfl (lv_at hl 1 rfl) ?_
          refine gf_X1_46 cx hw dX1_rankByWeight_44 ?_
          refine lv_iload_n hx hb dX1_rankByWeight_47 rfl (lv_at hl 0 rfl) ?_
          refine lv_iload_n hx hb dX1_rankByWeight_48 rfl (lv_at hl 2 rfl) ?_
          refine astN 19 v3_1 cx hw rfl ws_19 (by omega) (by decide) dX1_rankByWeight_49 (fun H locs hw => ?_)
          have hi_7 : IV (up f_1 19 (upd (f_1 19) v3_1 (nI it))) := IV.b_19 hi_1 (oki_n (j := it) (by omega))
          exact retV cx hw hr hk dX1_rankByWeight_50 ⟨hi_7, (KK.wr (by decide) (by decide) kk_1)⟩
        · refine lv_aload_n hx hb dX1_rankByWeight_23 rfl (lv_at hl 1 rfl) ?_
          refine gf_X1_46 cx hw dX1_rankByWeight_24 ?_
          refine lv_iload_n hx hb dX1_rankByWeight_27 rfl (lv_at hl 0 rfl) ?_
          refine lv_aload_n hx hb dX1_rankByWeight_28 rfl (lv_at hl 1 rfl) ?_
          refine gf_X1_46 cx hw dX1_rankByWeight_29 ?_
          refine lv_iload_n hx hb dX1_rankByWeight_32 rfl (lv_at hl 0 rfl) ?_
          refine lv_iconst (v := 1) hx hb dX1_rankByWeight_33 (by decide) ?_
          refine lv_isub hx hb dX1_rankByWeight_34 ?_
          refine topc (y := (nI (v3_1 - 1))) (pk_sub (a := v3_1) (b := 1) (by omega)) ?_
          refine aldN 19 (v3_1 - 1) cx hw rfl (by omega) (by decide) dX1_rankByWeight_35 ?_
          refine topc (y := (nI n_4)) en_4 ?_
          refine astN 19 v3_1 cx hw rfl ws_19 (by omega) (by decide) dX1_rankByWeight_36 (fun H locs hw => ?_)
          have hi_8 : IV (up f_1 19 (upd (f_1 19) v3_1 (nI n_4))) := IV.b_19 hi_1 (oki_n (j := n_4) (by omega))
          refine lv_iinc (v := (nI (v3_1 - 1))) (lv' := [(3, .int (nI (v3_1 - 1))), (0, .ref (a 1)), (1, .int (nI it)), (2, .int we)]) hx hb dX1_rankByWeight_37 hl (k := 0) rfl (nI_dn (by omega)) (by decide) rfl (fun ls hl => ?_)
          refine lv_goto (tgt := 2) hx hb dX1_rankByWeight_40 (by decide) ?_
          exact ih_1 (v3_1 - 1)  (by omega) (by omega) (up f_1 19 (upd (f_1 19) v3_1 (nI n_4))) u_1 hi_8 (KK.wr (by decide) (by decide) kk_1)  _ _ _ hw (lv_sub hl [0, 1, 2, 3] rfl)
  exact loop_1 _ it  (by omega)  (Nat.lt_succ_self _) f u hi KK.rf  _ _ _ hw (lv_sub hl [0, 1, 2, 3] rfl)

set_option maxHeartbeats 4000000 in
set_option maxRecDepth 100000 in
theorem k_X1_addItem (l : Launch) (D : va_G) (a : Nat → Nat) (cI cZ : ClassId) (f : FF) (u : UU) (we : Int32) (ki : Nat) (sp : Int32) (hi : IV f) (h_k : ki < 8) : KI l yX1_addItem cX1_addItem 4 (some .int) ({ frames := 2, cells := 0, slots := 0, locals := 35 } : Room) D a cI cZ [.ref (a 1), .int we, .int (nI ki), .int sp] f u (fun r f2 u2 => IV f2 ∧ (r, vC f2) = S_cnt 1 40 (vC f) ∧ KP f f2) := by
  refine KX.of (by decide) (Nat.le_of_ble_eq_true rfl) ?_
  intro p e s m below meth c cx hw hr hk ls hl
  have cx : Cx p s m _ c cX1_addItem RX1 4 D cI cZ := cx
  have hl : lv_has ls 4 [(0, .ref (a 1)), (1, .int we), (2, .int (nI ki)), (3, .int sp)] := hl
  have hx := cx.1.1
  have hb := cx.1.2.1
  refine lv_aload_n hx hb dX1_addItem_0 rfl (lv_at hl 0 rfl) ?_
  refine gf_X1_49 cx hw dX1_addItem_1 ?_
  obtain ⟨n_1, hn_1, en_1⟩ := IV.s_1_12 hi
  refine topc (y := (nI n_1)) en_1 ?_
  refine lv_bipush (v := 40) hx hb dX1_addItem_4 (by decide) ?_
  refine lv_icmp_lt (tgt := 12) hx hb dX1_addItem_6 (by decide) (fun c_2 => ?_) (fun c_2 => ?_)
  · have c_2 : n_1 < 40 := (nI_ltI (a := n_1) (b := 40) (by omega) (by omega)).mp c_2
    refine lv_aload_n hx hb dX1_addItem_12 rfl (lv_at hl 0 rfl) ?_
    refine gf_X1_34 cx hw dX1_addItem_13 ?_
    refine lv_aload_n hx hb dX1_addItem_16 rfl (lv_at hl 0 rfl) ?_
    refine gf_X1_49 cx hw dX1_addItem_17 ?_
    refine topc (y := (nI n_1)) en_1 ?_
    refine lv_iload_n hx hb dX1_addItem_20 rfl (lv_at hl 1 rfl) ?_
    refine astN 15 n_1 cx hw rfl ws_15 (by omega) (by decide) dX1_addItem_21 (fun H locs hw => ?_)
    have hi_3 : IV (up f 15 (upd (f 15) n_1 we)) := IV.wr hi 15 trivial
    refine lv_aload_n hx hb dX1_addItem_22 rfl (lv_at hl 0 rfl) ?_
    refine gf_X1_37 cx hw dX1_addItem_23 ?_
    refine lv_aload_n hx hb dX1_addItem_26 rfl (lv_at hl 0 rfl) ?_
    refine gf_X1_49 cx hw dX1_addItem_27 ?_
    refine topc (y := (nI n_1)) en_1 ?_
    refine lv_iload_n hx hb dX1_addItem_30 rfl (lv_at hl 2 rfl) ?_
    refine astN 16 n_1 cx hw rfl ws_16 (by omega) (by decide) dX1_addItem_31 (fun H locs hw => ?_)
    have hi_4 : IV (up (up f 15 (upd (f 15) n_1 we)) 16 (upd ((up f 15 (upd (f 15) n_1 we)) 16) n_1 (nI ki))) := IV.b_16 hi_3 (oki_n (j := ki) (by omega))
    refine lv_aload_n hx hb dX1_addItem_32 rfl (lv_at hl 0 rfl) ?_
    refine gf_X1_40 cx hw dX1_addItem_33 ?_
    refine lv_aload_n hx hb dX1_addItem_36 rfl (lv_at hl 0 rfl) ?_
    refine gf_X1_49 cx hw dX1_addItem_37 ?_
    refine topc (y := (nI n_1)) en_1 ?_
    refine lv_iload_n hx hb dX1_addItem_40 rfl (lv_at hl 3 rfl) ?_
    refine astN 17 n_1 cx hw rfl ws_17 (by omega) (by decide) dX1_addItem_41 (fun H locs hw => ?_)
    have hi_5 : IV (up (up (up f 15 (upd (f 15) n_1 we)) 16 (upd ((up f 15 (upd (f 15) n_1 we)) 16) n_1 (nI ki))) 17 (upd ((up (up f 15 (upd (f 15) n_1 we)) 16 (upd ((up f 15 (upd (f 15) n_1 we)) 16) n_1 (nI ki))) 17) n_1 sp)) := IV.wr hi_4 17 trivial
    refine lv_aload_n hx hb dX1_addItem_42 rfl (lv_at hl 0 rfl) ?_
    refine lv_aload_n hx hb dX1_addItem_43 rfl (lv_at hl 0 rfl) ?_
    refine gf_X1_49 cx hw dX1_addItem_44 ?_
    refine topc (y := (nI n_1)) en_1 ?_
    refine lv_iload_n hx hb dX1_addItem_47 rfl (lv_at hl 1 rfl) ?_
    refine goV hw (runVW (k := 1) (As := [.int (nI n_1), .int we]) (rest := []) cx hw (k_X1_rankByWeight l D a cI cZ (up (up (up f 15 (upd (f 15) n_1 we)) 16 (upd ((up f 15 (upd (f 15) n_1 we)) 16) n_1 (nI ki))) 17 (upd ((up (up f 15 (upd (f 15) n_1 we)) 16 (upd ((up f 15 (upd (f 15) n_1 we)) 16) n_1 (nI ki))) 17) n_1 sp)) u n_1 we  hi_5 (by omega)) lk_X1_69 rfl rfl ⟨Nat.le_of_ble_eq_true rfl, Nat.le_of_ble_eq_true rfl⟩ ⟨rfl, rfl⟩ ⟨Nat.zero_le _, Nat.zero_le _⟩ rfl rfl hl.1 (Nat.le_of_ble_eq_true rfl) dX1_addItem_48) (fun f_6 u_6 H locs hp_6 hw => ?_)
    obtain ⟨hi_6, kk_6⟩ := hp_6
    refine lv_aload_n hx hb dX1_addItem_51 rfl (lv_at hl 0 rfl) ?_
    refine lv_dup hx hb dX1_addItem_52 rfl ?_
    refine gf_X1_49 cx hw dX1_addItem_53 ?_
    refine topc (y := (nI n_1)) ((congrFun (kk_6.1 1 rfl) 12).trans en_1) ?_
    refine lv_dup_x1 hx hb dX1_addItem_56 rfl rfl ?_
    refine lv_iconst (v := 1) hx hb dX1_addItem_57 (by decide) ?_
    refine lv_iadd hx hb dX1_addItem_58 ?_
    refine topc (y := (nI (n_1 + 1))) (nI_add n_1 1) ?_
    refine pf_X1_49 cx hw dX1_addItem_59 (fun H locs hw => ?_)
    have hi_7 : IV (up f_6 1 (upd (f_6 1) 12 (nI (n_1 + 1)))) := IV.t_1_12 hi_6 (okc_n (j := (n_1 + 1)) (by omega))
    have vp_8 : vC (up f_6 1 (upd (f_6 1) 12 (nI (n_1 + 1)))) = (up (vC f) 0 (upd ((vC f) 0) 1 (nI (n_1 + 1)))) := (vC_s_1_12).trans (congrArg (fun z : FF => up z 0 (upd (z 0) 1 (nI (n_1 + 1)))) (((vC_KK kk_6 (by decide)).trans (rfl : vC (up (up (up f 15 (upd (f 15) n_1 we)) 16 (upd ((up f 15 (upd (f 15) n_1 we)) 16) n_1 (nI ki))) 17 (upd ((up (up f 15 (upd (f 15) n_1 we)) 16 (upd ((up f 15 (upd (f 15) n_1 we)) 16) n_1 (nI ki))) 17) n_1 sp)) = (vC f))) : vC f_6 = (vC f)))
    exact retI cx hw hr hk dX1_addItem_62 ⟨hi_7, ((congrArg (Prod.mk (nI n_1)) (vp_8 : vC (up f_6 1 (upd (f_6 1) 12 (nI (n_1 + 1)))) = (up (vC f) 0 (upd ((vC f) 0) 1 (nI (n_1 + 1)))))).trans (show _ = S_cnt 1 40 (vC f) from (S_cnt_n (k := n_1) (n := 40) en_1 (by omega) (by omega) rfl (by omega)).symm)), (KP.up (by decide) (KP.tr (KP.up (by decide) (KP.up (by decide) (KP.up (by decide) KP.rf))) (KP_KK kk_6 (by decide))))⟩
  · have c_2 : ¬ n_1 < 40 := fun z => c_2 ((nI_ltI (a := n_1) (b := 40) (by omega) (by omega)).mpr z)
    refine lv_bipush (v := (-4)) hx hb dX1_addItem_9 (by decide) ?_
    exact retI cx hw hr hk dX1_addItem_11 ⟨hi, ((congrArg (Prod.mk (-4)) (rfl : vC f = (vC f))).trans (show _ = S_cnt 1 40 (vC f) from (S_cnt_f (k := n_1) (n := 40) en_1 (by omega) rfl (by omega)).symm)), KP.rf⟩

set_option maxHeartbeats 4000000 in
set_option maxRecDepth 100000 in
theorem k_X1_putIn (l : Launch) (D : va_G) (a : Nat → Nat) (cI cZ : ClassId) (f : FF) (u : UU) (i : Nat) (pp : Nat) (hi : IV f) (h_i : i < 40) (h_p : pp < 32) : KV l yX1_putIn cX1_putIn 3 none ({ frames := 1, cells := 0, slots := 0, locals := 12 } : Room) D a cI cZ [.ref (a 1), .int (nI i), .int (nI pp)] f u (fun f2 u2 => putC f i pp = f2 ∧ u = u2) := by
  refine KX.of (by decide) (Nat.le_of_ble_eq_true rfl) ?_
  intro p e s m below meth c cx hw hr hk ls hl
  have cx : Cx p s m _ c cX1_putIn RX1 3 D cI cZ := cx
  have hl : lv_has ls 3 [(0, .ref (a 1)), (1, .int (nI i)), (2, .int (nI pp))] := hl
  have hx := cx.1.1
  have hb := cx.1.2.1
  refine lv_aload_n hx hb dX1_putIn_0 rfl (lv_at hl 0 rfl) ?_
  refine gf_X1_31 cx hw dX1_putIn_1 ?_
  refine lv_iload_n hx hb dX1_putIn_4 rfl (lv_at hl 2 rfl) ?_
  refine lv_iload_n hx hb dX1_putIn_5 rfl (lv_at hl 1 rfl) ?_
  refine astN 14 pp cx hw rfl ws_14 (by omega) (by decide) dX1_putIn_6 (fun H locs hw => ?_)
  have hi_1 : IV (up f 14 (upd (f 14) pp (nI i))) := IV.b_14 hi (okx_n (j := i) (by omega))
  refine lv_aload_n hx hb dX1_putIn_7 rfl (lv_at hl 0 rfl) ?_
  refine gf_X1_43 cx hw dX1_putIn_8 ?_
  refine lv_iload_n hx hb dX1_putIn_11 rfl (lv_at hl 1 rfl) ?_
  refine lv_iload_n hx hb dX1_putIn_12 rfl (lv_at hl 2 rfl) ?_
  refine astN 18 i cx hw rfl ws_18 (by omega) (by decide) dX1_putIn_13 (fun H locs hw => ?_)
  have hi_2 : IV (up (up f 14 (upd (f 14) pp (nI i))) 18 (upd ((up f 14 (upd (f 14) pp (nI i))) 18) i (nI pp))) := IV.b_18 hi_1 (okx_n (j := pp) (by omega))
  exact retV cx hw hr hk dX1_putIn_14 ⟨rfl, rfl⟩

set_option maxHeartbeats 4000000 in
set_option maxRecDepth 100000 in
theorem k_X1_takeOut (l : Launch) (D : va_G) (a : Nat → Nat) (cI cZ : ClassId) (f : FF) (u : UU) (i : Nat) (pp : Nat) (hi : IV f) (h_i : i < 40) (h_p : pp < 32) (h_e : f 18 i = nI pp) : KV l yX1_takeOut cX1_takeOut 3 none ({ frames := 1, cells := 0, slots := 0, locals := 12 } : Room) D a cI cZ [.ref (a 1), .int (nI i)] f u (fun f2 u2 => takeC f i pp = f2 ∧ u = u2) := by
  refine KX.of (by decide) (Nat.le_of_ble_eq_true rfl) ?_
  intro p e s m below meth c cx hw hr hk ls hl
  have cx : Cx p s m _ c cX1_takeOut RX1 3 D cI cZ := cx
  have hl : lv_has ls 3 [(0, .ref (a 1)), (1, .int (nI i))] := hl
  have hx := cx.1.1
  have hb := cx.1.2.1
  refine lv_aload_n hx hb dX1_takeOut_0 rfl (lv_at hl 0 rfl) ?_
  refine gf_X1_43 cx hw dX1_takeOut_1 ?_
  refine lv_iload_n hx hb dX1_takeOut_4 rfl (lv_at hl 1 rfl) ?_
  refine aldN 18 i cx hw rfl (by omega) (by decide) dX1_takeOut_5 ?_
  refine topc (y := (nI pp)) h_e ?_
  refine lv_istore_n (lv' := [(2, .int (nI pp)), (0, .ref (a 1)), (1, .int (nI i))]) hx hb dX1_takeOut_6 rfl hl (by decide) rfl (fun ls hl => ?_)
  refine lv_iload_n hx hb dX1_takeOut_7 rfl (lv_at hl 0 rfl) ?_
  refine lv_iconst (v := (-1)) hx hb dX1_takeOut_8 (by decide) ?_
  refine lv_icmp_eq (tgt := 26) hx hb dX1_takeOut_9 (by decide) (fun q => absurd q (nI_m1 (by omega))) (fun _ => ?_)
  refine lv_aload_n hx hb dX1_takeOut_12 rfl (lv_at hl 1 rfl) ?_
  refine gf_X1_31 cx hw dX1_takeOut_13 ?_
  refine lv_iload_n hx hb dX1_takeOut_16 rfl (lv_at hl 0 rfl) ?_
  refine lv_iconst (v := (-1)) hx hb dX1_takeOut_17 (by decide) ?_
  refine astN 14 pp cx hw rfl ws_14 (by omega) (by decide) dX1_takeOut_18 (fun H locs hw => ?_)
  have hi_2 : IV (up f 14 (upd (f 14) pp (-1))) := IV.b_14 hi okx_m
  refine lv_aload_n hx hb dX1_takeOut_19 rfl (lv_at hl 1 rfl) ?_
  refine gf_X1_43 cx hw dX1_takeOut_20 ?_
  refine lv_iload_n hx hb dX1_takeOut_23 rfl (lv_at hl 2 rfl) ?_
  refine lv_iconst (v := (-1)) hx hb dX1_takeOut_24 (by decide) ?_
  refine astN 18 i cx hw rfl ws_18 (by omega) (by decide) dX1_takeOut_25 (fun H locs hw => ?_)
  have hi_3 : IV (up (up f 14 (upd (f 14) pp (-1))) 18 (upd ((up f 14 (upd (f 14) pp (-1))) 18) i (-1))) := IV.b_18 hi_2 okx_m
  exact retV cx hw hr hk dX1_takeOut_26 ⟨rfl, rfl⟩

set_option maxHeartbeats 4000000 in
set_option maxRecDepth 100000 in
theorem k_X1_takeOutAllOf (l : Launch) (D : va_G) (a : Nat → Nat) (cI cZ : ClassId) (f : FF) (u : UU) (sp : Int32) (hi : IV f)  : KI l yX1_takeOutAllOf cX1_takeOutAllOf 4 (some .int) ({ frames := 2, cells := 0, slots := 0, locals := 34 } : Room) D a cI cZ [.ref (a 1), .int sp] f u (fun r f2 u2 => IV f2 ∧ KK [14, 18] f f2) := by
  refine KX.of (by decide) (Nat.le_of_ble_eq_true rfl) ?_
  intro p e s m below meth c cx hw hr hk ls hl
  have cx : Cx p s m _ c cX1_takeOutAllOf RX1 4 D cI cZ := cx
  have hl : lv_has ls 4 [(0, .ref (a 1)), (1, .int sp)] := hl
  have hx := cx.1.1
  have hb := cx.1.2.1
  refine lv_iconst (v := 0) hx hb dX1_takeOutAllOf_0 (by decide) ?_
  refine lv_istore_n (lv' := [(2, .int 0), (0, .ref (a 1)), (1, .int sp)]) hx hb dX1_takeOutAllOf_1 rfl hl (by decide) rfl (fun ls hl => ?_)
  refine lv_iconst (v := 0) hx hb dX1_takeOutAllOf_2 (by decide) ?_
  refine lv_istore_n (lv' := [(3, .int 0), (2, .int 0), (0, .ref (a 1)), (1, .int sp)]) hx hb dX1_takeOutAllOf_3 rfl hl (by decide) rfl (fun ls hl => ?_)
  have loop_1 : ∀ (k_1 : Nat) (v3_1 : Nat) (v2_1 : Int32), v3_1 ≤ 40 → 40 + 1 - v3_1 < k_1 → ∀ (f_1 : FF) (u_1 : UU), IV f_1 → KK [14, 18] f f_1 → ∀ (H : Heap) (locs : List Loc) (ls : Array Slot), Wd D a cI cZ s f_1 u_1 H locs → lv_has ls 4 [(3, .int (nI v3_1)), (2, .int v2_1), (0, .ref (a 1)), (1, .int sp)] → W p l e ({ frames := 2, cells := 0, slots := 0, locals := 34 } : Room) s m ([.ref (a 1), .int sp] : List Value).toArray below meth c H locs 0 0 (MQ below (QI D a cI cZ (fun r f2 u2 => IV f2 ∧ KK [14, 18] f f2)) ([.ref (a 1), .int sp] : List Value).toArray s 0 0 (AA a)) (F0 m 4 ls []) := by
    intro k_1
    induction k_1 with
    | zero => intros; omega
    | succ k_1 ih_1 =>
      intro v3_1 v2_1  hb0_1  hm_1 f_1 u_1 hi_1 kk_1  H locs ls hw hl
      refine lv_iload_n hx hb dX1_takeOutAllOf_4 rfl (lv_at hl 0 rfl) ?_
      refine lv_aload_n hx hb dX1_takeOutAllOf_5 rfl (lv_at hl 2 rfl) ?_
      refine gf_X1_49 cx hw dX1_takeOutAllOf_6 ?_
      obtain ⟨n_2, hn_2, en_2⟩ := IV.s_1_12 hi_1
      refine topc (y := (nI n_2)) en_2 ?_
      refine lv_icmp_ge (tgt := 44) hx hb dX1_takeOutAllOf_9 (by decide) (fun c_3 => ?_) (fun c_3 => ?_)
      · have c_3 : n_2 ≤ v3_1 := (nI_leI (a := n_2) (b := v3_1) (by omega) (by omega)).mp c_3
        refine lv_iload_n hx hb dX1_takeOutAllOf_44 rfl (lv_at hl 1 rfl) ?_
        exact retI cx hw hr hk dX1_takeOutAllOf_45 ⟨hi_1, kk_1⟩
      · have c_3 : ¬ n_2 ≤ v3_1 := fun z => c_3 ((nI_leI (a := n_2) (b := v3_1) (by omega) (by omega)).mpr z)
        refine lv_aload_n hx hb dX1_takeOutAllOf_12 rfl (lv_at hl 2 rfl) ?_
        refine gf_X1_40 cx hw dX1_takeOutAllOf_13 ?_
        refine lv_iload_n hx hb dX1_takeOutAllOf_16 rfl (lv_at hl 0 rfl) ?_
        refine aldN 17 v3_1 cx hw rfl (by omega) (by decide) dX1_takeOutAllOf_17 ?_
        refine lv_topi (fun x_4 _ => ?_)
        refine lv_iload_n hx hb dX1_takeOutAllOf_18 rfl (lv_at hl 3 rfl) ?_
        refine lv_icmp_ne (tgt := 38) hx hb dX1_takeOutAllOf_19 (by decide) (fun _ => ?_) (fun _ => ?_)
        · refine lv_iinc (v := (nI (v3_1 + 1))) (lv' := [(3, .int (nI (v3_1 + 1))), (2, .int v2_1), (0, .ref (a 1)), (1, .int sp)]) hx hb dX1_takeOutAllOf_38 hl (k := 0) rfl (nI_add v3_1 1) (by decide) rfl (fun ls hl => ?_)
          refine lv_goto (tgt := 4) hx hb dX1_takeOutAllOf_41 (by decide) ?_
          exact ih_1 (v3_1 + 1) v2_1  (by omega) (by omega) f_1 u_1 hi_1 kk_1  _ _ _ hw (lv_sub hl [0, 1, 2, 3] rfl)
        · refine lv_aload_n hx hb dX1_takeOutAllOf_22 rfl (lv_at hl 2 rfl) ?_
          refine lv_iload_n hx hb dX1_takeOutAllOf_23 rfl (lv_at hl 0 rfl) ?_
          refine goI hw (runVW (k := 1) (As := [.int (nI v3_1)]) (rest := []) cx hw (k_X1_isLoaded l D a cI cZ f_1 u_1 v3_1  hi_1 (by omega)) lk_X1_73 rfl rfl ⟨Nat.le_of_ble_eq_true rfl, Nat.le_of_ble_eq_true rfl⟩ ⟨rfl, rfl⟩ ⟨Nat.zero_le _, Nat.zero_le _⟩ rfl rfl hl.1 (Nat.le_of_ble_eq_true rfl) dX1_takeOutAllOf_24) (fun r_6 f_6 u_6 H locs hp_6 hw => ?_)
          obtain ⟨rfl, rfl, ha_6⟩ := hp_6
          rcases ha_6 with ⟨er_6, q0_6_0⟩ | ⟨er_6, b1_6_j, q1_6_0, q1_6_1⟩
          · subst er_6
            refine lv_if_eq (tgt := 38) hx hb dX1_takeOutAllOf_27 (by decide) (fun _ => ?_) (fun q => absurd (by decide) q)
            refine lv_iinc (v := (nI (v3_1 + 1))) (lv' := [(3, .int (nI (v3_1 + 1))), (2, .int v2_1), (0, .ref (a 1)), (1, .int sp)]) hx hb dX1_takeOutAllOf_38 hl (k := 0) rfl (nI_add v3_1 1) (by decide) rfl (fun ls hl => ?_)
            refine lv_goto (tgt := 4) hx hb dX1_takeOutAllOf_41 (by decide) ?_
            exact ih_1 (v3_1 + 1) v2_1  (by omega) (by omega) f_1 u_1 hi_1 kk_1  _ _ _ hw (lv_sub hl [0, 1, 2, 3] rfl)
          · subst er_6
            refine lv_if_eq (tgt := 38) hx hb dX1_takeOutAllOf_27 (by decide) (fun q => absurd q (by decide)) (fun _ => ?_)
            refine lv_aload_n hx hb dX1_takeOutAllOf_30 rfl (lv_at hl 2 rfl) ?_
            refine lv_iload_n hx hb dX1_takeOutAllOf_31 rfl (lv_at hl 0 rfl) ?_
            refine goV hw (runVW (k := 1) (As := [.int (nI v3_1)]) (rest := []) cx hw (k_X1_takeOut l D a cI cZ f_1 u_1 v3_1 b1_6_j hi_1 (by omega) (by omega) q1_6_1) lk_X1_76 rfl rfl ⟨Nat.le_of_ble_eq_true rfl, Nat.le_of_ble_eq_true rfl⟩ ⟨rfl, rfl⟩ ⟨Nat.zero_le _, Nat.zero_le _⟩ rfl rfl hl.1 (Nat.le_of_ble_eq_true rfl) dX1_takeOutAllOf_32) (fun f_9 u_9 H locs hp_9 hw => ?_)
            have hi_10 : IV (takeC f_1 v3_1 b1_6_j) := IV.wtakeC hi_1
            obtain ⟨rfl, rfl⟩ := hp_9
            refine lv_iinc (v := (v2_1 + 1)) (lv' := [(2, .int (v2_1 + 1)), (3, .int (nI v3_1)), (0, .ref (a 1)), (1, .int sp)]) hx hb dX1_takeOutAllOf_35 hl (k := 1) rfl rfl (by decide) rfl (fun ls hl => ?_)
            refine lv_iinc (v := (nI (v3_1 + 1))) (lv' := [(3, .int (nI (v3_1 + 1))), (2, .int (v2_1 + 1)), (0, .ref (a 1)), (1, .int sp)]) hx hb dX1_takeOutAllOf_38 hl (k := 1) rfl (nI_add v3_1 1) (by decide) rfl (fun ls hl => ?_)
            refine lv_goto (tgt := 4) hx hb dX1_takeOutAllOf_41 (by decide) ?_
            exact ih_1 (v3_1 + 1) (v2_1 + 1)  (by omega) (by omega) (takeC f_1 v3_1 b1_6_j) u_1 hi_10 (KK.wtakeC (by decide) kk_1)  _ _ _ hw (lv_sub hl [0, 1, 2, 3] rfl)
  exact loop_1 _ 0 0  (by omega)  (Nat.lt_succ_self _) f u hi KK.rf  _ _ _ hw (lv_sub hl [0, 1, 2, 3] rfl)

set_option maxHeartbeats 4000000 in
set_option maxRecDepth 100000 in
theorem k_X1_weightAt (l : Launch) (D : va_G) (a : Nat → Nat) (cI cZ : ClassId) (f : FF) (u : UU) (pp : Nat) (hi : IV f) (h_p : pp < 32) : KI l yX1_weightAt cX1_weightAt 3 (some .int) ({ frames := 1, cells := 0, slots := 0, locals := 12 } : Room) D a cI cZ [.ref (a 1), .int (nI pp)] f u (fun r f2 u2 => f = f2 ∧ u = u2) := by
  refine KX.of (by decide) (Nat.le_of_ble_eq_true rfl) ?_
  intro p e s m below meth c cx hw hr hk ls hl
  have cx : Cx p s m _ c cX1_weightAt RX1 3 D cI cZ := cx
  have hl : lv_has ls 3 [(0, .ref (a 1)), (1, .int (nI pp))] := hl
  have hx := cx.1.1
  have hb := cx.1.2.1
  refine lv_aload_n hx hb dX1_weightAt_0 rfl (lv_at hl 0 rfl) ?_
  refine gf_X1_31 cx hw dX1_weightAt_1 ?_
  refine lv_iload_n hx hb dX1_weightAt_4 rfl (lv_at hl 1 rfl) ?_
  refine aldN 14 pp cx hw rfl (by omega) (by decide) dX1_weightAt_5 ?_
  rcases IV.a_14 hi (i := pp) (by omega) with en_1 | ⟨n_1, hn_1, en_1⟩
  · refine topc (y := (-1)) en_1 ?_
    refine lv_istore_n (lv' := [(2, .int (-1)), (0, .ref (a 1)), (1, .int (nI pp))]) hx hb dX1_weightAt_6 rfl hl (by decide) rfl (fun ls hl => ?_)
    refine lv_iload_n hx hb dX1_weightAt_7 rfl (lv_at hl 0 rfl) ?_
    refine lv_iconst (v := (-1)) hx hb dX1_weightAt_8 (by decide) ?_
    refine lv_icmp_ne (tgt := 16) hx hb dX1_weightAt_9 (by decide) (fun q => absurd (by decide) q) (fun _ => ?_)
    refine lv_iconst (v := 0) hx hb dX1_weightAt_12 (by decide) ?_
    refine lv_goto (tgt := 22) hx hb dX1_weightAt_13 (by decide) ?_
    exact retI cx hw hr hk dX1_weightAt_22 ⟨rfl, rfl⟩
  · refine topc (y := (nI n_1)) en_1 ?_
    refine lv_istore_n (lv' := [(2, .int (nI n_1)), (0, .ref (a 1)), (1, .int (nI pp))]) hx hb dX1_weightAt_6 rfl hl (by decide) rfl (fun ls hl => ?_)
    refine lv_iload_n hx hb dX1_weightAt_7 rfl (lv_at hl 0 rfl) ?_
    refine lv_iconst (v := (-1)) hx hb dX1_weightAt_8 (by decide) ?_
    refine lv_icmp_ne (tgt := 16) hx hb dX1_weightAt_9 (by decide) (fun _ => ?_) (fun q => absurd q (nI_m1 (by omega)))
    refine lv_aload_n hx hb dX1_weightAt_16 rfl (lv_at hl 1 rfl) ?_
    refine gf_X1_34 cx hw dX1_weightAt_17 ?_
    refine lv_iload_n hx hb dX1_weightAt_20 rfl (lv_at hl 0 rfl) ?_
    refine aldN 15 n_1 cx hw rfl (by omega) (by decide) dX1_weightAt_21 ?_
    refine lv_topi (fun x_4 _ => ?_)
    exact retI cx hw hr hk dX1_weightAt_22 ⟨rfl, rfl⟩

set_option maxHeartbeats 4000000 in
set_option maxRecDepth 100000 in
theorem k_X1_weightInHold (l : Launch) (D : va_G) (a : Nat → Nat) (cI cZ : ClassId) (f : FF) (u : UU) (h : Nat) (hi : IV f) (h_h : h < 4) : KI l yX1_weightInHold cX1_weightInHold 4 (some .int) ({ frames := 2, cells := 0, slots := 0, locals := 34 } : Room) D a cI cZ [.ref (a 1), .int (nI h)] f u (fun r f2 u2 => f = f2 ∧ u = u2) := by
  refine KX.of (by decide) (Nat.le_of_ble_eq_true rfl) ?_
  intro p e s m below meth c cx hw hr hk ls hl
  have cx : Cx p s m _ c cX1_weightInHold RX1 4 D cI cZ := cx
  have hl : lv_has ls 4 [(0, .ref (a 1)), (1, .int (nI h))] := hl
  have hx := cx.1.1
  have hb := cx.1.2.1
  refine lv_iconst (v := 0) hx hb dX1_weightInHold_0 (by decide) ?_
  refine lv_istore_n (lv' := [(2, .int 0), (0, .ref (a 1)), (1, .int (nI h))]) hx hb dX1_weightInHold_1 rfl hl (by decide) rfl (fun ls hl => ?_)
  refine lv_iconst (v := 0) hx hb dX1_weightInHold_2 (by decide) ?_
  refine lv_istore_n (lv' := [(3, .int 0), (2, .int 0), (0, .ref (a 1)), (1, .int (nI h))]) hx hb dX1_weightInHold_3 rfl hl (by decide) rfl (fun ls hl => ?_)
  have loop_1 : ∀ (k_1 : Nat) (v3_1 : Nat) (v2_1 : Int32), v3_1 ≤ 8 → 8 + 1 - v3_1 < k_1 → ∀ (H : Heap) (locs : List Loc) (ls : Array Slot), Wd D a cI cZ s f u H locs → lv_has ls 4 [(3, .int (nI v3_1)), (2, .int v2_1), (0, .ref (a 1)), (1, .int (nI h))] → W p l e ({ frames := 2, cells := 0, slots := 0, locals := 34 } : Room) s m ([.ref (a 1), .int (nI h)] : List Value).toArray below meth c H locs 0 0 (MQ below (QI D a cI cZ (fun r f2 u2 => f = f2 ∧ u = u2)) ([.ref (a 1), .int (nI h)] : List Value).toArray s 0 0 (AA a)) (F0 m 4 ls []) := by
    intro k_1
    induction k_1 with
    | zero => intros; omega
    | succ k_1 ih_1 =>
      intro v3_1 v2_1  hb0_1  hm_1  H locs ls hw hl
      refine lv_iload_n hx hb dX1_weightInHold_4 rfl (lv_at hl 0 rfl) ?_
      refine lv_aload_n hx hb dX1_weightInHold_5 rfl (lv_at hl 2 rfl) ?_
      refine gf_X1_18 cx hw dX1_weightInHold_6 ?_
      refine lv_iload_n hx hb dX1_weightInHold_9 rfl (lv_at hl 3 rfl) ?_
      refine aldN 11 h cx hw rfl (by omega) (by decide) dX1_weightInHold_10 ?_
      obtain ⟨n_2, hn_2, en_2⟩ := IV.a_11 hi (i := h) (by omega)
      refine topc (y := (nI n_2)) en_2 ?_
      refine lv_icmp_ge (tgt := 32) hx hb dX1_weightInHold_11 (by decide) (fun c_3 => ?_) (fun c_3 => ?_)
      · have c_3 : n_2 ≤ v3_1 := (nI_leI (a := n_2) (b := v3_1) (by omega) (by omega)).mp c_3
        refine lv_iload_n hx hb dX1_weightInHold_32 rfl (lv_at hl 1 rfl) ?_
        exact retI cx hw hr hk dX1_weightInHold_33 ⟨rfl, rfl⟩
      · have c_3 : ¬ n_2 ≤ v3_1 := fun z => c_3 ((nI_leI (a := n_2) (b := v3_1) (by omega) (by omega)).mpr z)
        refine lv_iload_n hx hb dX1_weightInHold_14 rfl (lv_at hl 1 rfl) ?_
        refine lv_aload_n hx hb dX1_weightInHold_15 rfl (lv_at hl 2 rfl) ?_
        refine lv_iload_n hx hb dX1_weightInHold_16 rfl (lv_at hl 3 rfl) ?_
        refine lv_iload_n hx hb dX1_weightInHold_17 rfl (lv_at hl 0 rfl) ?_
        refine goI hw (runSW (As := [.int (nI h), .int (nI v3_1)]) (rest := [.ref (a 1), .int v2_1]) cx hw (k_X1_placeOf l D a cI cZ f u h v3_1  ) lk_X1_65 ⟨Nat.le_of_ble_eq_true rfl, Nat.le_of_ble_eq_true rfl⟩ ⟨rfl, rfl⟩ ⟨Nat.zero_le _, Nat.zero_le _⟩ rfl rfl hl.1 (Nat.le_of_ble_eq_true rfl) dX1_weightInHold_18) (fun r_4 f_4 u_4 H locs hp_4 hw => ?_)
        obtain ⟨rfl, rfl, ha_4⟩ := hp_4
        have er_4 := ha_4
        · subst er_4
          refine goI hw (runVW (k := 1) (As := [.int (nI (h * 8 + v3_1))]) (rest := [.int v2_1]) cx hw (k_X1_weightAt l D a cI cZ f u (h * 8 + v3_1)  hi (by omega)) lk_X1_91 rfl rfl ⟨Nat.le_of_ble_eq_true rfl, Nat.le_of_ble_eq_true rfl⟩ ⟨rfl, rfl⟩ ⟨Nat.zero_le _, Nat.zero_le _⟩ rfl rfl hl.1 (Nat.le_of_ble_eq_true rfl) dX1_weightInHold_21) (fun r_5 f_5 u_5 H locs hp_5 hw => ?_)
          obtain ⟨rfl, rfl⟩ := hp_5
          refine lv_iadd hx hb dX1_weightInHold_24 ?_
          refine lv_topi (fun x_6 _ => ?_)
          refine lv_istore_n (lv' := [(2, .int x_6), (3, .int (nI v3_1)), (0, .ref (a 1)), (1, .int (nI h))]) hx hb dX1_weightInHold_25 rfl hl (by decide) rfl (fun ls hl => ?_)
          refine lv_iinc (v := (nI (v3_1 + 1))) (lv' := [(3, .int (nI (v3_1 + 1))), (2, .int x_6), (0, .ref (a 1)), (1, .int (nI h))]) hx hb dX1_weightInHold_26 hl (k := 1) rfl (nI_add v3_1 1) (by decide) rfl (fun ls hl => ?_)
          refine lv_goto (tgt := 4) hx hb dX1_weightInHold_29 (by decide) ?_
          exact ih_1 (v3_1 + 1) x_6  (by omega) (by omega) _ _ _ hw (lv_sub hl [0, 1, 2, 3] rfl)
  exact loop_1 _ 0 0  (by omega)  (Nat.lt_succ_self _) _ _ _ hw (lv_sub hl [0, 1, 2, 3] rfl)

set_option maxHeartbeats 4000000 in
set_option maxRecDepth 100000 in
theorem k_X1_isTooMuchForFloor (l : Launch) (D : va_G) (a : Nat → Nat) (cI cZ : ClassId) (f : FF) (u : UU) (we : Int32) (pp : Nat) (hi : IV f) (h_p : pp < 32) : KI l yX1_isTooMuchForFloor cX1_isTooMuchForFloor 8 (some .boolean) ({ frames := 2, cells := 0, slots := 0, locals := 34 } : Room) D a cI cZ [.ref (a 1), .int we, .int (nI pp)] f u (fun r f2 u2 => f = f2 ∧ u = u2) := by
  refine KX.of (by decide) (Nat.le_of_ble_eq_true rfl) ?_
  intro p e s m below meth c cx hw hr hk ls hl
  have cx : Cx p s m _ c cX1_isTooMuchForFloor RX1 8 D cI cZ := cx
  have hl : lv_has ls 8 [(0, .ref (a 1)), (1, .int we), (2, .int (nI pp))] := hl
  have hx := cx.1.1
  have hb := cx.1.2.1
  refine lv_iload_n hx hb dX1_isTooMuchForFloor_0 rfl (lv_at hl 2 rfl) ?_
  refine lv_bipush (v := 8) hx hb dX1_isTooMuchForFloor_1 (by decide) ?_
  refine lv_idiv hx hb dX1_isTooMuchForFloor_3 (by decide) ?_
  refine topc (y := (nI (pp / 8))) (pk_div (a := pp) (d := 8) (by omega) (by decide) (by decide)) ?_
  refine lv_istore_n (lv' := [(3, .int (nI (pp / 8))), (0, .ref (a 1)), (1, .int we), (2, .int (nI pp))]) hx hb dX1_isTooMuchForFloor_4 rfl hl (by decide) rfl (fun ls hl => ?_)
  refine lv_iload_n hx hb dX1_isTooMuchForFloor_5 rfl (lv_at hl 3 rfl) ?_
  refine lv_bipush (v := 8) hx hb dX1_isTooMuchForFloor_6 (by decide) ?_
  refine lv_irem hx hb dX1_isTooMuchForFloor_8 (by decide) ?_
  refine topc (y := (nI (pp % 8))) (pk_rem (a := pp) (d := 8) (by omega) (by decide) (by decide)) ?_
  refine lv_istore (lv' := [(4, .int (nI (pp % 8))), (3, .int (nI (pp / 8))), (0, .ref (a 1)), (1, .int we), (2, .int (nI pp))]) hx hb dX1_isTooMuchForFloor_9 hl (by decide) rfl (fun ls hl => ?_)
  refine lv_aload_n hx hb dX1_isTooMuchForFloor_11 rfl (lv_at hl 2 rfl) ?_
  refine gf_X1_15 cx hw dX1_isTooMuchForFloor_12 ?_
  refine lv_iload_n hx hb dX1_isTooMuchForFloor_15 rfl (lv_at hl 1 rfl) ?_
  refine aldN 10 (pp / 8) cx hw rfl (by omega) (by decide) dX1_isTooMuchForFloor_16 ?_
  refine lv_topi (fun x_1 _ => ?_)
  refine lv_istore (lv' := [(5, .int x_1), (4, .int (nI (pp % 8))), (3, .int (nI (pp / 8))), (0, .ref (a 1)), (1, .int we), (2, .int (nI pp))]) hx hb dX1_isTooMuchForFloor_17 hl (by decide) rfl (fun ls hl => ?_)
  refine lv_iload hx hb dX1_isTooMuchForFloor_19 (lv_at hl 1 rfl) ?_
  refine lv_if_le (tgt := 42) hx hb dX1_isTooMuchForFloor_21 (by decide) (fun c_2 => ?_) (fun c_2 => ?_)
  · have c_2 : (pp % 8) ≤ 0 := (nI_leI (a := (pp % 8)) (b := 0) (by omega) (by omega)).mp c_2
    refine lv_iconst (v := 0) hx hb dX1_isTooMuchForFloor_42 (by decide) ?_
    refine lv_istore (lv' := [(6, .int 0), (5, .int x_1), (4, .int (nI (pp % 8))), (3, .int (nI (pp / 8))), (0, .ref (a 1)), (1, .int we), (2, .int (nI pp))]) hx hb dX1_isTooMuchForFloor_43 hl (by decide) rfl (fun ls hl => ?_)
    refine lv_iload hx hb dX1_isTooMuchForFloor_45 (lv_at hl 2 rfl) ?_
    refine lv_iconst (v := 1) hx hb dX1_isTooMuchForFloor_47 (by decide) ?_
    refine lv_iadd hx hb dX1_isTooMuchForFloor_48 ?_
    refine topc (y := (nI ((pp % 8) + 1))) (nI_add (pp % 8) 1) ?_
    refine lv_aload_n hx hb dX1_isTooMuchForFloor_49 rfl (lv_at hl 4 rfl) ?_
    refine gf_X1_18 cx hw dX1_isTooMuchForFloor_50 ?_
    refine lv_iload_n hx hb dX1_isTooMuchForFloor_53 rfl (lv_at hl 3 rfl) ?_
    refine aldN 11 (pp / 8) cx hw rfl (by omega) (by decide) dX1_isTooMuchForFloor_54 ?_
    obtain ⟨n_3, hn_3, en_3⟩ := IV.a_11 hi (i := (pp / 8)) (by omega)
    refine topc (y := (nI n_3)) en_3 ?_
    refine lv_icmp_ge (tgt := 76) hx hb dX1_isTooMuchForFloor_55 (by decide) (fun c_4 => ?_) (fun c_4 => ?_)
    · have c_4 : n_3 ≤ ((pp % 8) + 1) := (nI_leI (a := n_3) (b := ((pp % 8) + 1)) (by omega) (by omega)).mp c_4
      refine lv_iconst (v := 0) hx hb dX1_isTooMuchForFloor_76 (by decide) ?_
      refine lv_istore (lv' := [(7, .int 0), (6, .int 0), (5, .int x_1), (4, .int (nI (pp % 8))), (3, .int (nI (pp / 8))), (0, .ref (a 1)), (1, .int we), (2, .int (nI pp))]) hx hb dX1_isTooMuchForFloor_77 hl (by decide) rfl (fun ls hl => ?_)
      refine lv_iload hx hb dX1_isTooMuchForFloor_79 (lv_at hl 1 rfl) ?_
      refine lv_if_ne (tgt := 89) hx hb dX1_isTooMuchForFloor_81 (by decide) (fun q => absurd (by decide) q) (fun _ => ?_)
      refine lv_iload hx hb dX1_isTooMuchForFloor_84 (lv_at hl 0 rfl) ?_
      refine lv_if_eq (tgt := 93) hx hb dX1_isTooMuchForFloor_86 (by decide) (fun _ => ?_) (fun q => absurd (by decide) q)
      refine lv_iconst (v := 0) hx hb dX1_isTooMuchForFloor_93 (by decide) ?_
      exact retZ cx hw hr hk rfl dX1_isTooMuchForFloor_94 ⟨rfl, rfl⟩
    · have c_4 : ¬ n_3 ≤ ((pp % 8) + 1) := fun z => c_4 ((nI_leI (a := n_3) (b := ((pp % 8) + 1)) (by omega) (by omega)).mpr z)
      refine lv_aload_n hx hb dX1_isTooMuchForFloor_58 rfl (lv_at hl 4 rfl) ?_
      refine lv_iload_n hx hb dX1_isTooMuchForFloor_59 rfl (lv_at hl 6 rfl) ?_
      refine lv_iconst (v := 1) hx hb dX1_isTooMuchForFloor_60 (by decide) ?_
      refine lv_iadd hx hb dX1_isTooMuchForFloor_61 ?_
      refine topc (y := (nI (pp + 1))) (nI_add pp 1) ?_
      refine goI hw (runVW (k := 1) (As := [.int (nI (pp + 1))]) (rest := []) cx hw (k_X1_weightAt l D a cI cZ f u (pp + 1)  hi (by omega)) lk_X1_91 rfl rfl ⟨Nat.le_of_ble_eq_true rfl, Nat.le_of_ble_eq_true rfl⟩ ⟨rfl, rfl⟩ ⟨Nat.zero_le _, Nat.zero_le _⟩ rfl rfl hl.1 (Nat.le_of_ble_eq_true rfl) dX1_isTooMuchForFloor_62) (fun r_7 f_7 u_7 H locs hp_7 hw => ?_)
      obtain ⟨rfl, rfl⟩ := hp_7
      refine lv_iload_n hx hb dX1_isTooMuchForFloor_65 rfl (lv_at hl 5 rfl) ?_
      refine lv_iadd hx hb dX1_isTooMuchForFloor_66 ?_
      refine lv_topi (fun x_8 _ => ?_)
      refine lv_iload hx hb dX1_isTooMuchForFloor_67 (lv_at hl 1 rfl) ?_
      refine lv_icmp_le (tgt := 76) hx hb dX1_isTooMuchForFloor_69 (by decide) (fun _ => ?_) (fun _ => ?_)
      · refine lv_iconst (v := 0) hx hb dX1_isTooMuchForFloor_76 (by decide) ?_
        refine lv_istore (lv' := [(7, .int 0), (6, .int 0), (5, .int x_1), (4, .int (nI (pp % 8))), (3, .int (nI (pp / 8))), (0, .ref (a 1)), (1, .int we), (2, .int (nI pp))]) hx hb dX1_isTooMuchForFloor_77 hl (by decide) rfl (fun ls hl => ?_)
        refine lv_iload hx hb dX1_isTooMuchForFloor_79 (lv_at hl 1 rfl) ?_
        refine lv_if_ne (tgt := 89) hx hb dX1_isTooMuchForFloor_81 (by decide) (fun q => absurd (by decide) q) (fun _ => ?_)
        refine lv_iload hx hb dX1_isTooMuchForFloor_84 (lv_at hl 0 rfl) ?_
        refine lv_if_eq (tgt := 93) hx hb dX1_isTooMuchForFloor_86 (by decide) (fun _ => ?_) (fun q => absurd (by decide) q)
        refine lv_iconst (v := 0) hx hb dX1_isTooMuchForFloor_93 (by decide) ?_
        exact retZ cx hw hr hk rfl dX1_isTooMuchForFloor_94 ⟨rfl, rfl⟩
      · refine lv_iconst (v := 1) hx hb dX1_isTooMuchForFloor_72 (by decide) ?_
        refine lv_goto (tgt := 77) hx hb dX1_isTooMuchForFloor_73 (by decide) ?_
        refine lv_istore (lv' := [(7, .int 1), (6, .int 0), (5, .int x_1), (4, .int (nI (pp % 8))), (3, .int (nI (pp / 8))), (0, .ref (a 1)), (1, .int we), (2, .int (nI pp))]) hx hb dX1_isTooMuchForFloor_77 hl (by decide) rfl (fun ls hl => ?_)
        refine lv_iload hx hb dX1_isTooMuchForFloor_79 (lv_at hl 1 rfl) ?_
        refine lv_if_ne (tgt := 89) hx hb dX1_isTooMuchForFloor_81 (by decide) (fun q => absurd (by decide) q) (fun _ => ?_)
        refine lv_iload hx hb dX1_isTooMuchForFloor_84 (lv_at hl 0 rfl) ?_
        refine lv_if_eq (tgt := 93) hx hb dX1_isTooMuchForFloor_86 (by decide) (fun q => absurd q (by decide)) (fun _ => ?_)
        refine lv_iconst (v := 1) hx hb dX1_isTooMuchForFloor_89 (by decide) ?_
        refine lv_goto (tgt := 94) hx hb dX1_isTooMuchForFloor_90 (by decide) ?_
        exact retZ cx hw hr hk rfl dX1_isTooMuchForFloor_94 ⟨rfl, rfl⟩
  · have c_2 : ¬ (pp % 8) ≤ 0 := fun z => c_2 ((nI_leI (a := (pp % 8)) (b := 0) (by omega) (by omega)).mpr z)
    refine lv_aload_n hx hb dX1_isTooMuchForFloor_24 rfl (lv_at hl 3 rfl) ?_
    refine lv_iload_n hx hb dX1_isTooMuchForFloor_25 rfl (lv_at hl 5 rfl) ?_
    refine lv_iconst (v := 1) hx hb dX1_isTooMuchForFloor_26 (by decide) ?_
    refine lv_isub hx hb dX1_isTooMuchForFloor_27 ?_
    refine topc (y := (nI (pp - 1))) (pk_sub (a := pp) (b := 1) (by omega)) ?_
    refine goI hw (runVW (k := 1) (As := [.int (nI (pp - 1))]) (rest := []) cx hw (k_X1_weightAt l D a cI cZ f u (pp - 1)  hi (by omega)) lk_X1_91 rfl rfl ⟨Nat.le_of_ble_eq_true rfl, Nat.le_of_ble_eq_true rfl⟩ ⟨rfl, rfl⟩ ⟨Nat.zero_le _, Nat.zero_le _⟩ rfl rfl hl.1 (Nat.le_of_ble_eq_true rfl) dX1_isTooMuchForFloor_28) (fun r_14 f_14 u_14 H locs hp_14 hw => ?_)
    obtain ⟨rfl, rfl⟩ := hp_14
    refine lv_iload_n hx hb dX1_isTooMuchForFloor_31 rfl (lv_at hl 4 rfl) ?_
    refine lv_iadd hx hb dX1_isTooMuchForFloor_32 ?_
    refine lv_topi (fun x_15 _ => ?_)
    refine lv_iload hx hb dX1_isTooMuchForFloor_33 (lv_at hl 0 rfl) ?_
    refine lv_icmp_le (tgt := 42) hx hb dX1_isTooMuchForFloor_35 (by decide) (fun _ => ?_) (fun _ => ?_)
    · refine lv_iconst (v := 0) hx hb dX1_isTooMuchForFloor_42 (by decide) ?_
      refine lv_istore (lv' := [(6, .int 0), (5, .int x_1), (4, .int (nI (pp % 8))), (3, .int (nI (pp / 8))), (0, .ref (a 1)), (1, .int we), (2, .int (nI pp))]) hx hb dX1_isTooMuchForFloor_43 hl (by decide) rfl (fun ls hl => ?_)
      refine lv_iload hx hb dX1_isTooMuchForFloor_45 (lv_at hl 2 rfl) ?_
      refine lv_iconst (v := 1) hx hb dX1_isTooMuchForFloor_47 (by decide) ?_
      refine lv_iadd hx hb dX1_isTooMuchForFloor_48 ?_
      refine topc (y := (nI ((pp % 8) + 1))) (nI_add (pp % 8) 1) ?_
      refine lv_aload_n hx hb dX1_isTooMuchForFloor_49 rfl (lv_at hl 4 rfl) ?_
      refine gf_X1_18 cx hw dX1_isTooMuchForFloor_50 ?_
      refine lv_iload_n hx hb dX1_isTooMuchForFloor_53 rfl (lv_at hl 3 rfl) ?_
      refine aldN 11 (pp / 8) cx hw rfl (by omega) (by decide) dX1_isTooMuchForFloor_54 ?_
      obtain ⟨n_17, hn_17, en_17⟩ := IV.a_11 hi (i := (pp / 8)) (by omega)
      refine topc (y := (nI n_17)) en_17 ?_
      refine lv_icmp_ge (tgt := 76) hx hb dX1_isTooMuchForFloor_55 (by decide) (fun c_18 => ?_) (fun c_18 => ?_)
      · have c_18 : n_17 ≤ ((pp % 8) + 1) := (nI_leI (a := n_17) (b := ((pp % 8) + 1)) (by omega) (by omega)).mp c_18
        refine lv_iconst (v := 0) hx hb dX1_isTooMuchForFloor_76 (by decide) ?_
        refine lv_istore (lv' := [(7, .int 0), (6, .int 0), (5, .int x_1), (4, .int (nI (pp % 8))), (3, .int (nI (pp / 8))), (0, .ref (a 1)), (1, .int we), (2, .int (nI pp))]) hx hb dX1_isTooMuchForFloor_77 hl (by decide) rfl (fun ls hl => ?_)
        refine lv_iload hx hb dX1_isTooMuchForFloor_79 (lv_at hl 1 rfl) ?_
        refine lv_if_ne (tgt := 89) hx hb dX1_isTooMuchForFloor_81 (by decide) (fun q => absurd (by decide) q) (fun _ => ?_)
        refine lv_iload hx hb dX1_isTooMuchForFloor_84 (lv_at hl 0 rfl) ?_
        refine lv_if_eq (tgt := 93) hx hb dX1_isTooMuchForFloor_86 (by decide) (fun _ => ?_) (fun q => absurd (by decide) q)
        refine lv_iconst (v := 0) hx hb dX1_isTooMuchForFloor_93 (by decide) ?_
        exact retZ cx hw hr hk rfl dX1_isTooMuchForFloor_94 ⟨rfl, rfl⟩
      · have c_18 : ¬ n_17 ≤ ((pp % 8) + 1) := fun z => c_18 ((nI_leI (a := n_17) (b := ((pp % 8) + 1)) (by omega) (by omega)).mpr z)
        refine lv_aload_n hx hb dX1_isTooMuchForFloor_58 rfl (lv_at hl 4 rfl) ?_
        refine lv_iload_n hx hb dX1_isTooMuchForFloor_59 rfl (lv_at hl 6 rfl) ?_
        refine lv_iconst (v := 1) hx hb dX1_isTooMuchForFloor_60 (by decide) ?_
        refine lv_iadd hx hb dX1_isTooMuchForFloor_61 ?_
        refine topc (y := (nI (pp + 1))) (nI_add pp 1) ?_
        refine goI hw (runVW (k := 1) (As := [.int (nI (pp + 1))]) (rest := []) cx hw (k_X1_weightAt l D a cI cZ f u (pp + 1)  hi (by omega)) lk_X1_91 rfl rfl ⟨Nat.le_of_ble_eq_true rfl, Nat.le_of_ble_eq_true rfl⟩ ⟨rfl, rfl⟩ ⟨Nat.zero_le _, Nat.zero_le _⟩ rfl rfl hl.1 (Nat.le_of_ble_eq_true rfl) dX1_isTooMuchForFloor_62) (fun r_21 f_21 u_21 H locs hp_21 hw => ?_)
        obtain ⟨rfl, rfl⟩ := hp_21
        refine lv_iload_n hx hb dX1_isTooMuchForFloor_65 rfl (lv_at hl 5 rfl) ?_
        refine lv_iadd hx hb dX1_isTooMuchForFloor_66 ?_
        refine lv_topi (fun x_22 _ => ?_)
        refine lv_iload hx hb dX1_isTooMuchForFloor_67 (lv_at hl 1 rfl) ?_
        refine lv_icmp_le (tgt := 76) hx hb dX1_isTooMuchForFloor_69 (by decide) (fun _ => ?_) (fun _ => ?_)
        · refine lv_iconst (v := 0) hx hb dX1_isTooMuchForFloor_76 (by decide) ?_
          refine lv_istore (lv' := [(7, .int 0), (6, .int 0), (5, .int x_1), (4, .int (nI (pp % 8))), (3, .int (nI (pp / 8))), (0, .ref (a 1)), (1, .int we), (2, .int (nI pp))]) hx hb dX1_isTooMuchForFloor_77 hl (by decide) rfl (fun ls hl => ?_)
          refine lv_iload hx hb dX1_isTooMuchForFloor_79 (lv_at hl 1 rfl) ?_
          refine lv_if_ne (tgt := 89) hx hb dX1_isTooMuchForFloor_81 (by decide) (fun q => absurd (by decide) q) (fun _ => ?_)
          refine lv_iload hx hb dX1_isTooMuchForFloor_84 (lv_at hl 0 rfl) ?_
          refine lv_if_eq (tgt := 93) hx hb dX1_isTooMuchForFloor_86 (by decide) (fun _ => ?_) (fun q => absurd (by decide) q)
          refine lv_iconst (v := 0) hx hb dX1_isTooMuchForFloor_93 (by decide) ?_
          exact retZ cx hw hr hk rfl dX1_isTooMuchForFloor_94 ⟨rfl, rfl⟩
        · refine lv_iconst (v := 1) hx hb dX1_isTooMuchForFloor_72 (by decide) ?_
          refine lv_goto (tgt := 77) hx hb dX1_isTooMuchForFloor_73 (by decide) ?_
          refine lv_istore (lv' := [(7, .int 1), (6, .int 0), (5, .int x_1), (4, .int (nI (pp % 8))), (3, .int (nI (pp / 8))), (0, .ref (a 1)), (1, .int we), (2, .int (nI pp))]) hx hb dX1_isTooMuchForFloor_77 hl (by decide) rfl (fun ls hl => ?_)
          refine lv_iload hx hb dX1_isTooMuchForFloor_79 (lv_at hl 1 rfl) ?_
          refine lv_if_ne (tgt := 89) hx hb dX1_isTooMuchForFloor_81 (by decide) (fun q => absurd (by decide) q) (fun _ => ?_)
          refine lv_iload hx hb dX1_isTooMuchForFloor_84 (lv_at hl 0 rfl) ?_
          refine lv_if_eq (tgt := 93) hx hb dX1_isTooMuchForFloor_86 (by decide) (fun q => absurd q (by decide)) (fun _ => ?_)
          refine lv_iconst (v := 1) hx hb dX1_isTooMuchForFloor_89 (by decide) ?_
          refine lv_goto (tgt := 94) hx hb dX1_isTooMuchForFloor_90 (by decide) ?_
          exact retZ cx hw hr hk rfl dX1_isTooMuchForFloor_94 ⟨rfl, rfl⟩
    · refine lv_iconst (v := 1) hx hb dX1_isTooMuchForFloor_38 (by decide) ?_
      refine lv_goto (tgt := 43) hx hb dX1_isTooMuchForFloor_39 (by decide) ?_
      refine lv_istore (lv' := [(6, .int 1), (5, .int x_1), (4, .int (nI (pp % 8))), (3, .int (nI (pp / 8))), (0, .ref (a 1)), (1, .int we), (2, .int (nI pp))]) hx hb dX1_isTooMuchForFloor_43 hl (by decide) rfl (fun ls hl => ?_)
      refine lv_iload hx hb dX1_isTooMuchForFloor_45 (lv_at hl 2 rfl) ?_
      refine lv_iconst (v := 1) hx hb dX1_isTooMuchForFloor_47 (by decide) ?_
      refine lv_iadd hx hb dX1_isTooMuchForFloor_48 ?_
      refine topc (y := (nI ((pp % 8) + 1))) (nI_add (pp % 8) 1) ?_
      refine lv_aload_n hx hb dX1_isTooMuchForFloor_49 rfl (lv_at hl 4 rfl) ?_
      refine gf_X1_18 cx hw dX1_isTooMuchForFloor_50 ?_
      refine lv_iload_n hx hb dX1_isTooMuchForFloor_53 rfl (lv_at hl 3 rfl) ?_
      refine aldN 11 (pp / 8) cx hw rfl (by omega) (by decide) dX1_isTooMuchForFloor_54 ?_
      obtain ⟨n_28, hn_28, en_28⟩ := IV.a_11 hi (i := (pp / 8)) (by omega)
      refine topc (y := (nI n_28)) en_28 ?_
      refine lv_icmp_ge (tgt := 76) hx hb dX1_isTooMuchForFloor_55 (by decide) (fun c_29 => ?_) (fun c_29 => ?_)
      · have c_29 : n_28 ≤ ((pp % 8) + 1) := (nI_leI (a := n_28) (b := ((pp % 8) + 1)) (by omega) (by omega)).mp c_29
        refine lv_iconst (v := 0) hx hb dX1_isTooMuchForFloor_76 (by decide) ?_
        refine lv_istore (lv' := [(7, .int 0), (6, .int 1), (5, .int x_1), (4, .int (nI (pp % 8))), (3, .int (nI (pp / 8))), (0, .ref (a 1)), (1, .int we), (2, .int (nI pp))]) hx hb dX1_isTooMuchForFloor_77 hl (by decide) rfl (fun ls hl => ?_)
        refine lv_iload hx hb dX1_isTooMuchForFloor_79 (lv_at hl 1 rfl) ?_
        refine lv_if_ne (tgt := 89) hx hb dX1_isTooMuchForFloor_81 (by decide) (fun _ => ?_) (fun q => absurd q (by decide))
        refine lv_iconst (v := 1) hx hb dX1_isTooMuchForFloor_89 (by decide) ?_
        refine lv_goto (tgt := 94) hx hb dX1_isTooMuchForFloor_90 (by decide) ?_
        exact retZ cx hw hr hk rfl dX1_isTooMuchForFloor_94 ⟨rfl, rfl⟩
      · have c_29 : ¬ n_28 ≤ ((pp % 8) + 1) := fun z => c_29 ((nI_leI (a := n_28) (b := ((pp % 8) + 1)) (by omega) (by omega)).mpr z)
        refine lv_aload_n hx hb dX1_isTooMuchForFloor_58 rfl (lv_at hl 4 rfl) ?_
        refine lv_iload_n hx hb dX1_isTooMuchForFloor_59 rfl (lv_at hl 6 rfl) ?_
        refine lv_iconst (v := 1) hx hb dX1_isTooMuchForFloor_60 (by decide) ?_
        refine lv_iadd hx hb dX1_isTooMuchForFloor_61 ?_
        refine topc (y := (nI (pp + 1))) (nI_add pp 1) ?_
        refine goI hw (runVW (k := 1) (As := [.int (nI (pp + 1))]) (rest := []) cx hw (k_X1_weightAt l D a cI cZ f u (pp + 1)  hi (by omega)) lk_X1_91 rfl rfl ⟨Nat.le_of_ble_eq_true rfl, Nat.le_of_ble_eq_true rfl⟩ ⟨rfl, rfl⟩ ⟨Nat.zero_le _, Nat.zero_le _⟩ rfl rfl hl.1 (Nat.le_of_ble_eq_true rfl) dX1_isTooMuchForFloor_62) (fun r_31 f_31 u_31 H locs hp_31 hw => ?_)
        obtain ⟨rfl, rfl⟩ := hp_31
        refine lv_iload_n hx hb dX1_isTooMuchForFloor_65 rfl (lv_at hl 5 rfl) ?_
        refine lv_iadd hx hb dX1_isTooMuchForFloor_66 ?_
        refine lv_topi (fun x_32 _ => ?_)
        refine lv_iload hx hb dX1_isTooMuchForFloor_67 (lv_at hl 1 rfl) ?_
        refine lv_icmp_le (tgt := 76) hx hb dX1_isTooMuchForFloor_69 (by decide) (fun _ => ?_) (fun _ => ?_)
        · refine lv_iconst (v := 0) hx hb dX1_isTooMuchForFloor_76 (by decide) ?_
          refine lv_istore (lv' := [(7, .int 0), (6, .int 1), (5, .int x_1), (4, .int (nI (pp % 8))), (3, .int (nI (pp / 8))), (0, .ref (a 1)), (1, .int we), (2, .int (nI pp))]) hx hb dX1_isTooMuchForFloor_77 hl (by decide) rfl (fun ls hl => ?_)
          refine lv_iload hx hb dX1_isTooMuchForFloor_79 (lv_at hl 1 rfl) ?_
          refine lv_if_ne (tgt := 89) hx hb dX1_isTooMuchForFloor_81 (by decide) (fun _ => ?_) (fun q => absurd q (by decide))
          refine lv_iconst (v := 1) hx hb dX1_isTooMuchForFloor_89 (by decide) ?_
          refine lv_goto (tgt := 94) hx hb dX1_isTooMuchForFloor_90 (by decide) ?_
          exact retZ cx hw hr hk rfl dX1_isTooMuchForFloor_94 ⟨rfl, rfl⟩
        · refine lv_iconst (v := 1) hx hb dX1_isTooMuchForFloor_72 (by decide) ?_
          refine lv_goto (tgt := 77) hx hb dX1_isTooMuchForFloor_73 (by decide) ?_
          refine lv_istore (lv' := [(7, .int 1), (6, .int 1), (5, .int x_1), (4, .int (nI (pp % 8))), (3, .int (nI (pp / 8))), (0, .ref (a 1)), (1, .int we), (2, .int (nI pp))]) hx hb dX1_isTooMuchForFloor_77 hl (by decide) rfl (fun ls hl => ?_)
          refine lv_iload hx hb dX1_isTooMuchForFloor_79 (lv_at hl 1 rfl) ?_
          refine lv_if_ne (tgt := 89) hx hb dX1_isTooMuchForFloor_81 (by decide) (fun _ => ?_) (fun q => absurd q (by decide))
          refine lv_iconst (v := 1) hx hb dX1_isTooMuchForFloor_89 (by decide) ?_
          refine lv_goto (tgt := 94) hx hb dX1_isTooMuchForFloor_90 (by decide) ?_
          exact retZ cx hw hr hk rfl dX1_isTooMuchForFloor_94 ⟨rfl, rfl⟩

set_option maxHeartbeats 4000000 in
set_option maxRecDepth 100000 in
theorem k_X1_isTooNear (l : Launch) (D : va_G) (a : Nat → Nat) (cI cZ : ClassId) (f : FF) (u : UU) (i : Nat) (pp : Nat) (hi : IV f) (h_i : i < 40) (h_p : pp < 32) : KI l yX1_isTooNear cX1_isTooNear 8 (some .boolean) ({ frames := 2, cells := 0, slots := 0, locals := 33 } : Room) D a cI cZ [.ref (a 1), .int (nI i), .int (nI pp)] f u (fun r f2 u2 => f = f2 ∧ u = u2) := by
  refine KX.of (by decide) (Nat.le_of_ble_eq_true rfl) ?_
  intro p e s m below meth c cx hw hr hk ls hl
  have cx : Cx p s m _ c cX1_isTooNear RX1 8 D cI cZ := cx
  have hl : lv_has ls 8 [(0, .ref (a 1)), (1, .int (nI i)), (2, .int (nI pp))] := hl
  have hx := cx.1.1
  have hb := cx.1.2.1
  refine lv_iload_n hx hb dX1_isTooNear_0 rfl (lv_at hl 2 rfl) ?_
  refine lv_bipush (v := 8) hx hb dX1_isTooNear_1 (by decide) ?_
  refine lv_idiv hx hb dX1_isTooNear_3 (by decide) ?_
  refine topc (y := (nI (pp / 8))) (pk_div (a := pp) (d := 8) (by omega) (by decide) (by decide)) ?_
  refine lv_istore_n (lv' := [(3, .int (nI (pp / 8))), (0, .ref (a 1)), (1, .int (nI i)), (2, .int (nI pp))]) hx hb dX1_isTooNear_4 rfl hl (by decide) rfl (fun ls hl => ?_)
  refine lv_aload_n hx hb dX1_isTooNear_5 rfl (lv_at hl 1 rfl) ?_
  refine gf_X1_37 cx hw dX1_isTooNear_6 ?_
  refine lv_iload_n hx hb dX1_isTooNear_9 rfl (lv_at hl 2 rfl) ?_
  refine aldN 16 i cx hw rfl (by omega) (by decide) dX1_isTooNear_10 ?_
  obtain ⟨n_1, hn_1, en_1⟩ := IV.a_16 hi (i := i) (by omega)
  refine topc (y := (nI n_1)) en_1 ?_
  refine lv_istore (lv' := [(4, .int (nI n_1)), (3, .int (nI (pp / 8))), (0, .ref (a 1)), (1, .int (nI i)), (2, .int (nI pp))]) hx hb dX1_isTooNear_11 hl (by decide) rfl (fun ls hl => ?_)
  refine lv_iconst (v := 0) hx hb dX1_isTooNear_13 (by decide) ?_
  refine lv_istore (lv' := [(5, .int 0), (4, .int (nI n_1)), (3, .int (nI (pp / 8))), (0, .ref (a 1)), (1, .int (nI i)), (2, .int (nI pp))]) hx hb dX1_isTooNear_14 hl (by decide) rfl (fun ls hl => ?_)
  have loop_2 : ∀ (k_2 : Nat) (v5_2 : Nat), v5_2 ≤ 8 → 8 + 1 - v5_2 < k_2 → ∀ (H : Heap) (locs : List Loc) (ls : Array Slot), Wd D a cI cZ s f u H locs → lv_has ls 8 [(5, .int (nI v5_2)), (4, .int (nI n_1)), (3, .int (nI (pp / 8))), (0, .ref (a 1)), (1, .int (nI i)), (2, .int (nI pp))] → W p l e ({ frames := 2, cells := 0, slots := 0, locals := 33 } : Room) s m ([.ref (a 1), .int (nI i), .int (nI pp)] : List Value).toArray below meth c H locs 0 0 (MQ below (QI D a cI cZ (fun r f2 u2 => f = f2 ∧ u = u2)) ([.ref (a 1), .int (nI i), .int (nI pp)] : List Value).toArray s 0 0 (AA a)) (F0 m 16 ls []) := by
    intro k_2
    induction k_2 with
    | zero => intros; omega
    | succ k_2 ih_2 =>
      intro v5_2  hb0_2  hm_2  H locs ls hw hl
      refine lv_iload hx hb dX1_isTooNear_16 (lv_at hl 0 rfl) ?_
      refine lv_aload_n hx hb dX1_isTooNear_18 rfl (lv_at hl 3 rfl) ?_
      refine gf_X1_18 cx hw dX1_isTooNear_19 ?_
      refine lv_iload_n hx hb dX1_isTooNear_22 rfl (lv_at hl 2 rfl) ?_
      refine aldN 11 (pp / 8) cx hw rfl (by omega) (by decide) dX1_isTooNear_23 ?_
      obtain ⟨n_3, hn_3, en_3⟩ := IV.a_11 hi (i := (pp / 8)) (by omega)
      refine topc (y := (nI n_3)) en_3 ?_
      refine lv_icmp_ge (tgt := 90) hx hb dX1_isTooNear_24 (by decide) (fun c_4 => ?_) (fun c_4 => ?_)
      · have c_4 : n_3 ≤ v5_2 := (nI_leI (a := n_3) (b := v5_2) (by omega) (by omega)).mp c_4
        refine lv_iconst (v := 0) hx hb dX1_isTooNear_90 (by decide) ?_
        exact retZ cx hw hr hk rfl dX1_isTooNear_91 ⟨rfl, rfl⟩
      · have c_4 : ¬ n_3 ≤ v5_2 := fun z => c_4 ((nI_leI (a := n_3) (b := v5_2) (by omega) (by omega)).mpr z)
        refine lv_aload_n hx hb dX1_isTooNear_27 rfl (lv_at hl 3 rfl) ?_
        refine gf_X1_31 cx hw dX1_isTooNear_28 ?_
        refine lv_iload_n hx hb dX1_isTooNear_31 rfl (lv_at hl 2 rfl) ?_
        refine lv_iload hx hb dX1_isTooNear_32 (lv_at hl 0 rfl) ?_
        refine goI hw (runSW (As := [.int (nI (pp / 8)), .int (nI v5_2)]) (rest := [.ref (a 14)]) cx hw (k_X1_placeOf l D a cI cZ f u (pp / 8) v5_2  ) lk_X1_65 ⟨Nat.le_of_ble_eq_true rfl, Nat.le_of_ble_eq_true rfl⟩ ⟨rfl, rfl⟩ ⟨Nat.zero_le _, Nat.zero_le _⟩ rfl rfl hl.1 (Nat.le_of_ble_eq_true rfl) dX1_isTooNear_34) (fun r_5 f_5 u_5 H locs hp_5 hw => ?_)
        obtain ⟨rfl, rfl, ha_5⟩ := hp_5
        have er_5 := ha_5
        · subst er_5
          refine aldN 14 ((pp / 8) * 8 + v5_2) cx hw rfl (by omega) (by decide) dX1_isTooNear_37 ?_
          rcases IV.a_14 hi (i := (pp / 8) * 8 + v5_2) (by omega) with en_6 | ⟨n_6, hn_6, en_6⟩
          · refine topc (y := (-1)) en_6 ?_
            refine lv_istore (lv' := [(6, .int (-1)), (5, .int (nI v5_2)), (4, .int (nI n_1)), (3, .int (nI (pp / 8))), (0, .ref (a 1)), (1, .int (nI i)), (2, .int (nI pp))]) hx hb dX1_isTooNear_38 hl (by decide) rfl (fun ls hl => ?_)
            refine lv_iload hx hb dX1_isTooNear_40 (lv_at hl 0 rfl) ?_
            refine lv_iconst (v := (-1)) hx hb dX1_isTooNear_42 (by decide) ?_
            refine lv_icmp_eq (tgt := 84) hx hb dX1_isTooNear_43 (by decide) (fun _ => ?_) (fun q => absurd (by decide) q)
            refine lv_iinc (v := (nI (v5_2 + 1))) (lv' := [(5, .int (nI (v5_2 + 1))), (6, .int (-1)), (4, .int (nI n_1)), (3, .int (nI (pp / 8))), (0, .ref (a 1)), (1, .int (nI i)), (2, .int (nI pp))]) hx hb dX1_isTooNear_84 hl (k := 1) rfl (nI_add v5_2 1) (by decide) rfl (fun ls hl => ?_)
            refine lv_goto (tgt := 16) hx hb dX1_isTooNear_87 (by decide) ?_
            exact ih_2 (v5_2 + 1)  (by omega) (by omega) _ _ _ hw (lv_sub hl [0, 2, 3, 4, 5, 6] rfl)
          · refine topc (y := (nI n_6)) en_6 ?_
            refine lv_istore (lv' := [(6, .int (nI n_6)), (5, .int (nI v5_2)), (4, .int (nI n_1)), (3, .int (nI (pp / 8))), (0, .ref (a 1)), (1, .int (nI i)), (2, .int (nI pp))]) hx hb dX1_isTooNear_38 hl (by decide) rfl (fun ls hl => ?_)
            refine lv_iload hx hb dX1_isTooNear_40 (lv_at hl 0 rfl) ?_
            refine lv_iconst (v := (-1)) hx hb dX1_isTooNear_42 (by decide) ?_
            refine lv_icmp_eq (tgt := 84) hx hb dX1_isTooNear_43 (by decide) (fun q => absurd q (nI_m1 (by omega))) (fun _ => ?_)
            refine lv_iload_n hx hb dX1_isTooNear_46 rfl (lv_at hl 3 rfl) ?_
            refine lv_iload hx hb dX1_isTooNear_47 (lv_at hl 1 rfl) ?_
            refine goI hw (runSW (As := [.int (nI (pp / 8)), .int (nI v5_2)]) (rest := []) cx hw (k_X1_placeOf l D a cI cZ f u (pp / 8) v5_2  ) lk_X1_65 ⟨Nat.le_of_ble_eq_true rfl, Nat.le_of_ble_eq_true rfl⟩ ⟨rfl, rfl⟩ ⟨Nat.zero_le _, Nat.zero_le _⟩ rfl rfl hl.1 (Nat.le_of_ble_eq_true rfl) dX1_isTooNear_49) (fun r_9 f_9 u_9 H locs hp_9 hw => ?_)
            obtain ⟨rfl, rfl, ha_9⟩ := hp_9
            have er_9 := ha_9
            · subst er_9
              refine lv_iload_n hx hb dX1_isTooNear_52 rfl (lv_at hl 6 rfl) ?_
              refine lv_isub hx hb dX1_isTooNear_53 ?_
              refine lv_topi (fun x_10 _ => ?_)
              refine jAbs (rest := []) cx hl.1 mm_2_174 (Nat.le_of_ble_eq_true rfl) (Nat.le_of_ble_eq_true rfl) ⟨Nat.zero_le _, Nat.zero_le _⟩ dX1_isTooNear_54 (fun x_11 => ?_)
              refine lv_istore (lv' := [(7, .int x_11), (6, .int (nI n_6)), (5, .int (nI v5_2)), (4, .int (nI n_1)), (3, .int (nI (pp / 8))), (0, .ref (a 1)), (1, .int (nI i)), (2, .int (nI pp))]) hx hb dX1_isTooNear_57 hl (by decide) rfl (fun ls hl => ?_)
              refine lv_iload hx hb dX1_isTooNear_59 (lv_at hl 0 rfl) ?_
              refine lv_aload_n hx hb dX1_isTooNear_61 rfl (lv_at hl 5 rfl) ?_
              refine gf_X1_52 cx hw dX1_isTooNear_62 ?_
              refine lv_iload hx hb dX1_isTooNear_65 (lv_at hl 3 rfl) ?_
              refine lv_bipush (v := 8) hx hb dX1_isTooNear_67 (by decide) ?_
              refine lv_imul hx hb dX1_isTooNear_69 ?_
              refine topc (y := (nI (n_1 * 8))) (pk_mul n_1 8) ?_
              refine lv_aload_n hx hb dX1_isTooNear_70 rfl (lv_at hl 5 rfl) ?_
              refine gf_X1_37 cx hw dX1_isTooNear_71 ?_
              refine lv_iload hx hb dX1_isTooNear_74 (lv_at hl 1 rfl) ?_
              refine aldN 16 n_6 cx hw rfl (by omega) (by decide) dX1_isTooNear_76 ?_
              obtain ⟨n_12, hn_12, en_12⟩ := IV.a_16 hi (i := n_6) (by omega)
              refine topc (y := (nI n_12)) en_12 ?_
              refine lv_iadd hx hb dX1_isTooNear_77 ?_
              refine topc (y := (nI ((n_1 * 8) + n_12))) (nI_add (n_1 * 8) n_12) ?_
              refine aldN 20 ((n_1 * 8) + n_12) cx hw rfl (by omega) (by decide) dX1_isTooNear_78 ?_
              refine lv_topi (fun x_13 _ => ?_)
              refine lv_icmp_ge (tgt := 84) hx hb dX1_isTooNear_79 (by decide) (fun _ => ?_) (fun _ => ?_)
              · refine lv_iinc (v := (nI (v5_2 + 1))) (lv' := [(5, .int (nI (v5_2 + 1))), (7, .int x_11), (6, .int (nI n_6)), (4, .int (nI n_1)), (3, .int (nI (pp / 8))), (0, .ref (a 1)), (1, .int (nI i)), (2, .int (nI pp))]) hx hb dX1_isTooNear_84 hl (k := 2) rfl (nI_add v5_2 1) (by decide) rfl (fun ls hl => ?_)
                refine lv_goto (tgt := 16) hx hb dX1_isTooNear_87 (by decide) ?_
                exact ih_2 (v5_2 + 1)  (by omega) (by omega) _ _ _ hw (lv_sub hl [0, 3, 4, 5, 6, 7] rfl)
              · refine lv_iconst (v := 1) hx hb dX1_isTooNear_82 (by decide) ?_
                exact retZ cx hw hr hk rfl dX1_isTooNear_83 ⟨rfl, rfl⟩
  exact loop_2 _ 0  (by omega)  (Nat.lt_succ_self _) _ _ _ hw (lv_sub hl [0, 1, 2, 3, 4, 5] rfl)

set_option maxHeartbeats 4000000 in
set_option maxRecDepth 100000 in
theorem k_X1_hindrance (l : Launch) (D : va_G) (a : Nat → Nat) (cI cZ : ClassId) (f : FF) (u : UU) (i : Nat) (pp : Nat) (hi : IV f) (h_i : i < 40) (h_p : pp < 32) : KI l yX1_hindrance cX1_hindrance 5 (some .int) ({ frames := 3, cells := 0, slots := 0, locals := 61 } : Room) D a cI cZ [.ref (a 1), .int (nI i), .int (nI pp)] f u (fun r f2 u2 => f = f2 ∧ u = u2) := by
  refine KX.of (by decide) (Nat.le_of_ble_eq_true rfl) ?_
  intro p e s m below meth c cx hw hr hk ls hl
  have cx : Cx p s m _ c cX1_hindrance RX1 5 D cI cZ := cx
  have hl : lv_has ls 5 [(0, .ref (a 1)), (1, .int (nI i)), (2, .int (nI pp))] := hl
  have hx := cx.1.1
  have hb := cx.1.2.1
  refine lv_iload_n hx hb dX1_hindrance_0 rfl (lv_at hl 2 rfl) ?_
  refine lv_bipush (v := 8) hx hb dX1_hindrance_1 (by decide) ?_
  refine lv_idiv hx hb dX1_hindrance_3 (by decide) ?_
  refine topc (y := (nI (pp / 8))) (pk_div (a := pp) (d := 8) (by omega) (by decide) (by decide)) ?_
  refine lv_istore_n (lv' := [(3, .int (nI (pp / 8))), (0, .ref (a 1)), (1, .int (nI i)), (2, .int (nI pp))]) hx hb dX1_hindrance_4 rfl hl (by decide) rfl (fun ls hl => ?_)
  refine lv_aload_n hx hb dX1_hindrance_5 rfl (lv_at hl 1 rfl) ?_
  refine gf_X1_34 cx hw dX1_hindrance_6 ?_
  refine lv_iload_n hx hb dX1_hindrance_9 rfl (lv_at hl 2 rfl) ?_
  refine aldN 15 i cx hw rfl (by omega) (by decide) dX1_hindrance_10 ?_
  refine lv_topi (fun x_1 _ => ?_)
  refine lv_istore (lv' := [(4, .int x_1), (3, .int (nI (pp / 8))), (0, .ref (a 1)), (1, .int (nI i)), (2, .int (nI pp))]) hx hb dX1_hindrance_11 hl (by decide) rfl (fun ls hl => ?_)
  refine lv_aload_n hx hb dX1_hindrance_13 rfl (lv_at hl 2 rfl) ?_
  refine gf_X1_31 cx hw dX1_hindrance_14 ?_
  refine lv_iload_n hx hb dX1_hindrance_17 rfl (lv_at hl 4 rfl) ?_
  refine aldN 14 pp cx hw rfl (by omega) (by decide) dX1_hindrance_18 ?_
  rcases IV.a_14 hi (i := pp) (by omega) with en_2 | ⟨n_2, hn_2, en_2⟩
  · refine topc (y := (-1)) en_2 ?_
    refine lv_iconst (v := (-1)) hx hb dX1_hindrance_19 (by decide) ?_
    refine lv_icmp_eq (tgt := 25) hx hb dX1_hindrance_20 (by decide) (fun _ => ?_) (fun q => absurd (by decide) q)
    refine lv_iload hx hb dX1_hindrance_25 (lv_at hl 0 rfl) ?_
    refine lv_aload_n hx hb dX1_hindrance_27 rfl (lv_at hl 2 rfl) ?_
    refine gf_X1_28 cx hw dX1_hindrance_28 ?_
    refine lv_iload_n hx hb dX1_hindrance_31 rfl (lv_at hl 4 rfl) ?_
    refine aldN 13 pp cx hw rfl (by omega) (by decide) dX1_hindrance_32 ?_
    refine lv_topi (fun x_4 _ => ?_)
    refine lv_icmp_le (tgt := 38) hx hb dX1_hindrance_33 (by decide) (fun _ => ?_) (fun _ => ?_)
    · refine lv_aload_n hx hb dX1_hindrance_38 rfl (lv_at hl 2 rfl) ?_
      refine lv_iload_n hx hb dX1_hindrance_39 rfl (lv_at hl 1 rfl) ?_
      refine goI hw (runVW (k := 1) (As := [.int (nI (pp / 8))]) (rest := []) cx hw (k_X1_weightInHold l D a cI cZ f u (pp / 8)  hi (by omega)) lk_X1_80 rfl rfl ⟨Nat.le_of_ble_eq_true rfl, Nat.le_of_ble_eq_true rfl⟩ ⟨rfl, rfl⟩ ⟨Nat.zero_le _, Nat.zero_le _⟩ rfl rfl hl.1 (Nat.le_of_ble_eq_true rfl) dX1_hindrance_40) (fun r_6 f_6 u_6 H locs hp_6 hw => ?_)
      obtain ⟨rfl, rfl⟩ := hp_6
      refine lv_iload hx hb dX1_hindrance_43 (lv_at hl 0 rfl) ?_
      refine lv_iadd hx hb dX1_hindrance_45 ?_
      refine lv_topi (fun x_7 _ => ?_)
      refine lv_aload_n hx hb dX1_hindrance_46 rfl (lv_at hl 2 rfl) ?_
      refine gf_X1_11 cx hw dX1_hindrance_47 ?_
      refine lv_iload_n hx hb dX1_hindrance_50 rfl (lv_at hl 1 rfl) ?_
      refine aldN 9 (pp / 8) cx hw rfl (by omega) (by decide) dX1_hindrance_51 ?_
      refine lv_topi (fun x_8 _ => ?_)
      refine lv_icmp_le (tgt := 57) hx hb dX1_hindrance_52 (by decide) (fun _ => ?_) (fun _ => ?_)
      · refine lv_aload_n hx hb dX1_hindrance_57 rfl (lv_at hl 2 rfl) ?_
        refine lv_iload hx hb dX1_hindrance_58 (lv_at hl 0 rfl) ?_
        refine lv_iload_n hx hb dX1_hindrance_60 rfl (lv_at hl 4 rfl) ?_
        refine goI hw (runVW (k := 1) (As := [.int x_1, .int (nI pp)]) (rest := []) cx hw (k_X1_isTooMuchForFloor l D a cI cZ f u x_1 pp  hi (by omega)) lk_X1_84 rfl rfl ⟨Nat.le_of_ble_eq_true rfl, Nat.le_of_ble_eq_true rfl⟩ ⟨rfl, rfl⟩ ⟨Nat.zero_le _, Nat.zero_le _⟩ rfl rfl hl.1 (Nat.le_of_ble_eq_true rfl) dX1_hindrance_61) (fun r_10 f_10 u_10 H locs hp_10 hw => ?_)
        obtain ⟨rfl, rfl⟩ := hp_10
        refine lv_if_eq (tgt := 69) hx hb dX1_hindrance_64 (by decide) (fun _ => ?_) (fun _ => ?_)
        · refine lv_aload_n hx hb dX1_hindrance_69 rfl (lv_at hl 2 rfl) ?_
          refine lv_iload_n hx hb dX1_hindrance_70 rfl (lv_at hl 3 rfl) ?_
          refine lv_iload_n hx hb dX1_hindrance_71 rfl (lv_at hl 4 rfl) ?_
          refine goI hw (runVW (k := 1) (As := [.int (nI i), .int (nI pp)]) (rest := []) cx hw (k_X1_isTooNear l D a cI cZ f u i pp  hi (by omega) (by omega)) lk_X1_88 rfl rfl ⟨Nat.le_of_ble_eq_true rfl, Nat.le_of_ble_eq_true rfl⟩ ⟨rfl, rfl⟩ ⟨Nat.zero_le _, Nat.zero_le _⟩ rfl rfl hl.1 (Nat.le_of_ble_eq_true rfl) dX1_hindrance_72) (fun r_12 f_12 u_12 H locs hp_12 hw => ?_)
          obtain ⟨rfl, rfl⟩ := hp_12
          refine lv_if_eq (tgt := 82) hx hb dX1_hindrance_75 (by decide) (fun _ => ?_) (fun _ => ?_)
          · refine lv_iconst (v := 0) hx hb dX1_hindrance_82 (by decide) ?_
            exact retI cx hw hr hk dX1_hindrance_83 ⟨rfl, rfl⟩
          · refine lv_iconst (v := 5) hx hb dX1_hindrance_78 (by decide) ?_
            refine lv_goto (tgt := 83) hx hb dX1_hindrance_79 (by decide) ?_
            exact retI cx hw hr hk dX1_hindrance_83 ⟨rfl, rfl⟩
        · refine lv_iconst (v := 4) hx hb dX1_hindrance_67 (by decide) ?_
          exact retI cx hw hr hk dX1_hindrance_68 ⟨rfl, rfl⟩
      · refine lv_iconst (v := 3) hx hb dX1_hindrance_55 (by decide) ?_
        exact retI cx hw hr hk dX1_hindrance_56 ⟨rfl, rfl⟩
    · refine lv_iconst (v := 2) hx hb dX1_hindrance_36 (by decide) ?_
      exact retI cx hw hr hk dX1_hindrance_37 ⟨rfl, rfl⟩
  · refine topc (y := (nI n_2)) en_2 ?_
    refine lv_iconst (v := (-1)) hx hb dX1_hindrance_19 (by decide) ?_
    refine lv_icmp_eq (tgt := 25) hx hb dX1_hindrance_20 (by decide) (fun q => absurd q (nI_m1 (by omega))) (fun _ => ?_)
    refine lv_iconst (v := 1) hx hb dX1_hindrance_23 (by decide) ?_
    exact retI cx hw hr hk dX1_hindrance_24 ⟨rfl, rfl⟩

set_option maxHeartbeats 4000000 in
set_option maxRecDepth 100000 in
theorem k_X1_itemsInHold (l : Launch) (D : va_G) (a : Nat → Nat) (cI cZ : ClassId) (f : FF) (u : UU) (h : Nat) (hi : IV f) (h_h : h < 4) : KI l yX1_itemsInHold cX1_itemsInHold 4 (some .int) ({ frames := 2, cells := 0, slots := 0, locals := 33 } : Room) D a cI cZ [.ref (a 1), .int (nI h)] f u (fun r f2 u2 => f = f2 ∧ u = u2) := by
  refine KX.of (by decide) (Nat.le_of_ble_eq_true rfl) ?_
  intro p e s m below meth c cx hw hr hk ls hl
  have cx : Cx p s m _ c cX1_itemsInHold RX1 4 D cI cZ := cx
  have hl : lv_has ls 4 [(0, .ref (a 1)), (1, .int (nI h))] := hl
  have hx := cx.1.1
  have hb := cx.1.2.1
  refine lv_iconst (v := 0) hx hb dX1_itemsInHold_0 (by decide) ?_
  refine lv_istore_n (lv' := [(2, .int 0), (0, .ref (a 1)), (1, .int (nI h))]) hx hb dX1_itemsInHold_1 rfl hl (by decide) rfl (fun ls hl => ?_)
  refine lv_iconst (v := 0) hx hb dX1_itemsInHold_2 (by decide) ?_
  refine lv_istore_n (lv' := [(3, .int 0), (2, .int 0), (0, .ref (a 1)), (1, .int (nI h))]) hx hb dX1_itemsInHold_3 rfl hl (by decide) rfl (fun ls hl => ?_)
  have loop_1 : ∀ (k_1 : Nat) (v3_1 : Nat) (v2_1 : Int32), v3_1 ≤ 8 → 8 + 1 - v3_1 < k_1 → ∀ (H : Heap) (locs : List Loc) (ls : Array Slot), Wd D a cI cZ s f u H locs → lv_has ls 4 [(3, .int (nI v3_1)), (2, .int v2_1), (0, .ref (a 1)), (1, .int (nI h))] → W p l e ({ frames := 2, cells := 0, slots := 0, locals := 33 } : Room) s m ([.ref (a 1), .int (nI h)] : List Value).toArray below meth c H locs 0 0 (MQ below (QI D a cI cZ (fun r f2 u2 => f = f2 ∧ u = u2)) ([.ref (a 1), .int (nI h)] : List Value).toArray s 0 0 (AA a)) (F0 m 4 ls []) := by
    intro k_1
    induction k_1 with
    | zero => intros; omega
    | succ k_1 ih_1 =>
      intro v3_1 v2_1  hb0_1  hm_1  H locs ls hw hl
      refine lv_iload_n hx hb dX1_itemsInHold_4 rfl (lv_at hl 0 rfl) ?_
      refine lv_aload_n hx hb dX1_itemsInHold_5 rfl (lv_at hl 2 rfl) ?_
      refine gf_X1_18 cx hw dX1_itemsInHold_6 ?_
      refine lv_iload_n hx hb dX1_itemsInHold_9 rfl (lv_at hl 3 rfl) ?_
      refine aldN 11 h cx hw rfl (by omega) (by decide) dX1_itemsInHold_10 ?_
      obtain ⟨n_2, hn_2, en_2⟩ := IV.a_11 hi (i := h) (by omega)
      refine topc (y := (nI n_2)) en_2 ?_
      refine lv_icmp_ge (tgt := 37) hx hb dX1_itemsInHold_11 (by decide) (fun c_3 => ?_) (fun c_3 => ?_)
      · have c_3 : n_2 ≤ v3_1 := (nI_leI (a := n_2) (b := v3_1) (by omega) (by omega)).mp c_3
        refine lv_iload_n hx hb dX1_itemsInHold_37 rfl (lv_at hl 1 rfl) ?_
        exact retI cx hw hr hk dX1_itemsInHold_38 ⟨rfl, rfl⟩
      · have c_3 : ¬ n_2 ≤ v3_1 := fun z => c_3 ((nI_leI (a := n_2) (b := v3_1) (by omega) (by omega)).mpr z)
        refine lv_aload_n hx hb dX1_itemsInHold_14 rfl (lv_at hl 2 rfl) ?_
        refine gf_X1_31 cx hw dX1_itemsInHold_15 ?_
        refine lv_iload_n hx hb dX1_itemsInHold_18 rfl (lv_at hl 3 rfl) ?_
        refine lv_iload_n hx hb dX1_itemsInHold_19 rfl (lv_at hl 0 rfl) ?_
        refine goI hw (runSW (As := [.int (nI h), .int (nI v3_1)]) (rest := [.ref (a 14)]) cx hw (k_X1_placeOf l D a cI cZ f u h v3_1  ) lk_X1_65 ⟨Nat.le_of_ble_eq_true rfl, Nat.le_of_ble_eq_true rfl⟩ ⟨rfl, rfl⟩ ⟨Nat.zero_le _, Nat.zero_le _⟩ rfl rfl hl.1 (Nat.le_of_ble_eq_true rfl) dX1_itemsInHold_20) (fun r_4 f_4 u_4 H locs hp_4 hw => ?_)
        obtain ⟨rfl, rfl, ha_4⟩ := hp_4
        have er_4 := ha_4
        · subst er_4
          refine aldN 14 (h * 8 + v3_1) cx hw rfl (by omega) (by decide) dX1_itemsInHold_23 ?_
          rcases IV.a_14 hi (i := h * 8 + v3_1) (by omega) with en_5 | ⟨n_5, hn_5, en_5⟩
          · refine topc (y := (-1)) en_5 ?_
            refine lv_iconst (v := (-1)) hx hb dX1_itemsInHold_24 (by decide) ?_
            refine lv_icmp_eq (tgt := 31) hx hb dX1_itemsInHold_25 (by decide) (fun _ => ?_) (fun q => absurd (by decide) q)
            refine lv_iinc (v := (nI (v3_1 + 1))) (lv' := [(3, .int (nI (v3_1 + 1))), (2, .int v2_1), (0, .ref (a 1)), (1, .int (nI h))]) hx hb dX1_itemsInHold_31 hl (k := 0) rfl (nI_add v3_1 1) (by decide) rfl (fun ls hl => ?_)
            refine lv_goto (tgt := 4) hx hb dX1_itemsInHold_34 (by decide) ?_
            exact ih_1 (v3_1 + 1) v2_1  (by omega) (by omega) _ _ _ hw (lv_sub hl [0, 1, 2, 3] rfl)
          · refine topc (y := (nI n_5)) en_5 ?_
            refine lv_iconst (v := (-1)) hx hb dX1_itemsInHold_24 (by decide) ?_
            refine lv_icmp_eq (tgt := 31) hx hb dX1_itemsInHold_25 (by decide) (fun q => absurd q (nI_m1 (by omega))) (fun _ => ?_)
            refine lv_iinc (v := (v2_1 + 1)) (lv' := [(2, .int (v2_1 + 1)), (3, .int (nI v3_1)), (0, .ref (a 1)), (1, .int (nI h))]) hx hb dX1_itemsInHold_28 hl (k := 1) rfl rfl (by decide) rfl (fun ls hl => ?_)
            refine lv_iinc (v := (nI (v3_1 + 1))) (lv' := [(3, .int (nI (v3_1 + 1))), (2, .int (v2_1 + 1)), (0, .ref (a 1)), (1, .int (nI h))]) hx hb dX1_itemsInHold_31 hl (k := 1) rfl (nI_add v3_1 1) (by decide) rfl (fun ls hl => ?_)
            refine lv_goto (tgt := 4) hx hb dX1_itemsInHold_34 (by decide) ?_
            exact ih_1 (v3_1 + 1) (v2_1 + 1)  (by omega) (by omega) _ _ _ hw (lv_sub hl [0, 1, 2, 3] rfl)
  exact loop_1 _ 0 0  (by omega)  (Nat.lt_succ_self _) _ _ _ hw (lv_sub hl [0, 1, 2, 3] rfl)

set_option maxHeartbeats 4000000 in
set_option maxRecDepth 100000 in
theorem k_X1_heaviestPair (l : Launch) (D : va_G) (a : Nat → Nat) (cI cZ : ClassId) (f : FF) (u : UU) (h : Nat) (hi : IV f) (h_h : h < 4) : KI l yX1_heaviestPair cX1_heaviestPair 5 (some .int) ({ frames := 2, cells := 0, slots := 0, locals := 34 } : Room) D a cI cZ [.ref (a 1), .int (nI h)] f u (fun r f2 u2 => f = f2 ∧ u = u2) := by
  refine KX.of (by decide) (Nat.le_of_ble_eq_true rfl) ?_
  intro p e s m below meth c cx hw hr hk ls hl
  have cx : Cx p s m _ c cX1_heaviestPair RX1 5 D cI cZ := cx
  have hl : lv_has ls 5 [(0, .ref (a 1)), (1, .int (nI h))] := hl
  have hx := cx.1.1
  have hb := cx.1.2.1
  refine lv_iconst (v := 0) hx hb dX1_heaviestPair_0 (by decide) ?_
  refine lv_istore_n (lv' := [(2, .int 0), (0, .ref (a 1)), (1, .int (nI h))]) hx hb dX1_heaviestPair_1 rfl hl (by decide) rfl (fun ls hl => ?_)
  refine lv_iconst (v := 1) hx hb dX1_heaviestPair_2 (by decide) ?_
  refine lv_istore_n (lv' := [(3, .int 1), (2, .int 0), (0, .ref (a 1)), (1, .int (nI h))]) hx hb dX1_heaviestPair_3 rfl hl (by decide) rfl (fun ls hl => ?_)
  have loop_1 : ∀ (k_1 : Nat) (v3_1 : Nat) (v2_1 : Int32), v3_1 ≤ 8 → (1 ≤ v3_1) → 8 + 1 - v3_1 < k_1 → ∀ (H : Heap) (locs : List Loc) (ls : Array Slot), Wd D a cI cZ s f u H locs → lv_has ls 5 [(3, .int (nI v3_1)), (2, .int v2_1), (0, .ref (a 1)), (1, .int (nI h))] → W p l e ({ frames := 2, cells := 0, slots := 0, locals := 34 } : Room) s m ([.ref (a 1), .int (nI h)] : List Value).toArray below meth c H locs 0 0 (MQ below (QI D a cI cZ (fun r f2 u2 => f = f2 ∧ u = u2)) ([.ref (a 1), .int (nI h)] : List Value).toArray s 0 0 (AA a)) (F0 m 4 ls []) := by
    intro k_1
    induction k_1 with
    | zero => intros; omega
    | succ k_1 ih_1 =>
      intro v3_1 v2_1  hb0_1 hv1 hm_1  H locs ls hw hl
      refine lv_iload_n hx hb dX1_heaviestPair_4 rfl (lv_at hl 0 rfl) ?_
      refine lv_aload_n hx hb dX1_heaviestPair_5 rfl (lv_at hl 2 rfl) ?_
      refine gf_X1_18 cx hw dX1_heaviestPair_6 ?_
      refine lv_iload_n hx hb dX1_heaviestPair_9 rfl (lv_at hl 3 rfl) ?_
      refine aldN 11 h cx hw rfl (by omega) (by decide) dX1_heaviestPair_10 ?_
      obtain ⟨n_2, hn_2, en_2⟩ := IV.a_11 hi (i := h) (by omega)
      refine topc (y := (nI n_2)) en_2 ?_
      refine lv_icmp_ge (tgt := 47) hx hb dX1_heaviestPair_11 (by decide) (fun c_3 => ?_) (fun c_3 => ?_)
      · have c_3 : n_2 ≤ v3_1 := (nI_leI (a := n_2) (b := v3_1) (by omega) (by omega)).mp c_3
        refine lv_iload_n hx hb dX1_heaviestPair_47 rfl (lv_at hl 1 rfl) ?_
        exact retI cx hw hr hk dX1_heaviestPair_48 ⟨rfl, rfl⟩
      · have c_3 : ¬ n_2 ≤ v3_1 := fun z => c_3 ((nI_leI (a := n_2) (b := v3_1) (by omega) (by omega)).mpr z)
        refine lv_iload_n hx hb dX1_heaviestPair_14 rfl (lv_at hl 3 rfl) ?_
        refine lv_iload_n hx hb dX1_heaviestPair_15 rfl (lv_at hl 0 rfl) ?_
        refine goI hw (runSW (As := [.int (nI h), .int (nI v3_1)]) (rest := []) cx hw (k_X1_placeOf l D a cI cZ f u h v3_1  ) lk_X1_65 ⟨Nat.le_of_ble_eq_true rfl, Nat.le_of_ble_eq_true rfl⟩ ⟨rfl, rfl⟩ ⟨Nat.zero_le _, Nat.zero_le _⟩ rfl rfl hl.1 (Nat.le_of_ble_eq_true rfl) dX1_heaviestPair_16) (fun r_4 f_4 u_4 H locs hp_4 hw => ?_)
        obtain ⟨rfl, rfl, ha_4⟩ := hp_4
        have er_4 := ha_4
        · subst er_4
          refine lv_istore (lv' := [(4, .int (nI (h * 8 + v3_1))), (3, .int (nI v3_1)), (2, .int v2_1), (0, .ref (a 1)), (1, .int (nI h))]) hx hb dX1_heaviestPair_19 hl (by decide) rfl (fun ls hl => ?_)
          refine lv_iload_n hx hb dX1_heaviestPair_21 rfl (lv_at hl 2 rfl) ?_
          refine lv_aload_n hx hb dX1_heaviestPair_22 rfl (lv_at hl 3 rfl) ?_
          refine lv_iload hx hb dX1_heaviestPair_23 (lv_at hl 0 rfl) ?_
          refine lv_iconst (v := 1) hx hb dX1_heaviestPair_25 (by decide) ?_
          refine lv_isub hx hb dX1_heaviestPair_26 ?_
          refine topc (y := (nI (h * 8 + v3_1 - 1))) (pk_sub (a := h * 8 + v3_1) (b := 1) (by omega)) ?_
          refine goI hw (runVW (k := 1) (As := [.int (nI (h * 8 + v3_1 - 1))]) (rest := [.int v2_1]) cx hw (k_X1_weightAt l D a cI cZ f u (h * 8 + v3_1 - 1)  hi (by omega)) lk_X1_91 rfl rfl ⟨Nat.le_of_ble_eq_true rfl, Nat.le_of_ble_eq_true rfl⟩ ⟨rfl, rfl⟩ ⟨Nat.zero_le _, Nat.zero_le _⟩ rfl rfl hl.1 (Nat.le_of_ble_eq_true rfl) dX1_heaviestPair_27) (fun r_5 f_5 u_5 H locs hp_5 hw => ?_)
          obtain ⟨rfl, rfl⟩ := hp_5
          refine lv_aload_n hx hb dX1_heaviestPair_30 rfl (lv_at hl 3 rfl) ?_
          refine lv_iload hx hb dX1_heaviestPair_31 (lv_at hl 0 rfl) ?_
          refine goI hw (runVW (k := 1) (As := [.int (nI (h * 8 + v3_1))]) (rest := [.int r_5, .int v2_1]) cx hw (k_X1_weightAt l D a cI cZ f u (h * 8 + v3_1)  hi (by omega)) lk_X1_91 rfl rfl ⟨Nat.le_of_ble_eq_true rfl, Nat.le_of_ble_eq_true rfl⟩ ⟨rfl, rfl⟩ ⟨Nat.zero_le _, Nat.zero_le _⟩ rfl rfl hl.1 (Nat.le_of_ble_eq_true rfl) dX1_heaviestPair_33) (fun r_6 f_6 u_6 H locs hp_6 hw => ?_)
          obtain ⟨rfl, rfl⟩ := hp_6
          refine lv_iadd hx hb dX1_heaviestPair_36 ?_
          refine lv_topi (fun x_7 _ => ?_)
          refine jMax (rest := []) cx hl.1 mm_2_215 (Nat.le_of_ble_eq_true rfl) (Nat.le_of_ble_eq_true rfl) ⟨Nat.zero_le _, Nat.zero_le _⟩ dX1_heaviestPair_37 (fun x_8 => ?_)
          refine lv_istore_n (lv' := [(2, .int x_8), (4, .int (nI (h * 8 + v3_1))), (3, .int (nI v3_1)), (0, .ref (a 1)), (1, .int (nI h))]) hx hb dX1_heaviestPair_40 rfl hl (by decide) rfl (fun ls hl => ?_)
          refine lv_iinc (v := (nI (v3_1 + 1))) (lv' := [(3, .int (nI (v3_1 + 1))), (2, .int x_8), (4, .int (nI (h * 8 + v3_1))), (0, .ref (a 1)), (1, .int (nI h))]) hx hb dX1_heaviestPair_41 hl (k := 2) rfl (nI_add v3_1 1) (by decide) rfl (fun ls hl => ?_)
          refine lv_goto (tgt := 4) hx hb dX1_heaviestPair_44 (by decide) ?_
          exact ih_1 (v3_1 + 1) x_8  (by omega) (by omega) (by omega) _ _ _ hw (lv_sub hl [0, 1, 3, 4] rfl)
  exact loop_1 _ 1 0  (by omega) (by omega) (Nat.lt_succ_self _) _ _ _ hw (lv_sub hl [0, 1, 2, 3] rfl)

set_option maxHeartbeats 4000000 in
set_option maxRecDepth 100000 in
theorem k_X1_slotsInAll (l : Launch) (D : va_G) (a : Nat → Nat) (cI cZ : ClassId) (f : FF) (u : UU)  (hi : IV f)  : KI l yX1_slotsInAll cX1_slotsInAll 3 (some .int) ({ frames := 1, cells := 0, slots := 0, locals := 12 } : Room) D a cI cZ [.ref (a 1)] f u (fun r f2 u2 => f = f2 ∧ u = u2) := by
  refine KX.of (by decide) (Nat.le_of_ble_eq_true rfl) ?_
  intro p e s m below meth c cx hw hr hk ls hl
  have cx : Cx p s m _ c cX1_slotsInAll RX1 3 D cI cZ := cx
  have hl : lv_has ls 3 [(0, .ref (a 1))] := hl
  have hx := cx.1.1
  have hb := cx.1.2.1
  refine lv_iconst (v := 0) hx hb dX1_slotsInAll_0 (by decide) ?_
  refine lv_istore_n (lv' := [(1, .int 0), (0, .ref (a 1))]) hx hb dX1_slotsInAll_1 rfl hl (by decide) rfl (fun ls hl => ?_)
  refine lv_iconst (v := 0) hx hb dX1_slotsInAll_2 (by decide) ?_
  refine lv_istore_n (lv' := [(2, .int 0), (1, .int 0), (0, .ref (a 1))]) hx hb dX1_slotsInAll_3 rfl hl (by decide) rfl (fun ls hl => ?_)
  have loop_1 : ∀ (k_1 : Nat) (v2_1 : Nat) (v1_1 : Int32), v2_1 ≤ 4 → 4 + 1 - v2_1 < k_1 → ∀ (H : Heap) (locs : List Loc) (ls : Array Slot), Wd D a cI cZ s f u H locs → lv_has ls 3 [(2, .int (nI v2_1)), (1, .int v1_1), (0, .ref (a 1))] → W p l e ({ frames := 1, cells := 0, slots := 0, locals := 12 } : Room) s m ([.ref (a 1)] : List Value).toArray below meth c H locs 0 0 (MQ below (QI D a cI cZ (fun r f2 u2 => f = f2 ∧ u = u2)) ([.ref (a 1)] : List Value).toArray s 0 0 (AA a)) (F0 m 4 ls []) := by
    intro k_1
    induction k_1 with
    | zero => intros; omega
    | succ k_1 ih_1 =>
      intro v2_1 v1_1  hb0_1  hm_1  H locs ls hw hl
      refine lv_iload_n hx hb dX1_slotsInAll_4 rfl (lv_at hl 0 rfl) ?_
      refine lv_aload_n hx hb dX1_slotsInAll_5 rfl (lv_at hl 2 rfl) ?_
      refine gf_X1_21 cx hw dX1_slotsInAll_6 ?_
      obtain ⟨n_2, hn_2, en_2⟩ := IV.s_1_3 hi
      refine topc (y := (nI n_2)) en_2 ?_
      refine lv_icmp_ge (tgt := 27) hx hb dX1_slotsInAll_9 (by decide) (fun c_3 => ?_) (fun c_3 => ?_)
      · have c_3 : n_2 ≤ v2_1 := (nI_leI (a := n_2) (b := v2_1) (by omega) (by omega)).mp c_3
        refine lv_iload_n hx hb dX1_slotsInAll_27 rfl (lv_at hl 1 rfl) ?_
        exact retI cx hw hr hk dX1_slotsInAll_28 ⟨rfl, rfl⟩
      · have c_3 : ¬ n_2 ≤ v2_1 := fun z => c_3 ((nI_leI (a := n_2) (b := v2_1) (by omega) (by omega)).mpr z)
        refine lv_iload_n hx hb dX1_slotsInAll_12 rfl (lv_at hl 1 rfl) ?_
        refine lv_aload_n hx hb dX1_slotsInAll_13 rfl (lv_at hl 2 rfl) ?_
        refine gf_X1_18 cx hw dX1_slotsInAll_14 ?_
        refine lv_iload_n hx hb dX1_slotsInAll_17 rfl (lv_at hl 0 rfl) ?_
        refine aldN 11 v2_1 cx hw rfl (by omega) (by decide) dX1_slotsInAll_18 ?_
        obtain ⟨n_4, hn_4, en_4⟩ := IV.a_11 hi (i := v2_1) (by omega)
        refine topc (y := (nI n_4)) en_4 ?_
        refine lv_iadd hx hb dX1_slotsInAll_19 ?_
        refine lv_topi (fun x_5 _ => ?_)
        refine lv_istore_n (lv' := [(1, .int x_5), (2, .int (nI v2_1)), (0, .ref (a 1))]) hx hb dX1_slotsInAll_20 rfl hl (by decide) rfl (fun ls hl => ?_)
        refine lv_iinc (v := (nI (v2_1 + 1))) (lv' := [(2, .int (nI (v2_1 + 1))), (1, .int x_5), (0, .ref (a 1))]) hx hb dX1_slotsInAll_21 hl (k := 1) rfl (nI_add v2_1 1) (by decide) rfl (fun ls hl => ?_)
        refine lv_goto (tgt := 4) hx hb dX1_slotsInAll_24 (by decide) ?_
        exact ih_1 (v2_1 + 1) x_5  (by omega) (by omega) _ _ _ hw (lv_sub hl [0, 1, 2] rfl)
  exact loop_1 _ 0 0  (by omega)  (Nat.lt_succ_self _) _ _ _ hw (lv_sub hl [0, 1, 2] rfl)

set_option maxHeartbeats 4000000 in
set_option maxRecDepth 100000 in
theorem k_X1_loadedInAll (l : Launch) (D : va_G) (a : Nat → Nat) (cI cZ : ClassId) (f : FF) (u : UU)  (hi : IV f)  : KI l yX1_loadedInAll cX1_loadedInAll 3 (some .int) ({ frames := 2, cells := 0, slots := 0, locals := 33 } : Room) D a cI cZ [.ref (a 1)] f u (fun r f2 u2 => f = f2 ∧ u = u2) := by
  refine KX.of (by decide) (Nat.le_of_ble_eq_true rfl) ?_
  intro p e s m below meth c cx hw hr hk ls hl
  have cx : Cx p s m _ c cX1_loadedInAll RX1 3 D cI cZ := cx
  have hl : lv_has ls 3 [(0, .ref (a 1))] := hl
  have hx := cx.1.1
  have hb := cx.1.2.1
  refine lv_iconst (v := 0) hx hb dX1_loadedInAll_0 (by decide) ?_
  refine lv_istore_n (lv' := [(1, .int 0), (0, .ref (a 1))]) hx hb dX1_loadedInAll_1 rfl hl (by decide) rfl (fun ls hl => ?_)
  refine lv_iconst (v := 0) hx hb dX1_loadedInAll_2 (by decide) ?_
  refine lv_istore_n (lv' := [(2, .int 0), (1, .int 0), (0, .ref (a 1))]) hx hb dX1_loadedInAll_3 rfl hl (by decide) rfl (fun ls hl => ?_)
  have loop_1 : ∀ (k_1 : Nat) (v2_1 : Nat) (v1_1 : Int32), v2_1 ≤ 40 → 40 + 1 - v2_1 < k_1 → ∀ (H : Heap) (locs : List Loc) (ls : Array Slot), Wd D a cI cZ s f u H locs → lv_has ls 3 [(2, .int (nI v2_1)), (1, .int v1_1), (0, .ref (a 1))] → W p l e ({ frames := 2, cells := 0, slots := 0, locals := 33 } : Room) s m ([.ref (a 1)] : List Value).toArray below meth c H locs 0 0 (MQ below (QI D a cI cZ (fun r f2 u2 => f = f2 ∧ u = u2)) ([.ref (a 1)] : List Value).toArray s 0 0 (AA a)) (F0 m 4 ls []) := by
    intro k_1
    induction k_1 with
    | zero => intros; omega
    | succ k_1 ih_1 =>
      intro v2_1 v1_1  hb0_1  hm_1  H locs ls hw hl
      refine lv_iload_n hx hb dX1_loadedInAll_4 rfl (lv_at hl 0 rfl) ?_
      refine lv_aload_n hx hb dX1_loadedInAll_5 rfl (lv_at hl 2 rfl) ?_
      refine gf_X1_49 cx hw dX1_loadedInAll_6 ?_
      obtain ⟨n_2, hn_2, en_2⟩ := IV.s_1_12 hi
      refine topc (y := (nI n_2)) en_2 ?_
      refine lv_icmp_ge (tgt := 29) hx hb dX1_loadedInAll_9 (by decide) (fun c_3 => ?_) (fun c_3 => ?_)
      · have c_3 : n_2 ≤ v2_1 := (nI_leI (a := n_2) (b := v2_1) (by omega) (by omega)).mp c_3
        refine lv_iload_n hx hb dX1_loadedInAll_29 rfl (lv_at hl 1 rfl) ?_
        exact retI cx hw hr hk dX1_loadedInAll_30 ⟨rfl, rfl⟩
      · have c_3 : ¬ n_2 ≤ v2_1 := fun z => c_3 ((nI_leI (a := n_2) (b := v2_1) (by omega) (by omega)).mpr z)
        refine lv_aload_n hx hb dX1_loadedInAll_12 rfl (lv_at hl 2 rfl) ?_
        refine lv_iload_n hx hb dX1_loadedInAll_13 rfl (lv_at hl 0 rfl) ?_
        refine goI hw (runVW (k := 1) (As := [.int (nI v2_1)]) (rest := []) cx hw (k_X1_isLoaded l D a cI cZ f u v2_1  hi (by omega)) lk_X1_73 rfl rfl ⟨Nat.le_of_ble_eq_true rfl, Nat.le_of_ble_eq_true rfl⟩ ⟨rfl, rfl⟩ ⟨Nat.zero_le _, Nat.zero_le _⟩ rfl rfl hl.1 (Nat.le_of_ble_eq_true rfl) dX1_loadedInAll_14) (fun r_4 f_4 u_4 H locs hp_4 hw => ?_)
        obtain ⟨rfl, rfl, ha_4⟩ := hp_4
        rcases ha_4 with ⟨er_4, q0_4_0⟩ | ⟨er_4, b1_4_j, q1_4_0, q1_4_1⟩
        · subst er_4
          refine lv_if_eq (tgt := 23) hx hb dX1_loadedInAll_17 (by decide) (fun _ => ?_) (fun q => absurd (by decide) q)
          refine lv_iinc (v := (nI (v2_1 + 1))) (lv' := [(2, .int (nI (v2_1 + 1))), (1, .int v1_1), (0, .ref (a 1))]) hx hb dX1_loadedInAll_23 hl (k := 0) rfl (nI_add v2_1 1) (by decide) rfl (fun ls hl => ?_)
          refine lv_goto (tgt := 4) hx hb dX1_loadedInAll_26 (by decide) ?_
          exact ih_1 (v2_1 + 1) v1_1  (by omega) (by omega) _ _ _ hw (lv_sub hl [0, 1, 2] rfl)
        · subst er_4
          refine lv_if_eq (tgt := 23) hx hb dX1_loadedInAll_17 (by decide) (fun q => absurd q (by decide)) (fun _ => ?_)
          refine lv_iinc (v := (v1_1 + 1)) (lv' := [(1, .int (v1_1 + 1)), (2, .int (nI v2_1)), (0, .ref (a 1))]) hx hb dX1_loadedInAll_20 hl (k := 1) rfl rfl (by decide) rfl (fun ls hl => ?_)
          refine lv_iinc (v := (nI (v2_1 + 1))) (lv' := [(2, .int (nI (v2_1 + 1))), (1, .int (v1_1 + 1)), (0, .ref (a 1))]) hx hb dX1_loadedInAll_23 hl (k := 1) rfl (nI_add v2_1 1) (by decide) rfl (fun ls hl => ?_)
          refine lv_goto (tgt := 4) hx hb dX1_loadedInAll_26 (by decide) ?_
          exact ih_1 (v2_1 + 1) (v1_1 + 1)  (by omega) (by omega) _ _ _ hw (lv_sub hl [0, 1, 2] rfl)
  exact loop_1 _ 0 0  (by omega)  (Nat.lt_succ_self _) _ _ _ hw (lv_sub hl [0, 1, 2] rfl)

set_option maxHeartbeats 4000000 in
set_option maxRecDepth 100000 in
theorem k_X1_loadedWeight (l : Launch) (D : va_G) (a : Nat → Nat) (cI cZ : ClassId) (f : FF) (u : UU)  (hi : IV f)  : KI l yX1_loadedWeight cX1_loadedWeight 3 (some .int) ({ frames := 2, cells := 0, slots := 0, locals := 33 } : Room) D a cI cZ [.ref (a 1)] f u (fun r f2 u2 => f = f2 ∧ u = u2) := by
  refine KX.of (by decide) (Nat.le_of_ble_eq_true rfl) ?_
  intro p e s m below meth c cx hw hr hk ls hl
  have cx : Cx p s m _ c cX1_loadedWeight RX1 3 D cI cZ := cx
  have hl : lv_has ls 3 [(0, .ref (a 1))] := hl
  have hx := cx.1.1
  have hb := cx.1.2.1
  refine lv_iconst (v := 0) hx hb dX1_loadedWeight_0 (by decide) ?_
  refine lv_istore_n (lv' := [(1, .int 0), (0, .ref (a 1))]) hx hb dX1_loadedWeight_1 rfl hl (by decide) rfl (fun ls hl => ?_)
  refine lv_iconst (v := 0) hx hb dX1_loadedWeight_2 (by decide) ?_
  refine lv_istore_n (lv' := [(2, .int 0), (1, .int 0), (0, .ref (a 1))]) hx hb dX1_loadedWeight_3 rfl hl (by decide) rfl (fun ls hl => ?_)
  have loop_1 : ∀ (k_1 : Nat) (v2_1 : Nat) (v1_1 : Int32), v2_1 ≤ 40 → 40 + 1 - v2_1 < k_1 → ∀ (H : Heap) (locs : List Loc) (ls : Array Slot), Wd D a cI cZ s f u H locs → lv_has ls 3 [(2, .int (nI v2_1)), (1, .int v1_1), (0, .ref (a 1))] → W p l e ({ frames := 2, cells := 0, slots := 0, locals := 33 } : Room) s m ([.ref (a 1)] : List Value).toArray below meth c H locs 0 0 (MQ below (QI D a cI cZ (fun r f2 u2 => f = f2 ∧ u = u2)) ([.ref (a 1)] : List Value).toArray s 0 0 (AA a)) (F0 m 4 ls []) := by
    intro k_1
    induction k_1 with
    | zero => intros; omega
    | succ k_1 ih_1 =>
      intro v2_1 v1_1  hb0_1  hm_1  H locs ls hw hl
      refine lv_iload_n hx hb dX1_loadedWeight_4 rfl (lv_at hl 0 rfl) ?_
      refine lv_aload_n hx hb dX1_loadedWeight_5 rfl (lv_at hl 2 rfl) ?_
      refine gf_X1_49 cx hw dX1_loadedWeight_6 ?_
      obtain ⟨n_2, hn_2, en_2⟩ := IV.s_1_12 hi
      refine topc (y := (nI n_2)) en_2 ?_
      refine lv_icmp_ge (tgt := 35) hx hb dX1_loadedWeight_9 (by decide) (fun c_3 => ?_) (fun c_3 => ?_)
      · have c_3 : n_2 ≤ v2_1 := (nI_leI (a := n_2) (b := v2_1) (by omega) (by omega)).mp c_3
        refine lv_iload_n hx hb dX1_loadedWeight_35 rfl (lv_at hl 1 rfl) ?_
        exact retI cx hw hr hk dX1_loadedWeight_36 ⟨rfl, rfl⟩
      · have c_3 : ¬ n_2 ≤ v2_1 := fun z => c_3 ((nI_leI (a := n_2) (b := v2_1) (by omega) (by omega)).mpr z)
        refine lv_aload_n hx hb dX1_loadedWeight_12 rfl (lv_at hl 2 rfl) ?_
        refine lv_iload_n hx hb dX1_loadedWeight_13 rfl (lv_at hl 0 rfl) ?_
        refine goI hw (runVW (k := 1) (As := [.int (nI v2_1)]) (rest := []) cx hw (k_X1_isLoaded l D a cI cZ f u v2_1  hi (by omega)) lk_X1_73 rfl rfl ⟨Nat.le_of_ble_eq_true rfl, Nat.le_of_ble_eq_true rfl⟩ ⟨rfl, rfl⟩ ⟨Nat.zero_le _, Nat.zero_le _⟩ rfl rfl hl.1 (Nat.le_of_ble_eq_true rfl) dX1_loadedWeight_14) (fun r_4 f_4 u_4 H locs hp_4 hw => ?_)
        obtain ⟨rfl, rfl, ha_4⟩ := hp_4
        rcases ha_4 with ⟨er_4, q0_4_0⟩ | ⟨er_4, b1_4_j, q1_4_0, q1_4_1⟩
        · subst er_4
          refine lv_if_eq (tgt := 29) hx hb dX1_loadedWeight_17 (by decide) (fun _ => ?_) (fun q => absurd (by decide) q)
          refine lv_iinc (v := (nI (v2_1 + 1))) (lv' := [(2, .int (nI (v2_1 + 1))), (1, .int v1_1), (0, .ref (a 1))]) hx hb dX1_loadedWeight_29 hl (k := 0) rfl (nI_add v2_1 1) (by decide) rfl (fun ls hl => ?_)
          refine lv_goto (tgt := 4) hx hb dX1_loadedWeight_32 (by decide) ?_
          exact ih_1 (v2_1 + 1) v1_1  (by omega) (by omega) _ _ _ hw (lv_sub hl [0, 1, 2] rfl)
        · subst er_4
          refine lv_if_eq (tgt := 29) hx hb dX1_loadedWeight_17 (by decide) (fun q => absurd q (by decide)) (fun _ => ?_)
          refine lv_iload_n hx hb dX1_loadedWeight_20 rfl (lv_at hl 1 rfl) ?_
          refine lv_aload_n hx hb dX1_loadedWeight_21 rfl (lv_at hl 2 rfl) ?_
          refine gf_X1_34 cx hw dX1_loadedWeight_22 ?_
          refine lv_iload_n hx hb dX1_loadedWeight_25 rfl (lv_at hl 0 rfl) ?_
          refine aldN 15 v2_1 cx hw rfl (by omega) (by decide) dX1_loadedWeight_26 ?_
          refine lv_topi (fun x_7 _ => ?_)
          refine lv_iadd hx hb dX1_loadedWeight_27 ?_
          refine lv_topi (fun x_8 _ => ?_)
          refine lv_istore_n (lv' := [(1, .int x_8), (2, .int (nI v2_1)), (0, .ref (a 1))]) hx hb dX1_loadedWeight_28 rfl hl (by decide) rfl (fun ls hl => ?_)
          refine lv_iinc (v := (nI (v2_1 + 1))) (lv' := [(2, .int (nI (v2_1 + 1))), (1, .int x_8), (0, .ref (a 1))]) hx hb dX1_loadedWeight_29 hl (k := 1) rfl (nI_add v2_1 1) (by decide) rfl (fun ls hl => ?_)
          refine lv_goto (tgt := 4) hx hb dX1_loadedWeight_32 (by decide) ?_
          exact ih_1 (v2_1 + 1) x_8  (by omega) (by omega) _ _ _ hw (lv_sub hl [0, 1, 2] rfl)
  exact loop_1 _ 0 0  (by omega)  (Nat.lt_succ_self _) _ _ _ hw (lv_sub hl [0, 1, 2] rfl)

set_option maxHeartbeats 4000000 in
set_option maxRecDepth 100000 in
theorem k_X1_leanAt (l : Launch) (D : va_G) (a : Nat → Nat) (cI cZ : ClassId) (f : FF) (u : UU) (i : Nat) (pp : Nat) (ar : Int32) (hi : IV f) (h_i : i < 40) (h_p : pp < 32) : KL l yX1_leanAt cX1_leanAt 4 (some .long) ({ frames := 1, cells := 0, slots := 0, locals := 12 } : Room) D a cI cZ [.ref (a 1), .int (nI i), .int (nI pp), .int ar] f u (fun r f2 u2 => f = f2 ∧ u = u2) := by
  refine KX.of (by decide) (Nat.le_of_ble_eq_true rfl) ?_
  intro p e s m below meth c cx hw hr hk ls hl
  have cx : Cx p s m _ c cX1_leanAt RX1 4 D cI cZ := cx
  have hl : lv_has ls 4 [(0, .ref (a 1)), (1, .int (nI i)), (2, .int (nI pp)), (3, .int ar)] := hl
  have hx := cx.1.1
  have hb := cx.1.2.1
  refine lv_aload_n hx hb dX1_leanAt_0 rfl (lv_at hl 0 rfl) ?_
  refine gf_X1_34 cx hw dX1_leanAt_1 ?_
  refine lv_iload_n hx hb dX1_leanAt_4 rfl (lv_at hl 1 rfl) ?_
  refine aldN 15 i cx hw rfl (by omega) (by decide) dX1_leanAt_5 ?_
  refine lv_topi (fun x_1 _ => ?_)
  refine lv_i2l hx hb dX1_leanAt_6 rfl ?_
  refine lv_topl (fun y_2 _ => ?_)
  refine lv_aload_n hx hb dX1_leanAt_7 rfl (lv_at hl 0 rfl) ?_
  refine gf_X1_25 cx hw dX1_leanAt_8 ?_
  refine lv_iload_n hx hb dX1_leanAt_11 rfl (lv_at hl 2 rfl) ?_
  refine aldN 12 pp cx hw rfl (by omega) (by decide) dX1_leanAt_12 ?_
  refine lv_topi (fun x_3 _ => ?_)
  refine lv_iload_n hx hb dX1_leanAt_13 rfl (lv_at hl 3 rfl) ?_
  refine lv_isub hx hb dX1_leanAt_14 ?_
  refine lv_topi (fun x_4 _ => ?_)
  refine lv_i2l hx hb dX1_leanAt_15 rfl ?_
  refine lv_topl (fun y_5 _ => ?_)
  refine lv_lmul hx hb dX1_leanAt_16 ?_
  refine lv_topl (fun y_6 _ => ?_)
  exact retL cx hw hr hk dX1_leanAt_17 ⟨rfl, rfl⟩

set_option maxHeartbeats 4000000 in
set_option maxRecDepth 100000 in
theorem k_X1_loadedMoment (l : Launch) (D : va_G) (a : Nat → Nat) (cI cZ : ClassId) (f : FF) (u : UU)  (hi : IV f)  : KL l yX1_loadedMoment cX1_loadedMoment 4 (some .long) ({ frames := 2, cells := 0, slots := 0, locals := 35 } : Room) D a cI cZ [.ref (a 1)] f u (fun r f2 u2 => f = f2 ∧ u = u2) := by
  refine KX.of (by decide) (Nat.le_of_ble_eq_true rfl) ?_
  intro p e s m below meth c cx hw hr hk ls hl
  have cx : Cx p s m _ c cX1_loadedMoment RX1 4 D cI cZ := cx
  have hl : lv_has ls 4 [(0, .ref (a 1))] := hl
  have hx := cx.1.1
  have hb := cx.1.2.1
  refine lv_lconst (v := 0) hx hb dX1_loadedMoment_0 (by decide) ?_
  refine lv_lstore_n (lv' := [(1, .long 0), (0, .ref (a 1))]) hx hb dX1_loadedMoment_1 rfl hl (by decide) rfl (fun ls hl => ?_)
  refine lv_iconst (v := 0) hx hb dX1_loadedMoment_2 (by decide) ?_
  refine lv_istore_n (lv' := [(3, .int 0), (1, .long 0), (0, .ref (a 1))]) hx hb dX1_loadedMoment_3 rfl hl (by decide) rfl (fun ls hl => ?_)
  have loop_1 : ∀ (k_1 : Nat) (v3_1 : Nat) (v1_1 : Int64), v3_1 ≤ 40 → 40 + 1 - v3_1 < k_1 → ∀ (H : Heap) (locs : List Loc) (ls : Array Slot), Wd D a cI cZ s f u H locs → lv_has ls 4 [(3, .int (nI v3_1)), (1, .long v1_1), (0, .ref (a 1))] → W p l e ({ frames := 2, cells := 0, slots := 0, locals := 35 } : Room) s m ([.ref (a 1)] : List Value).toArray below meth c H locs 0 0 (MQ below (QL D a cI cZ (fun r f2 u2 => f = f2 ∧ u = u2)) ([.ref (a 1)] : List Value).toArray s 0 0 (AA a)) (F0 m 4 ls []) := by
    intro k_1
    induction k_1 with
    | zero => intros; omega
    | succ k_1 ih_1 =>
      intro v3_1 v1_1  hb0_1  hm_1  H locs ls hw hl
      refine lv_iload_n hx hb dX1_loadedMoment_4 rfl (lv_at hl 0 rfl) ?_
      refine lv_aload_n hx hb dX1_loadedMoment_5 rfl (lv_at hl 2 rfl) ?_
      refine gf_X1_49 cx hw dX1_loadedMoment_6 ?_
      obtain ⟨n_2, hn_2, en_2⟩ := IV.s_1_12 hi
      refine topc (y := (nI n_2)) en_2 ?_
      refine lv_icmp_ge (tgt := 41) hx hb dX1_loadedMoment_9 (by decide) (fun c_3 => ?_) (fun c_3 => ?_)
      · have c_3 : n_2 ≤ v3_1 := (nI_leI (a := n_2) (b := v3_1) (by omega) (by omega)).mp c_3
        refine lv_lload_n hx hb dX1_loadedMoment_41 rfl (lv_at hl 1 rfl) ?_
        exact retL cx hw hr hk dX1_loadedMoment_42 ⟨rfl, rfl⟩
      · have c_3 : ¬ n_2 ≤ v3_1 := fun z => c_3 ((nI_leI (a := n_2) (b := v3_1) (by omega) (by omega)).mpr z)
        refine lv_aload_n hx hb dX1_loadedMoment_12 rfl (lv_at hl 2 rfl) ?_
        refine lv_iload_n hx hb dX1_loadedMoment_13 rfl (lv_at hl 0 rfl) ?_
        refine goI hw (runVW (k := 1) (As := [.int (nI v3_1)]) (rest := []) cx hw (k_X1_isLoaded l D a cI cZ f u v3_1  hi (by omega)) lk_X1_73 rfl rfl ⟨Nat.le_of_ble_eq_true rfl, Nat.le_of_ble_eq_true rfl⟩ ⟨rfl, rfl⟩ ⟨Nat.zero_le _, Nat.zero_le _⟩ rfl rfl hl.1 (Nat.le_of_ble_eq_true rfl) dX1_loadedMoment_14) (fun r_4 f_4 u_4 H locs hp_4 hw => ?_)
        obtain ⟨rfl, rfl, ha_4⟩ := hp_4
        rcases ha_4 with ⟨er_4, q0_4_0⟩ | ⟨er_4, b1_4_j, q1_4_0, q1_4_1⟩
        · subst er_4
          refine lv_if_eq (tgt := 35) hx hb dX1_loadedMoment_17 (by decide) (fun _ => ?_) (fun q => absurd (by decide) q)
          refine lv_iinc (v := (nI (v3_1 + 1))) (lv' := [(3, .int (nI (v3_1 + 1))), (1, .long v1_1), (0, .ref (a 1))]) hx hb dX1_loadedMoment_35 hl (k := 0) rfl (nI_add v3_1 1) (by decide) rfl (fun ls hl => ?_)
          refine lv_goto (tgt := 4) hx hb dX1_loadedMoment_38 (by decide) ?_
          exact ih_1 (v3_1 + 1) v1_1  (by omega) (by omega) _ _ _ hw (lv_sub hl [0, 1, 2] rfl)
        · subst er_4
          refine lv_if_eq (tgt := 35) hx hb dX1_loadedMoment_17 (by decide) (fun q => absurd q (by decide)) (fun _ => ?_)
          refine lv_lload_n hx hb dX1_loadedMoment_20 rfl (lv_at hl 1 rfl) ?_
          refine lv_aload_n hx hb dX1_loadedMoment_21 rfl (lv_at hl 2 rfl) ?_
          refine lv_iload_n hx hb dX1_loadedMoment_22 rfl (lv_at hl 0 rfl) ?_
          refine lv_aload_n hx hb dX1_loadedMoment_23 rfl (lv_at hl 2 rfl) ?_
          refine gf_X1_43 cx hw dX1_loadedMoment_24 ?_
          refine lv_iload_n hx hb dX1_loadedMoment_27 rfl (lv_at hl 0 rfl) ?_
          refine aldN 18 v3_1 cx hw rfl (by omega) (by decide) dX1_loadedMoment_28 ?_
          refine topc (y := (nI b1_4_j)) q1_4_1 ?_
          refine lv_iconst (v := 0) hx hb dX1_loadedMoment_29 (by decide) ?_
          refine goL hw (runVW (k := 1) (As := [.int (nI v3_1), .int (nI b1_4_j), .int 0]) (rest := [.long v1_1]) cx hw (k_X1_leanAt l D a cI cZ f u v3_1 b1_4_j 0  hi (by omega) (by omega)) lk_X1_102 rfl rfl ⟨Nat.le_of_ble_eq_true rfl, Nat.le_of_ble_eq_true rfl⟩ ⟨rfl, rfl⟩ ⟨Nat.zero_le _, Nat.zero_le _⟩ rfl rfl hl.1 (Nat.le_of_ble_eq_true rfl) dX1_loadedMoment_30) (fun r_7 f_7 u_7 H locs hp_7 hw => ?_)
          obtain ⟨rfl, rfl⟩ := hp_7
          refine lv_ladd hx hb dX1_loadedMoment_33 ?_
          refine lv_topl (fun y_8 _ => ?_)
          refine lv_lstore_n (lv' := [(1, .long y_8), (3, .int (nI v3_1)), (0, .ref (a 1))]) hx hb dX1_loadedMoment_34 rfl hl (by decide) rfl (fun ls hl => ?_)
          refine lv_iinc (v := (nI (v3_1 + 1))) (lv' := [(3, .int (nI (v3_1 + 1))), (1, .long y_8), (0, .ref (a 1))]) hx hb dX1_loadedMoment_35 hl (k := 1) rfl (nI_add v3_1 1) (by decide) rfl (fun ls hl => ?_)
          refine lv_goto (tgt := 4) hx hb dX1_loadedMoment_38 (by decide) ?_
          exact ih_1 (v3_1 + 1) y_8  (by omega) (by omega) _ _ _ hw (lv_sub hl [0, 1, 2] rfl)
  exact loop_1 _ 0 0  (by omega)  (Nat.lt_succ_self _) _ _ _ hw (lv_sub hl [0, 1, 2] rfl)

set_option maxHeartbeats 4000000 in
set_option maxRecDepth 100000 in
theorem k_X1_pushedInHold (l : Launch) (D : va_G) (a : Nat → Nat) (cI cZ : ClassId) (f : FF) (u : UU) (h : Nat) (sp : Int32) (hi : IV f) (h_h : h < 4) : KI l yX1_pushedInHold cX1_pushedInHold 8 (some .int) ({ frames := 2, cells := 0, slots := 0, locals := 33 } : Room) D a cI cZ [.ref (a 1), .int (nI h), .int sp] f u (fun r f2 u2 => f = f2 ∧ u = u2) := by
  refine KX.of (by decide) (Nat.le_of_ble_eq_true rfl) ?_
  intro p e s m below meth c cx hw hr hk ls hl
  have cx : Cx p s m _ c cX1_pushedInHold RX1 8 D cI cZ := cx
  have hl : lv_has ls 8 [(0, .ref (a 1)), (1, .int (nI h)), (2, .int sp)] := hl
  have hx := cx.1.1
  have hb := cx.1.2.1
  refine lv_iconst (v := 0) hx hb dX1_pushedInHold_0 (by decide) ?_
  refine lv_istore_n (lv' := [(3, .int 0), (0, .ref (a 1)), (1, .int (nI h)), (2, .int sp)]) hx hb dX1_pushedInHold_1 rfl hl (by decide) rfl (fun ls hl => ?_)
  refine lv_iconst (v := 0) hx hb dX1_pushedInHold_2 (by decide) ?_
  refine lv_istore (lv' := [(4, .int 0), (3, .int 0), (0, .ref (a 1)), (1, .int (nI h)), (2, .int sp)]) hx hb dX1_pushedInHold_3 hl (by decide) rfl (fun ls hl => ?_)
  refine lv_aload_n hx hb dX1_pushedInHold_5 rfl (lv_at hl 2 rfl) ?_
  refine gf_X1_18 cx hw dX1_pushedInHold_6 ?_
  refine lv_iload_n hx hb dX1_pushedInHold_9 rfl (lv_at hl 3 rfl) ?_
  refine aldN 11 h cx hw rfl (by omega) (by decide) dX1_pushedInHold_10 ?_
  obtain ⟨n_1, hn_1, en_1⟩ := IV.a_11 hi (i := h) (by omega)
  refine topc (y := (nI n_1)) en_1 ?_
  refine lv_iconst (v := 1) hx hb dX1_pushedInHold_11 (by decide) ?_
  refine lv_isub hx hb dX1_pushedInHold_12 ?_
  refine lv_istore (lv' := [(5, .int (nI n_1 - 1)), (4, .int 0), (3, .int 0), (0, .ref (a 1)), (1, .int (nI h)), (2, .int sp)]) hx hb dX1_pushedInHold_13 hl (by decide) rfl (fun ls hl => ?_)
  have loop_2 : ∀ (k_2 : Nat) (v5_2 : Nat) (v4_2 : Int32) (v3_2 : Int32), v5_2 ≤ 8 → v5_2 < k_2 → ∀ (H : Heap) (locs : List Loc) (ls : Array Slot), Wd D a cI cZ s f u H locs → lv_has ls 8 [(5, .int (nI v5_2 - 1)), (4, .int v4_2), (3, .int v3_2), (0, .ref (a 1)), (1, .int (nI h)), (2, .int sp)] → W p l e ({ frames := 2, cells := 0, slots := 0, locals := 33 } : Room) s m ([.ref (a 1), .int (nI h), .int sp] : List Value).toArray below meth c H locs 0 0 (MQ below (QI D a cI cZ (fun r f2 u2 => f = f2 ∧ u = u2)) ([.ref (a 1), .int (nI h), .int sp] : List Value).toArray s 0 0 (AA a)) (F0 m 15 ls []) := by
    intro k_2
    induction k_2 with
    | zero => intros; omega
    | succ k_2 ih_2 =>
      intro v5_2 v4_2 v3_2  hb0_2  hm_2  H locs ls hw hl
      refine lv_iload hx hb dX1_pushedInHold_15 (lv_at hl 0 rfl) ?_
      rcases nat_01 v5_2 with z_3 | ⟨t_3, z_3⟩
      · subst z_3
        have hl := hl
        refine topc (y := (-1)) nI_0m1 ?_
        rw [nI_0m1] at hl
        refine lv_if_lt (tgt := 78) hx hb dX1_pushedInHold_17 (by decide) (fun _ => ?_) (fun q => absurd (by decide) q)
        refine lv_iload_n hx hb dX1_pushedInHold_78 rfl (lv_at hl 2 rfl) ?_
        exact retI cx hw hr hk dX1_pushedInHold_79 ⟨rfl, rfl⟩
      · subst z_3
        have hl := hl
        refine topc (y := (nI t_3)) (nI_pred t_3) ?_
        rw [nI_pred t_3] at hl
        refine lv_if_lt (tgt := 78) hx hb dX1_pushedInHold_17 (by decide) (fun q => absurd q (nI_pos (by omega))) (fun _ => ?_)
        refine lv_aload_n hx hb dX1_pushedInHold_20 rfl (lv_at hl 3 rfl) ?_
        refine gf_X1_31 cx hw dX1_pushedInHold_21 ?_
        refine lv_iload_n hx hb dX1_pushedInHold_24 rfl (lv_at hl 4 rfl) ?_
        refine lv_iload hx hb dX1_pushedInHold_25 (lv_at hl 0 rfl) ?_
        refine goI hw (runSW (As := [.int (nI h), .int (nI t_3)]) (rest := [.ref (a 14)]) cx hw (k_X1_placeOf l D a cI cZ f u h t_3  ) lk_X1_65 ⟨Nat.le_of_ble_eq_true rfl, Nat.le_of_ble_eq_true rfl⟩ ⟨rfl, rfl⟩ ⟨Nat.zero_le _, Nat.zero_le _⟩ rfl rfl hl.1 (Nat.le_of_ble_eq_true rfl) dX1_pushedInHold_27) (fun r_4 f_4 u_4 H locs hp_4 hw => ?_)
        obtain ⟨rfl, rfl, ha_4⟩ := hp_4
        have er_4 := ha_4
        · subst er_4
          refine aldN 14 (h * 8 + t_3) cx hw rfl (by omega) (by decide) dX1_pushedInHold_30 ?_
          rcases IV.a_14 hi (i := h * 8 + t_3) (by omega) with en_5 | ⟨n_5, hn_5, en_5⟩
          · refine topc (y := (-1)) en_5 ?_
            refine lv_istore (lv' := [(6, .int (-1)), (5, .int (nI t_3)), (4, .int v4_2), (3, .int v3_2), (0, .ref (a 1)), (1, .int (nI h)), (2, .int sp)]) hx hb dX1_pushedInHold_31 hl (by decide) rfl (fun ls hl => ?_)
            refine lv_iload hx hb dX1_pushedInHold_33 (lv_at hl 0 rfl) ?_
            refine lv_iconst (v := (-1)) hx hb dX1_pushedInHold_35 (by decide) ?_
            refine lv_icmp_eq (tgt := 72) hx hb dX1_pushedInHold_36 (by decide) (fun _ => ?_) (fun q => absurd (by decide) q)
            refine lv_iinc (v := (nI t_3 - 1)) (lv' := [(5, .int (nI t_3 - 1)), (6, .int (-1)), (4, .int v4_2), (3, .int v3_2), (0, .ref (a 1)), (1, .int (nI h)), (2, .int sp)]) hx hb dX1_pushedInHold_72 hl (k := 1) rfl (nI_dec t_3) (by decide) rfl (fun ls hl => ?_)
            refine lv_goto (tgt := 15) hx hb dX1_pushedInHold_75 (by decide) ?_
            exact ih_2 t_3 v4_2 v3_2  (by omega) (by omega) _ _ _ hw (lv_sub hl [0, 2, 3, 4, 5, 6] rfl)
          · refine topc (y := (nI n_5)) en_5 ?_
            refine lv_istore (lv' := [(6, .int (nI n_5)), (5, .int (nI t_3)), (4, .int v4_2), (3, .int v3_2), (0, .ref (a 1)), (1, .int (nI h)), (2, .int sp)]) hx hb dX1_pushedInHold_31 hl (by decide) rfl (fun ls hl => ?_)
            refine lv_iload hx hb dX1_pushedInHold_33 (lv_at hl 0 rfl) ?_
            refine lv_iconst (v := (-1)) hx hb dX1_pushedInHold_35 (by decide) ?_
            refine lv_icmp_eq (tgt := 72) hx hb dX1_pushedInHold_36 (by decide) (fun q => absurd q (nI_m1 (by omega))) (fun _ => ?_)
            refine lv_iconst (v := 1) hx hb dX1_pushedInHold_39 (by decide) ?_
            refine lv_aload_n hx hb dX1_pushedInHold_40 rfl (lv_at hl 4 rfl) ?_
            refine gf_X1_40 cx hw dX1_pushedInHold_41 ?_
            refine lv_iload hx hb dX1_pushedInHold_44 (lv_at hl 0 rfl) ?_
            refine aldN 17 n_5 cx hw rfl (by omega) (by decide) dX1_pushedInHold_46 ?_
            refine lv_topi (fun x_8 _ => ?_)
            refine lv_ishl hx hb dX1_pushedInHold_47 ?_
            refine lv_topi (fun x_9 _ => ?_)
            refine lv_istore (lv' := [(7, .int x_9), (6, .int (nI n_5)), (5, .int (nI t_3)), (4, .int v4_2), (3, .int v3_2), (0, .ref (a 1)), (1, .int (nI h)), (2, .int sp)]) hx hb dX1_pushedInHold_48 hl (by decide) rfl (fun ls hl => ?_)
            refine lv_iload_n hx hb dX1_pushedInHold_50 rfl (lv_at hl 4 rfl) ?_
            refine lv_iload hx hb dX1_pushedInHold_51 (lv_at hl 3 rfl) ?_
            refine lv_iload_n hx hb dX1_pushedInHold_53 rfl (lv_at hl 7 rfl) ?_
            refine lv_iand hx hb dX1_pushedInHold_54 ?_
            refine lv_topi (fun x_10 _ => ?_)
            refine lv_iload hx hb dX1_pushedInHold_55 (lv_at hl 0 rfl) ?_
            refine lv_iconst (v := 1) hx hb dX1_pushedInHold_57 (by decide) ?_
            refine lv_isub hx hb dX1_pushedInHold_58 ?_
            refine lv_topi (fun x_11 _ => ?_)
            refine lv_iand hx hb dX1_pushedInHold_59 ?_
            refine lv_topi (fun x_12 _ => ?_)
            refine goI hw (runSW (As := [.int x_12]) (rest := [.int v3_2]) cx hw (k_J6_bitCount_0f7a4 l D a cI cZ f u x_12  ) lk_X1_109 ⟨Nat.le_of_ble_eq_true rfl, Nat.le_of_ble_eq_true rfl⟩ ⟨rfl, rfl⟩ ⟨Nat.zero_le _, Nat.zero_le _⟩ rfl rfl hl.1 (Nat.le_of_ble_eq_true rfl) dX1_pushedInHold_60) (fun r_13 f_13 u_13 H locs hp_13 hw => ?_)
            obtain ⟨rfl, rfl⟩ := hp_13
            refine lv_iadd hx hb dX1_pushedInHold_63 ?_
            refine lv_topi (fun x_14 _ => ?_)
            refine lv_istore_n (lv' := [(3, .int x_14), (7, .int x_9), (6, .int (nI n_5)), (5, .int (nI t_3)), (4, .int v4_2), (0, .ref (a 1)), (1, .int (nI h)), (2, .int sp)]) hx hb dX1_pushedInHold_64 rfl hl (by decide) rfl (fun ls hl => ?_)
            refine lv_iload hx hb dX1_pushedInHold_65 (lv_at hl 4 rfl) ?_
            refine lv_iload hx hb dX1_pushedInHold_67 (lv_at hl 1 rfl) ?_
            refine lv_ior hx hb dX1_pushedInHold_69 ?_
            refine lv_topi (fun x_15 _ => ?_)
            refine lv_istore (lv' := [(4, .int x_15), (3, .int x_14), (7, .int x_9), (6, .int (nI n_5)), (5, .int (nI t_3)), (0, .ref (a 1)), (1, .int (nI h)), (2, .int sp)]) hx hb dX1_pushedInHold_70 hl (by decide) rfl (fun ls hl => ?_)
            refine lv_iinc (v := (nI t_3 - 1)) (lv' := [(5, .int (nI t_3 - 1)), (4, .int x_15), (3, .int x_14), (7, .int x_9), (6, .int (nI n_5)), (0, .ref (a 1)), (1, .int (nI h)), (2, .int sp)]) hx hb dX1_pushedInHold_72 hl (k := 4) rfl (nI_dec t_3) (by decide) rfl (fun ls hl => ?_)
            refine lv_goto (tgt := 15) hx hb dX1_pushedInHold_75 (by decide) ?_
            exact ih_2 t_3 x_15 x_14  (by omega) (by omega) _ _ _ hw (lv_sub hl [0, 1, 2, 5, 6, 7] rfl)
  exact loop_2 _ n_1 0 0  (by omega)  (Nat.lt_succ_self _) _ _ _ hw (lv_sub hl [0, 1, 2, 3, 4, 5] rfl)

set_option maxHeartbeats 4000000 in
set_option maxRecDepth 100000 in
theorem k_X1_pushedInAll (l : Launch) (D : va_G) (a : Nat → Nat) (cI cZ : ClassId) (f : FF) (u : UU) (sp : Int32) (hi : IV f)  : KI l yX1_pushedInAll cX1_pushedInAll 4 (some .int) ({ frames := 3, cells := 0, slots := 0, locals := 60 } : Room) D a cI cZ [.ref (a 1), .int sp] f u (fun r f2 u2 => f = f2 ∧ u = u2) := by
  refine KX.of (by decide) (Nat.le_of_ble_eq_true rfl) ?_
  intro p e s m below meth c cx hw hr hk ls hl
  have cx : Cx p s m _ c cX1_pushedInAll RX1 4 D cI cZ := cx
  have hl : lv_has ls 4 [(0, .ref (a 1)), (1, .int sp)] := hl
  have hx := cx.1.1
  have hb := cx.1.2.1
  refine lv_iconst (v := 0) hx hb dX1_pushedInAll_0 (by decide) ?_
  refine lv_istore_n (lv' := [(2, .int 0), (0, .ref (a 1)), (1, .int sp)]) hx hb dX1_pushedInAll_1 rfl hl (by decide) rfl (fun ls hl => ?_)
  refine lv_iconst (v := 0) hx hb dX1_pushedInAll_2 (by decide) ?_
  refine lv_istore_n (lv' := [(3, .int 0), (2, .int 0), (0, .ref (a 1)), (1, .int sp)]) hx hb dX1_pushedInAll_3 rfl hl (by decide) rfl (fun ls hl => ?_)
  have loop_1 : ∀ (k_1 : Nat) (v3_1 : Nat) (v2_1 : Int32), v3_1 ≤ 4 → 4 + 1 - v3_1 < k_1 → ∀ (H : Heap) (locs : List Loc) (ls : Array Slot), Wd D a cI cZ s f u H locs → lv_has ls 4 [(3, .int (nI v3_1)), (2, .int v2_1), (0, .ref (a 1)), (1, .int sp)] → W p l e ({ frames := 3, cells := 0, slots := 0, locals := 60 } : Room) s m ([.ref (a 1), .int sp] : List Value).toArray below meth c H locs 0 0 (MQ below (QI D a cI cZ (fun r f2 u2 => f = f2 ∧ u = u2)) ([.ref (a 1), .int sp] : List Value).toArray s 0 0 (AA a)) (F0 m 4 ls []) := by
    intro k_1
    induction k_1 with
    | zero => intros; omega
    | succ k_1 ih_1 =>
      intro v3_1 v2_1  hb0_1  hm_1  H locs ls hw hl
      refine lv_iload_n hx hb dX1_pushedInAll_4 rfl (lv_at hl 0 rfl) ?_
      refine lv_aload_n hx hb dX1_pushedInAll_5 rfl (lv_at hl 2 rfl) ?_
      refine gf_X1_21 cx hw dX1_pushedInAll_6 ?_
      obtain ⟨n_2, hn_2, en_2⟩ := IV.s_1_3 hi
      refine topc (y := (nI n_2)) en_2 ?_
      refine lv_icmp_ge (tgt := 27) hx hb dX1_pushedInAll_9 (by decide) (fun c_3 => ?_) (fun c_3 => ?_)
      · have c_3 : n_2 ≤ v3_1 := (nI_leI (a := n_2) (b := v3_1) (by omega) (by omega)).mp c_3
        refine lv_iload_n hx hb dX1_pushedInAll_27 rfl (lv_at hl 1 rfl) ?_
        exact retI cx hw hr hk dX1_pushedInAll_28 ⟨rfl, rfl⟩
      · have c_3 : ¬ n_2 ≤ v3_1 := fun z => c_3 ((nI_leI (a := n_2) (b := v3_1) (by omega) (by omega)).mpr z)
        refine lv_iload_n hx hb dX1_pushedInAll_12 rfl (lv_at hl 1 rfl) ?_
        refine lv_aload_n hx hb dX1_pushedInAll_13 rfl (lv_at hl 2 rfl) ?_
        refine lv_iload_n hx hb dX1_pushedInAll_14 rfl (lv_at hl 0 rfl) ?_
        refine lv_iload_n hx hb dX1_pushedInAll_15 rfl (lv_at hl 3 rfl) ?_
        refine goI hw (runVW (k := 1) (As := [.int (nI v3_1), .int sp]) (rest := [.int v2_1]) cx hw (k_X1_pushedInHold l D a cI cZ f u v3_1 sp  hi (by omega)) lk_X1_106 rfl rfl ⟨Nat.le_of_ble_eq_true rfl, Nat.le_of_ble_eq_true rfl⟩ ⟨rfl, rfl⟩ ⟨Nat.zero_le _, Nat.zero_le _⟩ rfl rfl hl.1 (Nat.le_of_ble_eq_true rfl) dX1_pushedInAll_16) (fun r_4 f_4 u_4 H locs hp_4 hw => ?_)
        obtain ⟨rfl, rfl⟩ := hp_4
        refine lv_iadd hx hb dX1_pushedInAll_19 ?_
        refine lv_topi (fun x_5 _ => ?_)
        refine lv_istore_n (lv' := [(2, .int x_5), (3, .int (nI v3_1)), (0, .ref (a 1)), (1, .int sp)]) hx hb dX1_pushedInAll_20 rfl hl (by decide) rfl (fun ls hl => ?_)
        refine lv_iinc (v := (nI (v3_1 + 1))) (lv' := [(3, .int (nI (v3_1 + 1))), (2, .int x_5), (0, .ref (a 1)), (1, .int sp)]) hx hb dX1_pushedInAll_21 hl (k := 1) rfl (nI_add v3_1 1) (by decide) rfl (fun ls hl => ?_)
        refine lv_goto (tgt := 4) hx hb dX1_pushedInAll_24 (by decide) ?_
        exact ih_1 (v3_1 + 1) x_5  (by omega) (by omega) _ _ _ hw (lv_sub hl [0, 1, 2, 3] rfl)
  exact loop_1 _ 0 0  (by omega)  (Nat.lt_succ_self _) _ _ _ hw (lv_sub hl [0, 1, 2, 3] rfl)

set_option maxHeartbeats 4000000 in
set_option maxRecDepth 100000 in
theorem k_X1_nearestPlace (l : Launch) (D : va_G) (a : Nat → Nat) (cI cZ : ClassId) (f : FF) (u : UU) (i : Nat) (ar : Int32) (le : Int64) (hi : IV f) (h_i : i < 40) : KI l yX1_nearestPlace cX1_nearestPlace 14 (some .int) ({ frames := 4, cells := 0, slots := 0, locals := 85 } : Room) D a cI cZ [.ref (a 1), .int (nI i), .int ar, .long le] f u (fun r f2 u2 => f = f2 ∧ u = u2 ∧ ((r = (-1)) ∨ (∃ j, j < 32 ∧ r = nI j))) := by
  refine KX.of (by decide) (Nat.le_of_ble_eq_true rfl) ?_
  intro p e s m below meth c cx hw hr hk ls hl
  have cx : Cx p s m _ c cX1_nearestPlace RX1 14 D cI cZ := cx
  have hl : lv_has ls 14 [(0, .ref (a 1)), (1, .int (nI i)), (2, .int ar), (3, .long le)] := hl
  have hx := cx.1.1
  have hb := cx.1.2.1
  refine lv_iconst (v := (-1)) hx hb dX1_nearestPlace_0 (by decide) ?_
  refine lv_istore (lv' := [(5, .int (-1)), (0, .ref (a 1)), (1, .int (nI i)), (2, .int ar), (3, .long le)]) hx hb dX1_nearestPlace_1 hl (by decide) rfl (fun ls hl => ?_)
  refine lv_lconst (v := 0) hx hb dX1_nearestPlace_3 (by decide) ?_
  refine lv_lstore (lv' := [(6, .long 0), (5, .int (-1)), (0, .ref (a 1)), (1, .int (nI i)), (2, .int ar), (3, .long le)]) hx hb dX1_nearestPlace_4 hl (by decide) rfl (fun ls hl => ?_)
  refine lv_iconst (v := 0) hx hb dX1_nearestPlace_6 (by decide) ?_
  refine lv_istore (lv' := [(8, .int 0), (6, .long 0), (5, .int (-1)), (0, .ref (a 1)), (1, .int (nI i)), (2, .int ar), (3, .long le)]) hx hb dX1_nearestPlace_7 hl (by decide) rfl (fun ls hl => ?_)
  have loop_1 : ∀ (k_1 : Nat) (v8_1 : Nat) (v6_1 : Int64) (v5_1 : Int32), okx 32 v5_1 → v8_1 ≤ 4 → 4 + 1 - v8_1 < k_1 → ∀ (H : Heap) (locs : List Loc) (ls : Array Slot), Wd D a cI cZ s f u H locs → lv_has ls 14 [(8, .int (nI v8_1)), (6, .long v6_1), (5, .int v5_1), (0, .ref (a 1)), (1, .int (nI i)), (2, .int ar), (3, .long le)] → W p l e ({ frames := 4, cells := 0, slots := 0, locals := 85 } : Room) s m ([.ref (a 1), .int (nI i), .int ar, .long le] : List Value).toArray below meth c H locs 0 0 (MQ below (QI D a cI cZ (fun r f2 u2 => f = f2 ∧ u = u2 ∧ ((r = (-1)) ∨ (∃ j, j < 32 ∧ r = nI j)))) ([.ref (a 1), .int (nI i), .int ar, .long le] : List Value).toArray s 0 0 (AA a)) (F0 m 9 ls []) := by
    intro k_1
    induction k_1 with
    | zero => intros; omega
    | succ k_1 ih_1 =>
      intro v8_1 v6_1 v5_1 hx_v5_1 hb0_1  hm_1  H locs ls hw hl
      rcases hx_v5_1 with ex_2 | ⟨n_2, hn_2, ex_2⟩
      · subst ex_2
        refine lv_iload hx hb dX1_nearestPlace_9 (lv_at hl 0 rfl) ?_
        refine lv_aload_n hx hb dX1_nearestPlace_11 rfl (lv_at hl 3 rfl) ?_
        refine gf_X1_21 cx hw dX1_nearestPlace_12 ?_
        obtain ⟨n_3, hn_3, en_3⟩ := IV.s_1_3 hi
        refine topc (y := (nI n_3)) en_3 ?_
        refine lv_icmp_ge (tgt := 113) hx hb dX1_nearestPlace_15 (by decide) (fun c_4 => ?_) (fun c_4 => ?_)
        · have c_4 : n_3 ≤ v8_1 := (nI_leI (a := n_3) (b := v8_1) (by omega) (by omega)).mp c_4
          refine lv_iload hx hb dX1_nearestPlace_113 (lv_at hl 2 rfl) ?_
          exact retI cx hw hr hk dX1_nearestPlace_115 ⟨rfl, rfl, Or.inl rfl⟩
        · have c_4 : ¬ n_3 ≤ v8_1 := fun z => c_4 ((nI_leI (a := n_3) (b := v8_1) (by omega) (by omega)).mpr z)
          refine lv_iconst (v := 0) hx hb dX1_nearestPlace_18 (by decide) ?_
          refine lv_istore (lv' := [(9, .int 0), (8, .int (nI v8_1)), (6, .long v6_1), (5, .int (-1)), (0, .ref (a 1)), (1, .int (nI i)), (2, .int ar), (3, .long le)]) hx hb dX1_nearestPlace_19 hl (by decide) rfl (fun ls hl => ?_)
          have loop_5 : ∀ (k_5 : Nat) (v9_5 : Nat) (v6_5 : Int64) (v5_5 : Int32), okx 32 v5_5 → v9_5 ≤ 8 → 8 + 1 - v9_5 < k_5 → ∀ (H : Heap) (locs : List Loc) (ls : Array Slot), Wd D a cI cZ s f u H locs → lv_has ls 14 [(9, .int (nI v9_5)), (8, .int (nI v8_1)), (6, .long v6_5), (5, .int v5_5), (0, .ref (a 1)), (1, .int (nI i)), (2, .int ar), (3, .long le)] → W p l e ({ frames := 4, cells := 0, slots := 0, locals := 85 } : Room) s m ([.ref (a 1), .int (nI i), .int ar, .long le] : List Value).toArray below meth c H locs 0 0 (MQ below (QI D a cI cZ (fun r f2 u2 => f = f2 ∧ u = u2 ∧ ((r = (-1)) ∨ (∃ j, j < 32 ∧ r = nI j)))) ([.ref (a 1), .int (nI i), .int ar, .long le] : List Value).toArray s 0 0 (AA a)) (F0 m 21 ls []) := by
            intro k_5
            induction k_5 with
            | zero => intros; omega
            | succ k_5 ih_5 =>
              intro v9_5 v6_5 v5_5 hx_v5_5 hb0_5  hm_5  H locs ls hw hl
              rcases hx_v5_5 with ex_6 | ⟨n_6, hn_6, ex_6⟩
              · subst ex_6
                refine lv_iload hx hb dX1_nearestPlace_21 (lv_at hl 0 rfl) ?_
                refine lv_aload_n hx hb dX1_nearestPlace_23 rfl (lv_at hl 4 rfl) ?_
                refine gf_X1_18 cx hw dX1_nearestPlace_24 ?_
                refine lv_iload hx hb dX1_nearestPlace_27 (lv_at hl 1 rfl) ?_
                refine aldN 11 v8_1 cx hw rfl (by omega) (by decide) dX1_nearestPlace_29 ?_
                obtain ⟨n_7, hn_7, en_7⟩ := IV.a_11 hi (i := v8_1) (by omega)
                refine topc (y := (nI n_7)) en_7 ?_
                refine lv_icmp_ge (tgt := 107) hx hb dX1_nearestPlace_30 (by decide) (fun c_8 => ?_) (fun c_8 => ?_)
                · have c_8 : n_7 ≤ v9_5 := (nI_leI (a := n_7) (b := v9_5) (by omega) (by omega)).mp c_8
                  refine lv_iinc (v := (nI (v8_1 + 1))) (lv' := [(8, .int (nI (v8_1 + 1))), (9, .int (nI v9_5)), (6, .long v6_5), (5, .int (-1)), (0, .ref (a 1)), (1, .int (nI i)), (2, .int ar), (3, .long le)]) hx hb dX1_nearestPlace_107 hl (k := 1) rfl (nI_add v8_1 1) (by decide) rfl (fun ls hl => ?_)
                  refine lv_goto (tgt := 9) hx hb dX1_nearestPlace_110 (by decide) ?_
                  exact ih_1 (v8_1 + 1) v6_5 (-1) (okx_m) (by omega) (by omega) _ _ _ hw (lv_sub hl [0, 2, 3, 4, 5, 6, 7] rfl)
                · have c_8 : ¬ n_7 ≤ v9_5 := fun z => c_8 ((nI_leI (a := n_7) (b := v9_5) (by omega) (by omega)).mpr z)
                  refine lv_iload hx hb dX1_nearestPlace_33 (lv_at hl 1 rfl) ?_
                  refine lv_iload hx hb dX1_nearestPlace_35 (lv_at hl 0 rfl) ?_
                  refine goI hw (runSW (As := [.int (nI v8_1), .int (nI v9_5)]) (rest := []) cx hw (k_X1_placeOf l D a cI cZ f u v8_1 v9_5  ) lk_X1_65 ⟨Nat.le_of_ble_eq_true rfl, Nat.le_of_ble_eq_true rfl⟩ ⟨rfl, rfl⟩ ⟨Nat.zero_le _, Nat.zero_le _⟩ rfl rfl hl.1 (Nat.le_of_ble_eq_true rfl) dX1_nearestPlace_37) (fun r_9 f_9 u_9 H locs hp_9 hw => ?_)
                  obtain ⟨rfl, rfl, ha_9⟩ := hp_9
                  have er_9 := ha_9
                  · subst er_9
                    refine lv_istore (lv' := [(10, .int (nI (v8_1 * 8 + v9_5))), (9, .int (nI v9_5)), (8, .int (nI v8_1)), (6, .long v6_5), (5, .int (-1)), (0, .ref (a 1)), (1, .int (nI i)), (2, .int ar), (3, .long le)]) hx hb dX1_nearestPlace_40 hl (by decide) rfl (fun ls hl => ?_)
                    refine lv_lload_n hx hb dX1_nearestPlace_42 rfl (lv_at hl 8 rfl) ?_
                    refine lv_aload_n hx hb dX1_nearestPlace_43 rfl (lv_at hl 5 rfl) ?_
                    refine lv_iload_n hx hb dX1_nearestPlace_44 rfl (lv_at hl 6 rfl) ?_
                    refine lv_iload hx hb dX1_nearestPlace_45 (lv_at hl 0 rfl) ?_
                    refine lv_iload_n hx hb dX1_nearestPlace_47 rfl (lv_at hl 7 rfl) ?_
                    refine goL hw (runVW (k := 1) (As := [.int (nI i), .int (nI (v8_1 * 8 + v9_5)), .int ar]) (rest := [.long le]) cx hw (k_X1_leanAt l D a cI cZ f u i (v8_1 * 8 + v9_5) ar  hi (by omega) (by omega)) lk_X1_102 rfl rfl ⟨Nat.le_of_ble_eq_true rfl, Nat.le_of_ble_eq_true rfl⟩ ⟨rfl, rfl⟩ ⟨Nat.zero_le _, Nat.zero_le _⟩ rfl rfl hl.1 (Nat.le_of_ble_eq_true rfl) dX1_nearestPlace_48) (fun r_10 f_10 u_10 H locs hp_10 hw => ?_)
                    obtain ⟨rfl, rfl⟩ := hp_10
                    refine lv_ladd hx hb dX1_nearestPlace_51 ?_
                    refine lv_topl (fun y_11 _ => ?_)
                    refine jAbsL (rest := []) cx hl.1 mm_3_151 (Nat.le_of_ble_eq_true rfl) (Nat.le_of_ble_eq_true rfl) ⟨Nat.zero_le _, Nat.zero_le _⟩ dX1_nearestPlace_52 (fun y_12 => ?_)
                    refine lv_lstore (lv' := [(11, .long y_12), (10, .int (nI (v8_1 * 8 + v9_5))), (9, .int (nI v9_5)), (8, .int (nI v8_1)), (6, .long v6_5), (5, .int (-1)), (0, .ref (a 1)), (1, .int (nI i)), (2, .int ar), (3, .long le)]) hx hb dX1_nearestPlace_55 hl (by decide) rfl (fun ls hl => ?_)
                    refine lv_iload hx hb dX1_nearestPlace_57 (lv_at hl 5 rfl) ?_
                    refine lv_iconst (v := (-1)) hx hb dX1_nearestPlace_59 (by decide) ?_
                    refine lv_icmp_eq (tgt := 71) hx hb dX1_nearestPlace_60 (by decide) (fun _ => ?_) (fun q => absurd (by decide) q)
                    refine lv_iconst (v := 1) hx hb dX1_nearestPlace_71 (by decide) ?_
                    refine lv_goto (tgt := 76) hx hb dX1_nearestPlace_72 (by decide) ?_
                    refine lv_istore (lv' := [(13, .int 1), (11, .long y_12), (10, .int (nI (v8_1 * 8 + v9_5))), (9, .int (nI v9_5)), (8, .int (nI v8_1)), (6, .long v6_5), (5, .int (-1)), (0, .ref (a 1)), (1, .int (nI i)), (2, .int ar), (3, .long le)]) hx hb dX1_nearestPlace_76 hl (by decide) rfl (fun ls hl => ?_)
                    refine lv_iload hx hb dX1_nearestPlace_78 (lv_at hl 0 rfl) ?_
                    refine lv_if_eq (tgt := 101) hx hb dX1_nearestPlace_80 (by decide) (fun q => absurd q (by decide)) (fun _ => ?_)
                    refine lv_aload_n hx hb dX1_nearestPlace_83 rfl (lv_at hl 7 rfl) ?_
                    refine lv_iload_n hx hb dX1_nearestPlace_84 rfl (lv_at hl 8 rfl) ?_
                    refine lv_iload hx hb dX1_nearestPlace_85 (lv_at hl 2 rfl) ?_
                    refine goI hw (runVW (k := 1) (As := [.int (nI i), .int (nI (v8_1 * 8 + v9_5))]) (rest := []) cx hw (k_X1_hindrance l D a cI cZ f u i (v8_1 * 8 + v9_5)  hi (by omega) (by omega)) lk_X1_124 rfl rfl ⟨Nat.le_of_ble_eq_true rfl, Nat.le_of_ble_eq_true rfl⟩ ⟨rfl, rfl⟩ ⟨Nat.zero_le _, Nat.zero_le _⟩ rfl rfl hl.1 (Nat.le_of_ble_eq_true rfl) dX1_nearestPlace_87) (fun r_15 f_15 u_15 H locs hp_15 hw => ?_)
                    obtain ⟨rfl, rfl⟩ := hp_15
                    refine lv_if_ne (tgt := 101) hx hb dX1_nearestPlace_90 (by decide) (fun _ => ?_) (fun _ => ?_)
                    · refine lv_iinc (v := (nI (v9_5 + 1))) (lv' := [(9, .int (nI (v9_5 + 1))), (13, .int 1), (11, .long y_12), (10, .int (nI (v8_1 * 8 + v9_5))), (8, .int (nI v8_1)), (6, .long v6_5), (5, .int (-1)), (0, .ref (a 1)), (1, .int (nI i)), (2, .int ar), (3, .long le)]) hx hb dX1_nearestPlace_101 hl (k := 3) rfl (nI_add v9_5 1) (by decide) rfl (fun ls hl => ?_)
                      refine lv_goto (tgt := 21) hx hb dX1_nearestPlace_104 (by decide) ?_
                      exact ih_5 (v9_5 + 1) v6_5 (-1) (okx_m) (by omega) (by omega) _ _ _ hw (lv_sub hl [0, 4, 5, 6, 7, 8, 9, 10] rfl)
                    · refine lv_iload hx hb dX1_nearestPlace_93 (lv_at hl 2 rfl) ?_
                      refine lv_istore (lv' := [(5, .int (nI (v8_1 * 8 + v9_5))), (13, .int 1), (11, .long y_12), (10, .int (nI (v8_1 * 8 + v9_5))), (9, .int (nI v9_5)), (8, .int (nI v8_1)), (6, .long v6_5), (0, .ref (a 1)), (1, .int (nI i)), (2, .int ar), (3, .long le)]) hx hb dX1_nearestPlace_95 hl (by decide) rfl (fun ls hl => ?_)
                      refine lv_lload hx hb dX1_nearestPlace_97 (lv_at hl 2 rfl) ?_
                      refine lv_lstore (lv' := [(6, .long y_12), (5, .int (nI (v8_1 * 8 + v9_5))), (13, .int 1), (11, .long y_12), (10, .int (nI (v8_1 * 8 + v9_5))), (9, .int (nI v9_5)), (8, .int (nI v8_1)), (0, .ref (a 1)), (1, .int (nI i)), (2, .int ar), (3, .long le)]) hx hb dX1_nearestPlace_99 hl (by decide) rfl (fun ls hl => ?_)
                      refine lv_iinc (v := (nI (v9_5 + 1))) (lv' := [(9, .int (nI (v9_5 + 1))), (6, .long y_12), (5, .int (nI (v8_1 * 8 + v9_5))), (13, .int 1), (11, .long y_12), (10, .int (nI (v8_1 * 8 + v9_5))), (8, .int (nI v8_1)), (0, .ref (a 1)), (1, .int (nI i)), (2, .int ar), (3, .long le)]) hx hb dX1_nearestPlace_101 hl (k := 5) rfl (nI_add v9_5 1) (by decide) rfl (fun ls hl => ?_)
                      refine lv_goto (tgt := 21) hx hb dX1_nearestPlace_104 (by decide) ?_
                      exact ih_5 (v9_5 + 1) y_12 (nI (v8_1 * 8 + v9_5)) ((okx_n (j := (v8_1 * 8 + v9_5)) (by omega))) (by omega) (by omega) _ _ _ hw (lv_sub hl [0, 6, 1, 2, 7, 8, 9, 10] rfl)
              · subst ex_6
                refine lv_iload hx hb dX1_nearestPlace_21 (lv_at hl 0 rfl) ?_
                refine lv_aload_n hx hb dX1_nearestPlace_23 rfl (lv_at hl 4 rfl) ?_
                refine gf_X1_18 cx hw dX1_nearestPlace_24 ?_
                refine lv_iload hx hb dX1_nearestPlace_27 (lv_at hl 1 rfl) ?_
                refine aldN 11 v8_1 cx hw rfl (by omega) (by decide) dX1_nearestPlace_29 ?_
                obtain ⟨n_17, hn_17, en_17⟩ := IV.a_11 hi (i := v8_1) (by omega)
                refine topc (y := (nI n_17)) en_17 ?_
                refine lv_icmp_ge (tgt := 107) hx hb dX1_nearestPlace_30 (by decide) (fun c_18 => ?_) (fun c_18 => ?_)
                · have c_18 : n_17 ≤ v9_5 := (nI_leI (a := n_17) (b := v9_5) (by omega) (by omega)).mp c_18
                  refine lv_iinc (v := (nI (v8_1 + 1))) (lv' := [(8, .int (nI (v8_1 + 1))), (9, .int (nI v9_5)), (6, .long v6_5), (5, .int (nI n_6)), (0, .ref (a 1)), (1, .int (nI i)), (2, .int ar), (3, .long le)]) hx hb dX1_nearestPlace_107 hl (k := 1) rfl (nI_add v8_1 1) (by decide) rfl (fun ls hl => ?_)
                  refine lv_goto (tgt := 9) hx hb dX1_nearestPlace_110 (by decide) ?_
                  exact ih_1 (v8_1 + 1) v6_5 (nI n_6) ((okx_n (j := n_6) (by omega))) (by omega) (by omega) _ _ _ hw (lv_sub hl [0, 2, 3, 4, 5, 6, 7] rfl)
                · have c_18 : ¬ n_17 ≤ v9_5 := fun z => c_18 ((nI_leI (a := n_17) (b := v9_5) (by omega) (by omega)).mpr z)
                  refine lv_iload hx hb dX1_nearestPlace_33 (lv_at hl 1 rfl) ?_
                  refine lv_iload hx hb dX1_nearestPlace_35 (lv_at hl 0 rfl) ?_
                  refine goI hw (runSW (As := [.int (nI v8_1), .int (nI v9_5)]) (rest := []) cx hw (k_X1_placeOf l D a cI cZ f u v8_1 v9_5  ) lk_X1_65 ⟨Nat.le_of_ble_eq_true rfl, Nat.le_of_ble_eq_true rfl⟩ ⟨rfl, rfl⟩ ⟨Nat.zero_le _, Nat.zero_le _⟩ rfl rfl hl.1 (Nat.le_of_ble_eq_true rfl) dX1_nearestPlace_37) (fun r_19 f_19 u_19 H locs hp_19 hw => ?_)
                  obtain ⟨rfl, rfl, ha_19⟩ := hp_19
                  have er_19 := ha_19
                  · subst er_19
                    refine lv_istore (lv' := [(10, .int (nI (v8_1 * 8 + v9_5))), (9, .int (nI v9_5)), (8, .int (nI v8_1)), (6, .long v6_5), (5, .int (nI n_6)), (0, .ref (a 1)), (1, .int (nI i)), (2, .int ar), (3, .long le)]) hx hb dX1_nearestPlace_40 hl (by decide) rfl (fun ls hl => ?_)
                    refine lv_lload_n hx hb dX1_nearestPlace_42 rfl (lv_at hl 8 rfl) ?_
                    refine lv_aload_n hx hb dX1_nearestPlace_43 rfl (lv_at hl 5 rfl) ?_
                    refine lv_iload_n hx hb dX1_nearestPlace_44 rfl (lv_at hl 6 rfl) ?_
                    refine lv_iload hx hb dX1_nearestPlace_45 (lv_at hl 0 rfl) ?_
                    refine lv_iload_n hx hb dX1_nearestPlace_47 rfl (lv_at hl 7 rfl) ?_
                    refine goL hw (runVW (k := 1) (As := [.int (nI i), .int (nI (v8_1 * 8 + v9_5)), .int ar]) (rest := [.long le]) cx hw (k_X1_leanAt l D a cI cZ f u i (v8_1 * 8 + v9_5) ar  hi (by omega) (by omega)) lk_X1_102 rfl rfl ⟨Nat.le_of_ble_eq_true rfl, Nat.le_of_ble_eq_true rfl⟩ ⟨rfl, rfl⟩ ⟨Nat.zero_le _, Nat.zero_le _⟩ rfl rfl hl.1 (Nat.le_of_ble_eq_true rfl) dX1_nearestPlace_48) (fun r_20 f_20 u_20 H locs hp_20 hw => ?_)
                    obtain ⟨rfl, rfl⟩ := hp_20
                    refine lv_ladd hx hb dX1_nearestPlace_51 ?_
                    refine lv_topl (fun y_21 _ => ?_)
                    refine jAbsL (rest := []) cx hl.1 mm_3_151 (Nat.le_of_ble_eq_true rfl) (Nat.le_of_ble_eq_true rfl) ⟨Nat.zero_le _, Nat.zero_le _⟩ dX1_nearestPlace_52 (fun y_22 => ?_)
                    refine lv_lstore (lv' := [(11, .long y_22), (10, .int (nI (v8_1 * 8 + v9_5))), (9, .int (nI v9_5)), (8, .int (nI v8_1)), (6, .long v6_5), (5, .int (nI n_6)), (0, .ref (a 1)), (1, .int (nI i)), (2, .int ar), (3, .long le)]) hx hb dX1_nearestPlace_55 hl (by decide) rfl (fun ls hl => ?_)
                    refine lv_iload hx hb dX1_nearestPlace_57 (lv_at hl 5 rfl) ?_
                    refine lv_iconst (v := (-1)) hx hb dX1_nearestPlace_59 (by decide) ?_
                    refine lv_icmp_eq (tgt := 71) hx hb dX1_nearestPlace_60 (by decide) (fun q => absurd q (nI_m1 (by omega))) (fun _ => ?_)
                    refine lv_lload hx hb dX1_nearestPlace_63 (lv_at hl 0 rfl) ?_
                    refine lv_lload hx hb dX1_nearestPlace_65 (lv_at hl 4 rfl) ?_
                    refine W.lcmp hx hb dX1_nearestPlace_67 ?_
                    refine lv_topi (fun x_24 _ => ?_)
                    refine lv_if_ge (tgt := 75) hx hb dX1_nearestPlace_68 (by decide) (fun c_25 => ?_) (fun c_25 => ?_)
                    · refine lv_iconst (v := 0) hx hb dX1_nearestPlace_75 (by decide) ?_
                      refine lv_istore (lv' := [(13, .int 0), (11, .long y_22), (10, .int (nI (v8_1 * 8 + v9_5))), (9, .int (nI v9_5)), (8, .int (nI v8_1)), (6, .long v6_5), (5, .int (nI n_6)), (0, .ref (a 1)), (1, .int (nI i)), (2, .int ar), (3, .long le)]) hx hb dX1_nearestPlace_76 hl (by decide) rfl (fun ls hl => ?_)
                      refine lv_iload hx hb dX1_nearestPlace_78 (lv_at hl 0 rfl) ?_
                      refine lv_if_eq (tgt := 101) hx hb dX1_nearestPlace_80 (by decide) (fun _ => ?_) (fun q => absurd (by decide) q)
                      refine lv_iinc (v := (nI (v9_5 + 1))) (lv' := [(9, .int (nI (v9_5 + 1))), (13, .int 0), (11, .long y_22), (10, .int (nI (v8_1 * 8 + v9_5))), (8, .int (nI v8_1)), (6, .long v6_5), (5, .int (nI n_6)), (0, .ref (a 1)), (1, .int (nI i)), (2, .int ar), (3, .long le)]) hx hb dX1_nearestPlace_101 hl (k := 3) rfl (nI_add v9_5 1) (by decide) rfl (fun ls hl => ?_)
                      refine lv_goto (tgt := 21) hx hb dX1_nearestPlace_104 (by decide) ?_
                      exact ih_5 (v9_5 + 1) v6_5 (nI n_6) ((okx_n (j := n_6) (by omega))) (by omega) (by omega) _ _ _ hw (lv_sub hl [0, 4, 5, 6, 7, 8, 9, 10] rfl)
                    · refine lv_iconst (v := 1) hx hb dX1_nearestPlace_71 (by decide) ?_
                      refine lv_goto (tgt := 76) hx hb dX1_nearestPlace_72 (by decide) ?_
                      refine lv_istore (lv' := [(13, .int 1), (11, .long y_22), (10, .int (nI (v8_1 * 8 + v9_5))), (9, .int (nI v9_5)), (8, .int (nI v8_1)), (6, .long v6_5), (5, .int (nI n_6)), (0, .ref (a 1)), (1, .int (nI i)), (2, .int ar), (3, .long le)]) hx hb dX1_nearestPlace_76 hl (by decide) rfl (fun ls hl => ?_)
                      refine lv_iload hx hb dX1_nearestPlace_78 (lv_at hl 0 rfl) ?_
                      refine lv_if_eq (tgt := 101) hx hb dX1_nearestPlace_80 (by decide) (fun q => absurd q (by decide)) (fun _ => ?_)
                      refine lv_aload_n hx hb dX1_nearestPlace_83 rfl (lv_at hl 7 rfl) ?_
                      refine lv_iload_n hx hb dX1_nearestPlace_84 rfl (lv_at hl 8 rfl) ?_
                      refine lv_iload hx hb dX1_nearestPlace_85 (lv_at hl 2 rfl) ?_
                      refine goI hw (runVW (k := 1) (As := [.int (nI i), .int (nI (v8_1 * 8 + v9_5))]) (rest := []) cx hw (k_X1_hindrance l D a cI cZ f u i (v8_1 * 8 + v9_5)  hi (by omega) (by omega)) lk_X1_124 rfl rfl ⟨Nat.le_of_ble_eq_true rfl, Nat.le_of_ble_eq_true rfl⟩ ⟨rfl, rfl⟩ ⟨Nat.zero_le _, Nat.zero_le _⟩ rfl rfl hl.1 (Nat.le_of_ble_eq_true rfl) dX1_nearestPlace_87) (fun r_28 f_28 u_28 H locs hp_28 hw => ?_)
                      obtain ⟨rfl, rfl⟩ := hp_28
                      refine lv_if_ne (tgt := 101) hx hb dX1_nearestPlace_90 (by decide) (fun _ => ?_) (fun _ => ?_)
                      · refine lv_iinc (v := (nI (v9_5 + 1))) (lv' := [(9, .int (nI (v9_5 + 1))), (13, .int 1), (11, .long y_22), (10, .int (nI (v8_1 * 8 + v9_5))), (8, .int (nI v8_1)), (6, .long v6_5), (5, .int (nI n_6)), (0, .ref (a 1)), (1, .int (nI i)), (2, .int ar), (3, .long le)]) hx hb dX1_nearestPlace_101 hl (k := 3) rfl (nI_add v9_5 1) (by decide) rfl (fun ls hl => ?_)
                        refine lv_goto (tgt := 21) hx hb dX1_nearestPlace_104 (by decide) ?_
                        exact ih_5 (v9_5 + 1) v6_5 (nI n_6) ((okx_n (j := n_6) (by omega))) (by omega) (by omega) _ _ _ hw (lv_sub hl [0, 4, 5, 6, 7, 8, 9, 10] rfl)
                      · refine lv_iload hx hb dX1_nearestPlace_93 (lv_at hl 2 rfl) ?_
                        refine lv_istore (lv' := [(5, .int (nI (v8_1 * 8 + v9_5))), (13, .int 1), (11, .long y_22), (10, .int (nI (v8_1 * 8 + v9_5))), (9, .int (nI v9_5)), (8, .int (nI v8_1)), (6, .long v6_5), (0, .ref (a 1)), (1, .int (nI i)), (2, .int ar), (3, .long le)]) hx hb dX1_nearestPlace_95 hl (by decide) rfl (fun ls hl => ?_)
                        refine lv_lload hx hb dX1_nearestPlace_97 (lv_at hl 2 rfl) ?_
                        refine lv_lstore (lv' := [(6, .long y_22), (5, .int (nI (v8_1 * 8 + v9_5))), (13, .int 1), (11, .long y_22), (10, .int (nI (v8_1 * 8 + v9_5))), (9, .int (nI v9_5)), (8, .int (nI v8_1)), (0, .ref (a 1)), (1, .int (nI i)), (2, .int ar), (3, .long le)]) hx hb dX1_nearestPlace_99 hl (by decide) rfl (fun ls hl => ?_)
                        refine lv_iinc (v := (nI (v9_5 + 1))) (lv' := [(9, .int (nI (v9_5 + 1))), (6, .long y_22), (5, .int (nI (v8_1 * 8 + v9_5))), (13, .int 1), (11, .long y_22), (10, .int (nI (v8_1 * 8 + v9_5))), (8, .int (nI v8_1)), (0, .ref (a 1)), (1, .int (nI i)), (2, .int ar), (3, .long le)]) hx hb dX1_nearestPlace_101 hl (k := 5) rfl (nI_add v9_5 1) (by decide) rfl (fun ls hl => ?_)
                        refine lv_goto (tgt := 21) hx hb dX1_nearestPlace_104 (by decide) ?_
                        exact ih_5 (v9_5 + 1) y_22 (nI (v8_1 * 8 + v9_5)) ((okx_n (j := (v8_1 * 8 + v9_5)) (by omega))) (by omega) (by omega) _ _ _ hw (lv_sub hl [0, 6, 1, 2, 7, 8, 9, 10] rfl)
          exact loop_5 _ 0 v6_1 (-1) (okx_m) (by omega)  (Nat.lt_succ_self _) _ _ _ hw (lv_sub hl [0, 1, 2, 3, 4, 5, 6, 7] rfl)
      · subst ex_2
        refine lv_iload hx hb dX1_nearestPlace_9 (lv_at hl 0 rfl) ?_
        refine lv_aload_n hx hb dX1_nearestPlace_11 rfl (lv_at hl 3 rfl) ?_
        refine gf_X1_21 cx hw dX1_nearestPlace_12 ?_
        obtain ⟨n_30, hn_30, en_30⟩ := IV.s_1_3 hi
        refine topc (y := (nI n_30)) en_30 ?_
        refine lv_icmp_ge (tgt := 113) hx hb dX1_nearestPlace_15 (by decide) (fun c_31 => ?_) (fun c_31 => ?_)
        · have c_31 : n_30 ≤ v8_1 := (nI_leI (a := n_30) (b := v8_1) (by omega) (by omega)).mp c_31
          refine lv_iload hx hb dX1_nearestPlace_113 (lv_at hl 2 rfl) ?_
          exact retI cx hw hr hk dX1_nearestPlace_115 ⟨rfl, rfl, Or.inr ⟨n_2, by omega, rfl⟩⟩
        · have c_31 : ¬ n_30 ≤ v8_1 := fun z => c_31 ((nI_leI (a := n_30) (b := v8_1) (by omega) (by omega)).mpr z)
          refine lv_iconst (v := 0) hx hb dX1_nearestPlace_18 (by decide) ?_
          refine lv_istore (lv' := [(9, .int 0), (8, .int (nI v8_1)), (6, .long v6_1), (5, .int (nI n_2)), (0, .ref (a 1)), (1, .int (nI i)), (2, .int ar), (3, .long le)]) hx hb dX1_nearestPlace_19 hl (by decide) rfl (fun ls hl => ?_)
          have loop_32 : ∀ (k_32 : Nat) (v9_32 : Nat) (v6_32 : Int64) (v5_32 : Int32), okx 32 v5_32 → v9_32 ≤ 8 → 8 + 1 - v9_32 < k_32 → ∀ (H : Heap) (locs : List Loc) (ls : Array Slot), Wd D a cI cZ s f u H locs → lv_has ls 14 [(9, .int (nI v9_32)), (8, .int (nI v8_1)), (6, .long v6_32), (5, .int v5_32), (0, .ref (a 1)), (1, .int (nI i)), (2, .int ar), (3, .long le)] → W p l e ({ frames := 4, cells := 0, slots := 0, locals := 85 } : Room) s m ([.ref (a 1), .int (nI i), .int ar, .long le] : List Value).toArray below meth c H locs 0 0 (MQ below (QI D a cI cZ (fun r f2 u2 => f = f2 ∧ u = u2 ∧ ((r = (-1)) ∨ (∃ j, j < 32 ∧ r = nI j)))) ([.ref (a 1), .int (nI i), .int ar, .long le] : List Value).toArray s 0 0 (AA a)) (F0 m 21 ls []) := by
            intro k_32
            induction k_32 with
            | zero => intros; omega
            | succ k_32 ih_32 =>
              intro v9_32 v6_32 v5_32 hx_v5_32 hb0_32  hm_32  H locs ls hw hl
              rcases hx_v5_32 with ex_33 | ⟨n_33, hn_33, ex_33⟩
              · subst ex_33
                refine lv_iload hx hb dX1_nearestPlace_21 (lv_at hl 0 rfl) ?_
                refine lv_aload_n hx hb dX1_nearestPlace_23 rfl (lv_at hl 4 rfl) ?_
                refine gf_X1_18 cx hw dX1_nearestPlace_24 ?_
                refine lv_iload hx hb dX1_nearestPlace_27 (lv_at hl 1 rfl) ?_
                refine aldN 11 v8_1 cx hw rfl (by omega) (by decide) dX1_nearestPlace_29 ?_
                obtain ⟨n_34, hn_34, en_34⟩ := IV.a_11 hi (i := v8_1) (by omega)
                refine topc (y := (nI n_34)) en_34 ?_
                refine lv_icmp_ge (tgt := 107) hx hb dX1_nearestPlace_30 (by decide) (fun c_35 => ?_) (fun c_35 => ?_)
                · have c_35 : n_34 ≤ v9_32 := (nI_leI (a := n_34) (b := v9_32) (by omega) (by omega)).mp c_35
                  refine lv_iinc (v := (nI (v8_1 + 1))) (lv' := [(8, .int (nI (v8_1 + 1))), (9, .int (nI v9_32)), (6, .long v6_32), (5, .int (-1)), (0, .ref (a 1)), (1, .int (nI i)), (2, .int ar), (3, .long le)]) hx hb dX1_nearestPlace_107 hl (k := 1) rfl (nI_add v8_1 1) (by decide) rfl (fun ls hl => ?_)
                  refine lv_goto (tgt := 9) hx hb dX1_nearestPlace_110 (by decide) ?_
                  exact ih_1 (v8_1 + 1) v6_32 (-1) (okx_m) (by omega) (by omega) _ _ _ hw (lv_sub hl [0, 2, 3, 4, 5, 6, 7] rfl)
                · have c_35 : ¬ n_34 ≤ v9_32 := fun z => c_35 ((nI_leI (a := n_34) (b := v9_32) (by omega) (by omega)).mpr z)
                  refine lv_iload hx hb dX1_nearestPlace_33 (lv_at hl 1 rfl) ?_
                  refine lv_iload hx hb dX1_nearestPlace_35 (lv_at hl 0 rfl) ?_
                  refine goI hw (runSW (As := [.int (nI v8_1), .int (nI v9_32)]) (rest := []) cx hw (k_X1_placeOf l D a cI cZ f u v8_1 v9_32  ) lk_X1_65 ⟨Nat.le_of_ble_eq_true rfl, Nat.le_of_ble_eq_true rfl⟩ ⟨rfl, rfl⟩ ⟨Nat.zero_le _, Nat.zero_le _⟩ rfl rfl hl.1 (Nat.le_of_ble_eq_true rfl) dX1_nearestPlace_37) (fun r_36 f_36 u_36 H locs hp_36 hw => ?_)
                  obtain ⟨rfl, rfl, ha_36⟩ := hp_36
                  have er_36 := ha_36
                  · subst er_36
                    refine lv_istore (lv' := [(10, .int (nI (v8_1 * 8 + v9_32))), (9, .int (nI v9_32)), (8, .int (nI v8_1)), (6, .long v6_32), (5, .int (-1)), (0, .ref (a 1)), (1, .int (nI i)), (2, .int ar), (3, .long le)]) hx hb dX1_nearestPlace_40 hl (by decide) rfl (fun ls hl => ?_)
                    refine lv_lload_n hx hb dX1_nearestPlace_42 rfl (lv_at hl 8 rfl) ?_
                    refine lv_aload_n hx hb dX1_nearestPlace_43 rfl (lv_at hl 5 rfl) ?_
                    refine lv_iload_n hx hb dX1_nearestPlace_44 rfl (lv_at hl 6 rfl) ?_
                    refine lv_iload hx hb dX1_nearestPlace_45 (lv_at hl 0 rfl) ?_
                    refine lv_iload_n hx hb dX1_nearestPlace_47 rfl (lv_at hl 7 rfl) ?_
                    refine goL hw (runVW (k := 1) (As := [.int (nI i), .int (nI (v8_1 * 8 + v9_32)), .int ar]) (rest := [.long le]) cx hw (k_X1_leanAt l D a cI cZ f u i (v8_1 * 8 + v9_32) ar  hi (by omega) (by omega)) lk_X1_102 rfl rfl ⟨Nat.le_of_ble_eq_true rfl, Nat.le_of_ble_eq_true rfl⟩ ⟨rfl, rfl⟩ ⟨Nat.zero_le _, Nat.zero_le _⟩ rfl rfl hl.1 (Nat.le_of_ble_eq_true rfl) dX1_nearestPlace_48) (fun r_37 f_37 u_37 H locs hp_37 hw => ?_)
                    obtain ⟨rfl, rfl⟩ := hp_37
                    refine lv_ladd hx hb dX1_nearestPlace_51 ?_
                    refine lv_topl (fun y_38 _ => ?_)
                    refine jAbsL (rest := []) cx hl.1 mm_3_151 (Nat.le_of_ble_eq_true rfl) (Nat.le_of_ble_eq_true rfl) ⟨Nat.zero_le _, Nat.zero_le _⟩ dX1_nearestPlace_52 (fun y_39 => ?_)
                    refine lv_lstore (lv' := [(11, .long y_39), (10, .int (nI (v8_1 * 8 + v9_32))), (9, .int (nI v9_32)), (8, .int (nI v8_1)), (6, .long v6_32), (5, .int (-1)), (0, .ref (a 1)), (1, .int (nI i)), (2, .int ar), (3, .long le)]) hx hb dX1_nearestPlace_55 hl (by decide) rfl (fun ls hl => ?_)
                    refine lv_iload hx hb dX1_nearestPlace_57 (lv_at hl 5 rfl) ?_
                    refine lv_iconst (v := (-1)) hx hb dX1_nearestPlace_59 (by decide) ?_
                    refine lv_icmp_eq (tgt := 71) hx hb dX1_nearestPlace_60 (by decide) (fun _ => ?_) (fun q => absurd (by decide) q)
                    refine lv_iconst (v := 1) hx hb dX1_nearestPlace_71 (by decide) ?_
                    refine lv_goto (tgt := 76) hx hb dX1_nearestPlace_72 (by decide) ?_
                    refine lv_istore (lv' := [(13, .int 1), (11, .long y_39), (10, .int (nI (v8_1 * 8 + v9_32))), (9, .int (nI v9_32)), (8, .int (nI v8_1)), (6, .long v6_32), (5, .int (-1)), (0, .ref (a 1)), (1, .int (nI i)), (2, .int ar), (3, .long le)]) hx hb dX1_nearestPlace_76 hl (by decide) rfl (fun ls hl => ?_)
                    refine lv_iload hx hb dX1_nearestPlace_78 (lv_at hl 0 rfl) ?_
                    refine lv_if_eq (tgt := 101) hx hb dX1_nearestPlace_80 (by decide) (fun q => absurd q (by decide)) (fun _ => ?_)
                    refine lv_aload_n hx hb dX1_nearestPlace_83 rfl (lv_at hl 7 rfl) ?_
                    refine lv_iload_n hx hb dX1_nearestPlace_84 rfl (lv_at hl 8 rfl) ?_
                    refine lv_iload hx hb dX1_nearestPlace_85 (lv_at hl 2 rfl) ?_
                    refine goI hw (runVW (k := 1) (As := [.int (nI i), .int (nI (v8_1 * 8 + v9_32))]) (rest := []) cx hw (k_X1_hindrance l D a cI cZ f u i (v8_1 * 8 + v9_32)  hi (by omega) (by omega)) lk_X1_124 rfl rfl ⟨Nat.le_of_ble_eq_true rfl, Nat.le_of_ble_eq_true rfl⟩ ⟨rfl, rfl⟩ ⟨Nat.zero_le _, Nat.zero_le _⟩ rfl rfl hl.1 (Nat.le_of_ble_eq_true rfl) dX1_nearestPlace_87) (fun r_42 f_42 u_42 H locs hp_42 hw => ?_)
                    obtain ⟨rfl, rfl⟩ := hp_42
                    refine lv_if_ne (tgt := 101) hx hb dX1_nearestPlace_90 (by decide) (fun _ => ?_) (fun _ => ?_)
                    · refine lv_iinc (v := (nI (v9_32 + 1))) (lv' := [(9, .int (nI (v9_32 + 1))), (13, .int 1), (11, .long y_39), (10, .int (nI (v8_1 * 8 + v9_32))), (8, .int (nI v8_1)), (6, .long v6_32), (5, .int (-1)), (0, .ref (a 1)), (1, .int (nI i)), (2, .int ar), (3, .long le)]) hx hb dX1_nearestPlace_101 hl (k := 3) rfl (nI_add v9_32 1) (by decide) rfl (fun ls hl => ?_)
                      refine lv_goto (tgt := 21) hx hb dX1_nearestPlace_104 (by decide) ?_
                      exact ih_32 (v9_32 + 1) v6_32 (-1) (okx_m) (by omega) (by omega) _ _ _ hw (lv_sub hl [0, 4, 5, 6, 7, 8, 9, 10] rfl)
                    · refine lv_iload hx hb dX1_nearestPlace_93 (lv_at hl 2 rfl) ?_
                      refine lv_istore (lv' := [(5, .int (nI (v8_1 * 8 + v9_32))), (13, .int 1), (11, .long y_39), (10, .int (nI (v8_1 * 8 + v9_32))), (9, .int (nI v9_32)), (8, .int (nI v8_1)), (6, .long v6_32), (0, .ref (a 1)), (1, .int (nI i)), (2, .int ar), (3, .long le)]) hx hb dX1_nearestPlace_95 hl (by decide) rfl (fun ls hl => ?_)
                      refine lv_lload hx hb dX1_nearestPlace_97 (lv_at hl 2 rfl) ?_
                      refine lv_lstore (lv' := [(6, .long y_39), (5, .int (nI (v8_1 * 8 + v9_32))), (13, .int 1), (11, .long y_39), (10, .int (nI (v8_1 * 8 + v9_32))), (9, .int (nI v9_32)), (8, .int (nI v8_1)), (0, .ref (a 1)), (1, .int (nI i)), (2, .int ar), (3, .long le)]) hx hb dX1_nearestPlace_99 hl (by decide) rfl (fun ls hl => ?_)
                      refine lv_iinc (v := (nI (v9_32 + 1))) (lv' := [(9, .int (nI (v9_32 + 1))), (6, .long y_39), (5, .int (nI (v8_1 * 8 + v9_32))), (13, .int 1), (11, .long y_39), (10, .int (nI (v8_1 * 8 + v9_32))), (8, .int (nI v8_1)), (0, .ref (a 1)), (1, .int (nI i)), (2, .int ar), (3, .long le)]) hx hb dX1_nearestPlace_101 hl (k := 5) rfl (nI_add v9_32 1) (by decide) rfl (fun ls hl => ?_)
                      refine lv_goto (tgt := 21) hx hb dX1_nearestPlace_104 (by decide) ?_
                      exact ih_32 (v9_32 + 1) y_39 (nI (v8_1 * 8 + v9_32)) ((okx_n (j := (v8_1 * 8 + v9_32)) (by omega))) (by omega) (by omega) _ _ _ hw (lv_sub hl [0, 6, 1, 2, 7, 8, 9, 10] rfl)
              · subst ex_33
                refine lv_iload hx hb dX1_nearestPlace_21 (lv_at hl 0 rfl) ?_
                refine lv_aload_n hx hb dX1_nearestPlace_23 rfl (lv_at hl 4 rfl) ?_
                refine gf_X1_18 cx hw dX1_nearestPlace_24 ?_
                refine lv_iload hx hb dX1_nearestPlace_27 (lv_at hl 1 rfl) ?_
                refine aldN 11 v8_1 cx hw rfl (by omega) (by decide) dX1_nearestPlace_29 ?_
                obtain ⟨n_44, hn_44, en_44⟩ := IV.a_11 hi (i := v8_1) (by omega)
                refine topc (y := (nI n_44)) en_44 ?_
                refine lv_icmp_ge (tgt := 107) hx hb dX1_nearestPlace_30 (by decide) (fun c_45 => ?_) (fun c_45 => ?_)
                · have c_45 : n_44 ≤ v9_32 := (nI_leI (a := n_44) (b := v9_32) (by omega) (by omega)).mp c_45
                  refine lv_iinc (v := (nI (v8_1 + 1))) (lv' := [(8, .int (nI (v8_1 + 1))), (9, .int (nI v9_32)), (6, .long v6_32), (5, .int (nI n_33)), (0, .ref (a 1)), (1, .int (nI i)), (2, .int ar), (3, .long le)]) hx hb dX1_nearestPlace_107 hl (k := 1) rfl (nI_add v8_1 1) (by decide) rfl (fun ls hl => ?_)
                  refine lv_goto (tgt := 9) hx hb dX1_nearestPlace_110 (by decide) ?_
                  exact ih_1 (v8_1 + 1) v6_32 (nI n_33) ((okx_n (j := n_33) (by omega))) (by omega) (by omega) _ _ _ hw (lv_sub hl [0, 2, 3, 4, 5, 6, 7] rfl)
                · have c_45 : ¬ n_44 ≤ v9_32 := fun z => c_45 ((nI_leI (a := n_44) (b := v9_32) (by omega) (by omega)).mpr z)
                  refine lv_iload hx hb dX1_nearestPlace_33 (lv_at hl 1 rfl) ?_
                  refine lv_iload hx hb dX1_nearestPlace_35 (lv_at hl 0 rfl) ?_
                  refine goI hw (runSW (As := [.int (nI v8_1), .int (nI v9_32)]) (rest := []) cx hw (k_X1_placeOf l D a cI cZ f u v8_1 v9_32  ) lk_X1_65 ⟨Nat.le_of_ble_eq_true rfl, Nat.le_of_ble_eq_true rfl⟩ ⟨rfl, rfl⟩ ⟨Nat.zero_le _, Nat.zero_le _⟩ rfl rfl hl.1 (Nat.le_of_ble_eq_true rfl) dX1_nearestPlace_37) (fun r_46 f_46 u_46 H locs hp_46 hw => ?_)
                  obtain ⟨rfl, rfl, ha_46⟩ := hp_46
                  have er_46 := ha_46
                  · subst er_46
                    refine lv_istore (lv' := [(10, .int (nI (v8_1 * 8 + v9_32))), (9, .int (nI v9_32)), (8, .int (nI v8_1)), (6, .long v6_32), (5, .int (nI n_33)), (0, .ref (a 1)), (1, .int (nI i)), (2, .int ar), (3, .long le)]) hx hb dX1_nearestPlace_40 hl (by decide) rfl (fun ls hl => ?_)
                    refine lv_lload_n hx hb dX1_nearestPlace_42 rfl (lv_at hl 8 rfl) ?_
                    refine lv_aload_n hx hb dX1_nearestPlace_43 rfl (lv_at hl 5 rfl) ?_
                    refine lv_iload_n hx hb dX1_nearestPlace_44 rfl (lv_at hl 6 rfl) ?_
                    refine lv_iload hx hb dX1_nearestPlace_45 (lv_at hl 0 rfl) ?_
                    refine lv_iload_n hx hb dX1_nearestPlace_47 rfl (lv_at hl 7 rfl) ?_
                    refine goL hw (runVW (k := 1) (As := [.int (nI i), .int (nI (v8_1 * 8 + v9_32)), .int ar]) (rest := [.long le]) cx hw (k_X1_leanAt l D a cI cZ f u i (v8_1 * 8 + v9_32) ar  hi (by omega) (by omega)) lk_X1_102 rfl rfl ⟨Nat.le_of_ble_eq_true rfl, Nat.le_of_ble_eq_true rfl⟩ ⟨rfl, rfl⟩ ⟨Nat.zero_le _, Nat.zero_le _⟩ rfl rfl hl.1 (Nat.le_of_ble_eq_true rfl) dX1_nearestPlace_48) (fun r_47 f_47 u_47 H locs hp_47 hw => ?_)
                    obtain ⟨rfl, rfl⟩ := hp_47
                    refine lv_ladd hx hb dX1_nearestPlace_51 ?_
                    refine lv_topl (fun y_48 _ => ?_)
                    refine jAbsL (rest := []) cx hl.1 mm_3_151 (Nat.le_of_ble_eq_true rfl) (Nat.le_of_ble_eq_true rfl) ⟨Nat.zero_le _, Nat.zero_le _⟩ dX1_nearestPlace_52 (fun y_49 => ?_)
                    refine lv_lstore (lv' := [(11, .long y_49), (10, .int (nI (v8_1 * 8 + v9_32))), (9, .int (nI v9_32)), (8, .int (nI v8_1)), (6, .long v6_32), (5, .int (nI n_33)), (0, .ref (a 1)), (1, .int (nI i)), (2, .int ar), (3, .long le)]) hx hb dX1_nearestPlace_55 hl (by decide) rfl (fun ls hl => ?_)
                    refine lv_iload hx hb dX1_nearestPlace_57 (lv_at hl 5 rfl) ?_
                    refine lv_iconst (v := (-1)) hx hb dX1_nearestPlace_59 (by decide) ?_
                    refine lv_icmp_eq (tgt := 71) hx hb dX1_nearestPlace_60 (by decide) (fun q => absurd q (nI_m1 (by omega))) (fun _ => ?_)
                    refine lv_lload hx hb dX1_nearestPlace_63 (lv_at hl 0 rfl) ?_
                    refine lv_lload hx hb dX1_nearestPlace_65 (lv_at hl 4 rfl) ?_
                    refine W.lcmp hx hb dX1_nearestPlace_67 ?_
                    refine lv_topi (fun x_51 _ => ?_)
                    refine lv_if_ge (tgt := 75) hx hb dX1_nearestPlace_68 (by decide) (fun c_52 => ?_) (fun c_52 => ?_)
                    · refine lv_iconst (v := 0) hx hb dX1_nearestPlace_75 (by decide) ?_
                      refine lv_istore (lv' := [(13, .int 0), (11, .long y_49), (10, .int (nI (v8_1 * 8 + v9_32))), (9, .int (nI v9_32)), (8, .int (nI v8_1)), (6, .long v6_32), (5, .int (nI n_33)), (0, .ref (a 1)), (1, .int (nI i)), (2, .int ar), (3, .long le)]) hx hb dX1_nearestPlace_76 hl (by decide) rfl (fun ls hl => ?_)
                      refine lv_iload hx hb dX1_nearestPlace_78 (lv_at hl 0 rfl) ?_
                      refine lv_if_eq (tgt := 101) hx hb dX1_nearestPlace_80 (by decide) (fun _ => ?_) (fun q => absurd (by decide) q)
                      refine lv_iinc (v := (nI (v9_32 + 1))) (lv' := [(9, .int (nI (v9_32 + 1))), (13, .int 0), (11, .long y_49), (10, .int (nI (v8_1 * 8 + v9_32))), (8, .int (nI v8_1)), (6, .long v6_32), (5, .int (nI n_33)), (0, .ref (a 1)), (1, .int (nI i)), (2, .int ar), (3, .long le)]) hx hb dX1_nearestPlace_101 hl (k := 3) rfl (nI_add v9_32 1) (by decide) rfl (fun ls hl => ?_)
                      refine lv_goto (tgt := 21) hx hb dX1_nearestPlace_104 (by decide) ?_
                      exact ih_32 (v9_32 + 1) v6_32 (nI n_33) ((okx_n (j := n_33) (by omega))) (by omega) (by omega) _ _ _ hw (lv_sub hl [0, 4, 5, 6, 7, 8, 9, 10] rfl)
                    · refine lv_iconst (v := 1) hx hb dX1_nearestPlace_71 (by decide) ?_
                      refine lv_goto (tgt := 76) hx hb dX1_nearestPlace_72 (by decide) ?_
                      refine lv_istore (lv' := [(13, .int 1), (11, .long y_49), (10, .int (nI (v8_1 * 8 + v9_32))), (9, .int (nI v9_32)), (8, .int (nI v8_1)), (6, .long v6_32), (5, .int (nI n_33)), (0, .ref (a 1)), (1, .int (nI i)), (2, .int ar), (3, .long le)]) hx hb dX1_nearestPlace_76 hl (by decide) rfl (fun ls hl => ?_)
                      refine lv_iload hx hb dX1_nearestPlace_78 (lv_at hl 0 rfl) ?_
                      refine lv_if_eq (tgt := 101) hx hb dX1_nearestPlace_80 (by decide) (fun q => absurd q (by decide)) (fun _ => ?_)
                      refine lv_aload_n hx hb dX1_nearestPlace_83 rfl (lv_at hl 7 rfl) ?_
                      refine lv_iload_n hx hb dX1_nearestPlace_84 rfl (lv_at hl 8 rfl) ?_
                      refine lv_iload hx hb dX1_nearestPlace_85 (lv_at hl 2 rfl) ?_
                      refine goI hw (runVW (k := 1) (As := [.int (nI i), .int (nI (v8_1 * 8 + v9_32))]) (rest := []) cx hw (k_X1_hindrance l D a cI cZ f u i (v8_1 * 8 + v9_32)  hi (by omega) (by omega)) lk_X1_124 rfl rfl ⟨Nat.le_of_ble_eq_true rfl, Nat.le_of_ble_eq_true rfl⟩ ⟨rfl, rfl⟩ ⟨Nat.zero_le _, Nat.zero_le _⟩ rfl rfl hl.1 (Nat.le_of_ble_eq_true rfl) dX1_nearestPlace_87) (fun r_55 f_55 u_55 H locs hp_55 hw => ?_)
                      obtain ⟨rfl, rfl⟩ := hp_55
                      refine lv_if_ne (tgt := 101) hx hb dX1_nearestPlace_90 (by decide) (fun _ => ?_) (fun _ => ?_)
                      · refine lv_iinc (v := (nI (v9_32 + 1))) (lv' := [(9, .int (nI (v9_32 + 1))), (13, .int 1), (11, .long y_49), (10, .int (nI (v8_1 * 8 + v9_32))), (8, .int (nI v8_1)), (6, .long v6_32), (5, .int (nI n_33)), (0, .ref (a 1)), (1, .int (nI i)), (2, .int ar), (3, .long le)]) hx hb dX1_nearestPlace_101 hl (k := 3) rfl (nI_add v9_32 1) (by decide) rfl (fun ls hl => ?_)
                        refine lv_goto (tgt := 21) hx hb dX1_nearestPlace_104 (by decide) ?_
                        exact ih_32 (v9_32 + 1) v6_32 (nI n_33) ((okx_n (j := n_33) (by omega))) (by omega) (by omega) _ _ _ hw (lv_sub hl [0, 4, 5, 6, 7, 8, 9, 10] rfl)
                      · refine lv_iload hx hb dX1_nearestPlace_93 (lv_at hl 2 rfl) ?_
                        refine lv_istore (lv' := [(5, .int (nI (v8_1 * 8 + v9_32))), (13, .int 1), (11, .long y_49), (10, .int (nI (v8_1 * 8 + v9_32))), (9, .int (nI v9_32)), (8, .int (nI v8_1)), (6, .long v6_32), (0, .ref (a 1)), (1, .int (nI i)), (2, .int ar), (3, .long le)]) hx hb dX1_nearestPlace_95 hl (by decide) rfl (fun ls hl => ?_)
                        refine lv_lload hx hb dX1_nearestPlace_97 (lv_at hl 2 rfl) ?_
                        refine lv_lstore (lv' := [(6, .long y_49), (5, .int (nI (v8_1 * 8 + v9_32))), (13, .int 1), (11, .long y_49), (10, .int (nI (v8_1 * 8 + v9_32))), (9, .int (nI v9_32)), (8, .int (nI v8_1)), (0, .ref (a 1)), (1, .int (nI i)), (2, .int ar), (3, .long le)]) hx hb dX1_nearestPlace_99 hl (by decide) rfl (fun ls hl => ?_)
                        refine lv_iinc (v := (nI (v9_32 + 1))) (lv' := [(9, .int (nI (v9_32 + 1))), (6, .long y_49), (5, .int (nI (v8_1 * 8 + v9_32))), (13, .int 1), (11, .long y_49), (10, .int (nI (v8_1 * 8 + v9_32))), (8, .int (nI v8_1)), (0, .ref (a 1)), (1, .int (nI i)), (2, .int ar), (3, .long le)]) hx hb dX1_nearestPlace_101 hl (k := 5) rfl (nI_add v9_32 1) (by decide) rfl (fun ls hl => ?_)
                        refine lv_goto (tgt := 21) hx hb dX1_nearestPlace_104 (by decide) ?_
                        exact ih_32 (v9_32 + 1) y_49 (nI (v8_1 * 8 + v9_32)) ((okx_n (j := (v8_1 * 8 + v9_32)) (by omega))) (by omega) (by omega) _ _ _ hw (lv_sub hl [0, 6, 1, 2, 7, 8, 9, 10] rfl)
          exact loop_32 _ 0 v6_1 (nI n_2) ((okx_n (j := n_2) (by omega))) (by omega)  (Nat.lt_succ_self _) _ _ _ hw (lv_sub hl [0, 1, 2, 3, 4, 5, 6, 7] rfl)
  exact loop_1 _ 0 0 (-1) (okx_m) (by omega)  (Nat.lt_succ_self _) _ _ _ hw (lv_sub hl [0, 1, 2, 3, 4, 5, 6] rfl)

set_option maxHeartbeats 4000000 in
set_option maxRecDepth 100000 in
theorem k_X1_loadHeaviestFirst (l : Launch) (D : va_G) (a : Nat → Nat) (cI cZ : ClassId) (f : FF) (u : UU) (ar : Int32) (le : Int64) (hi : IV f)  : KI l yX1_loadHeaviestFirst cX1_loadHeaviestFirst 10 (some .int) ({ frames := 5, cells := 0, slots := 0, locals := 118 } : Room) D a cI cZ [.ref (a 1), .int ar, .long le] f u (fun r f2 u2 => IV f2 ∧ KK [14, 18] f f2) := by
  refine KX.of (by decide) (Nat.le_of_ble_eq_true rfl) ?_
  intro p e s m below meth c cx hw hr hk ls hl
  have cx : Cx p s m _ c cX1_loadHeaviestFirst RX1 10 D cI cZ := cx
  have hl : lv_has ls 10 [(0, .ref (a 1)), (1, .int ar), (2, .long le)] := hl
  have hx := cx.1.1
  have hb := cx.1.2.1
  refine lv_lload_n hx hb dX1_loadHeaviestFirst_0 rfl (lv_at hl 2 rfl) ?_
  refine lv_lstore (lv' := [(4, .long le), (0, .ref (a 1)), (1, .int ar), (2, .long le)]) hx hb dX1_loadHeaviestFirst_1 hl (by decide) rfl (fun ls hl => ?_)
  refine lv_iconst (v := 0) hx hb dX1_loadHeaviestFirst_3 (by decide) ?_
  refine lv_istore (lv' := [(6, .int 0), (4, .long le), (0, .ref (a 1)), (1, .int ar), (2, .long le)]) hx hb dX1_loadHeaviestFirst_4 hl (by decide) rfl (fun ls hl => ?_)
  refine lv_iconst (v := 0) hx hb dX1_loadHeaviestFirst_6 (by decide) ?_
  refine lv_istore (lv' := [(7, .int 0), (6, .int 0), (4, .long le), (0, .ref (a 1)), (1, .int ar), (2, .long le)]) hx hb dX1_loadHeaviestFirst_7 hl (by decide) rfl (fun ls hl => ?_)
  have loop_1 : ∀ (k_1 : Nat) (v7_1 : Nat) (v6_1 : Int32) (v4_1 : Int64), v7_1 ≤ 40 → 40 + 1 - v7_1 < k_1 → ∀ (f_1 : FF) (u_1 : UU), IV f_1 → KK [14, 18] f f_1 → ∀ (H : Heap) (locs : List Loc) (ls : Array Slot), Wd D a cI cZ s f_1 u_1 H locs → lv_has ls 10 [(7, .int (nI v7_1)), (6, .int v6_1), (4, .long v4_1), (0, .ref (a 1)), (1, .int ar), (2, .long le)] → W p l e ({ frames := 5, cells := 0, slots := 0, locals := 118 } : Room) s m ([.ref (a 1), .int ar, .long le] : List Value).toArray below meth c H locs 0 0 (MQ below (QI D a cI cZ (fun r f2 u2 => IV f2 ∧ KK [14, 18] f f2)) ([.ref (a 1), .int ar, .long le] : List Value).toArray s 0 0 (AA a)) (F0 m 9 ls []) := by
    intro k_1
    induction k_1 with
    | zero => intros; omega
    | succ k_1 ih_1 =>
      intro v7_1 v6_1 v4_1  hb0_1  hm_1 f_1 u_1 hi_1 kk_1  H locs ls hw hl
      refine lv_iload hx hb dX1_loadHeaviestFirst_9 (lv_at hl 0 rfl) ?_
      refine lv_aload_n hx hb dX1_loadHeaviestFirst_11 rfl (lv_at hl 3 rfl) ?_
      refine gf_X1_49 cx hw dX1_loadHeaviestFirst_12 ?_
      obtain ⟨n_2, hn_2, en_2⟩ := IV.s_1_12 hi_1
      refine topc (y := (nI n_2)) en_2 ?_
      refine lv_icmp_ge (tgt := 84) hx hb dX1_loadHeaviestFirst_15 (by decide) (fun c_3 => ?_) (fun c_3 => ?_)
      · have c_3 : n_2 ≤ v7_1 := (nI_leI (a := n_2) (b := v7_1) (by omega) (by omega)).mp c_3
        refine lv_iload hx hb dX1_loadHeaviestFirst_84 (lv_at hl 1 rfl) ?_
        exact retI cx hw hr hk dX1_loadHeaviestFirst_86 ⟨hi_1, kk_1⟩
      · have c_3 : ¬ n_2 ≤ v7_1 := fun z => c_3 ((nI_leI (a := n_2) (b := v7_1) (by omega) (by omega)).mpr z)
        refine lv_aload_n hx hb dX1_loadHeaviestFirst_18 rfl (lv_at hl 3 rfl) ?_
        refine gf_X1_46 cx hw dX1_loadHeaviestFirst_19 ?_
        refine lv_iload hx hb dX1_loadHeaviestFirst_22 (lv_at hl 0 rfl) ?_
        refine aldN 19 v7_1 cx hw rfl (by omega) (by decide) dX1_loadHeaviestFirst_24 ?_
        obtain ⟨n_4, hn_4, en_4⟩ := IV.a_19 hi_1 (i := v7_1) (by omega)
        refine topc (y := (nI n_4)) en_4 ?_
        refine lv_istore (lv' := [(8, .int (nI n_4)), (7, .int (nI v7_1)), (6, .int v6_1), (4, .long v4_1), (0, .ref (a 1)), (1, .int ar), (2, .long le)]) hx hb dX1_loadHeaviestFirst_25 hl (by decide) rfl (fun ls hl => ?_)
        refine lv_aload_n hx hb dX1_loadHeaviestFirst_27 rfl (lv_at hl 4 rfl) ?_
        refine lv_iload hx hb dX1_loadHeaviestFirst_28 (lv_at hl 0 rfl) ?_
        refine goI hw (runVW (k := 1) (As := [.int (nI n_4)]) (rest := []) cx hw (k_X1_isLoaded l D a cI cZ f_1 u_1 n_4  hi_1 (by omega)) lk_X1_73 rfl rfl ⟨Nat.le_of_ble_eq_true rfl, Nat.le_of_ble_eq_true rfl⟩ ⟨rfl, rfl⟩ ⟨Nat.zero_le _, Nat.zero_le _⟩ rfl rfl hl.1 (Nat.le_of_ble_eq_true rfl) dX1_loadHeaviestFirst_30) (fun r_5 f_5 u_5 H locs hp_5 hw => ?_)
        obtain ⟨rfl, rfl, ha_5⟩ := hp_5
        rcases ha_5 with ⟨er_5, q0_5_0⟩ | ⟨er_5, b1_5_j, q1_5_0, q1_5_1⟩
        · subst er_5
          refine lv_if_ne (tgt := 78) hx hb dX1_loadHeaviestFirst_33 (by decide) (fun q => absurd (by decide) q) (fun _ => ?_)
          refine lv_aload_n hx hb dX1_loadHeaviestFirst_36 rfl (lv_at hl 4 rfl) ?_
          refine lv_iload hx hb dX1_loadHeaviestFirst_37 (lv_at hl 0 rfl) ?_
          refine lv_iload_n hx hb dX1_loadHeaviestFirst_39 rfl (lv_at hl 5 rfl) ?_
          refine lv_lload hx hb dX1_loadHeaviestFirst_40 (lv_at hl 3 rfl) ?_
          refine goI hw (runVW (k := 1) (As := [.int (nI n_4), .int ar, .long v4_1]) (rest := []) cx hw (k_X1_nearestPlace l D a cI cZ f_1 u_1 n_4 ar v4_1  hi_1 (by omega)) lk_X1_114 rfl rfl ⟨Nat.le_of_ble_eq_true rfl, Nat.le_of_ble_eq_true rfl⟩ ⟨rfl, rfl⟩ ⟨Nat.zero_le _, Nat.zero_le _⟩ rfl rfl hl.1 (Nat.le_of_ble_eq_true rfl) dX1_loadHeaviestFirst_42) (fun r_7 f_7 u_7 H locs hp_7 hw => ?_)
          obtain ⟨rfl, rfl, ha_7⟩ := hp_7
          rcases ha_7 with er_7 | ⟨b1_7_j, q1_7_0, q1_7_1⟩
          · subst er_7
            refine lv_istore (lv' := [(9, .int (-1)), (8, .int (nI n_4)), (7, .int (nI v7_1)), (6, .int v6_1), (4, .long v4_1), (0, .ref (a 1)), (1, .int ar), (2, .long le)]) hx hb dX1_loadHeaviestFirst_45 hl (by decide) rfl (fun ls hl => ?_)
            refine lv_iload hx hb dX1_loadHeaviestFirst_47 (lv_at hl 0 rfl) ?_
            refine lv_iconst (v := (-1)) hx hb dX1_loadHeaviestFirst_49 (by decide) ?_
            refine lv_icmp_eq (tgt := 78) hx hb dX1_loadHeaviestFirst_50 (by decide) (fun _ => ?_) (fun q => absurd (by decide) q)
            refine lv_iinc (v := (nI (v7_1 + 1))) (lv' := [(7, .int (nI (v7_1 + 1))), (9, .int (-1)), (8, .int (nI n_4)), (6, .int v6_1), (4, .long v4_1), (0, .ref (a 1)), (1, .int ar), (2, .long le)]) hx hb dX1_loadHeaviestFirst_78 hl (k := 2) rfl (nI_add v7_1 1) (by decide) rfl (fun ls hl => ?_)
            refine lv_goto (tgt := 9) hx hb dX1_loadHeaviestFirst_81 (by decide) ?_
            exact ih_1 (v7_1 + 1) v6_1 v4_1  (by omega) (by omega) f_1 u_1 hi_1 kk_1  _ _ _ hw (lv_sub hl [0, 3, 4, 5, 6, 7] rfl)
          · subst q1_7_1
            refine lv_istore (lv' := [(9, .int (nI b1_7_j)), (8, .int (nI n_4)), (7, .int (nI v7_1)), (6, .int v6_1), (4, .long v4_1), (0, .ref (a 1)), (1, .int ar), (2, .long le)]) hx hb dX1_loadHeaviestFirst_45 hl (by decide) rfl (fun ls hl => ?_)
            refine lv_iload hx hb dX1_loadHeaviestFirst_47 (lv_at hl 0 rfl) ?_
            refine lv_iconst (v := (-1)) hx hb dX1_loadHeaviestFirst_49 (by decide) ?_
            refine lv_icmp_eq (tgt := 78) hx hb dX1_loadHeaviestFirst_50 (by decide) (fun q => absurd q (nI_m1 (by omega))) (fun _ => ?_)
            refine lv_aload_n hx hb dX1_loadHeaviestFirst_53 rfl (lv_at hl 5 rfl) ?_
            refine lv_iload hx hb dX1_loadHeaviestFirst_54 (lv_at hl 1 rfl) ?_
            refine lv_iload hx hb dX1_loadHeaviestFirst_56 (lv_at hl 0 rfl) ?_
            refine goV hw (runVW (k := 1) (As := [.int (nI n_4), .int (nI b1_7_j)]) (rest := []) cx hw (k_X1_putIn l D a cI cZ f_1 u_1 n_4 b1_7_j  hi_1 (by omega) (by omega)) lk_X1_118 rfl rfl ⟨Nat.le_of_ble_eq_true rfl, Nat.le_of_ble_eq_true rfl⟩ ⟨rfl, rfl⟩ ⟨Nat.zero_le _, Nat.zero_le _⟩ rfl rfl hl.1 (Nat.le_of_ble_eq_true rfl) dX1_loadHeaviestFirst_58) (fun f_10 u_10 H locs hp_10 hw => ?_)
            have hi_11 : IV (putC f_1 n_4 b1_7_j) := IV.wputC hi_1 (by omega) (by omega)
            obtain ⟨rfl, rfl⟩ := hp_10
            refine lv_lload hx hb dX1_loadHeaviestFirst_61 (lv_at hl 4 rfl) ?_
            refine lv_aload_n hx hb dX1_loadHeaviestFirst_63 rfl (lv_at hl 5 rfl) ?_
            refine lv_iload hx hb dX1_loadHeaviestFirst_64 (lv_at hl 1 rfl) ?_
            refine lv_iload hx hb dX1_loadHeaviestFirst_66 (lv_at hl 0 rfl) ?_
            refine lv_iload_n hx hb dX1_loadHeaviestFirst_68 rfl (lv_at hl 6 rfl) ?_
            refine goL hw (runVW (k := 1) (As := [.int (nI n_4), .int (nI b1_7_j), .int ar]) (rest := [.long v4_1]) cx hw (k_X1_leanAt l D a cI cZ (putC f_1 n_4 b1_7_j) u_1 n_4 b1_7_j ar  hi_11 (by omega) (by omega)) lk_X1_102 rfl rfl ⟨Nat.le_of_ble_eq_true rfl, Nat.le_of_ble_eq_true rfl⟩ ⟨rfl, rfl⟩ ⟨Nat.zero_le _, Nat.zero_le _⟩ rfl rfl hl.1 (Nat.le_of_ble_eq_true rfl) dX1_loadHeaviestFirst_69) (fun r_12 f_12 u_12 H locs hp_12 hw => ?_)
            obtain ⟨rfl, rfl⟩ := hp_12
            refine lv_ladd hx hb dX1_loadHeaviestFirst_72 ?_
            refine lv_topl (fun y_13 _ => ?_)
            refine lv_lstore (lv' := [(4, .long y_13), (9, .int (nI b1_7_j)), (8, .int (nI n_4)), (7, .int (nI v7_1)), (6, .int v6_1), (0, .ref (a 1)), (1, .int ar), (2, .long le)]) hx hb dX1_loadHeaviestFirst_73 hl (by decide) rfl (fun ls hl => ?_)
            refine lv_iinc (v := (v6_1 + 1)) (lv' := [(6, .int (v6_1 + 1)), (4, .long y_13), (9, .int (nI b1_7_j)), (8, .int (nI n_4)), (7, .int (nI v7_1)), (0, .ref (a 1)), (1, .int ar), (2, .long le)]) hx hb dX1_loadHeaviestFirst_75 hl (k := 4) rfl rfl (by decide) rfl (fun ls hl => ?_)
            refine lv_iinc (v := (nI (v7_1 + 1))) (lv' := [(7, .int (nI (v7_1 + 1))), (6, .int (v6_1 + 1)), (4, .long y_13), (9, .int (nI b1_7_j)), (8, .int (nI n_4)), (0, .ref (a 1)), (1, .int ar), (2, .long le)]) hx hb dX1_loadHeaviestFirst_78 hl (k := 4) rfl (nI_add v7_1 1) (by decide) rfl (fun ls hl => ?_)
            refine lv_goto (tgt := 9) hx hb dX1_loadHeaviestFirst_81 (by decide) ?_
            exact ih_1 (v7_1 + 1) (v6_1 + 1) y_13  (by omega) (by omega) (putC f_1 n_4 b1_7_j) u_1 hi_11 (KK.wputC (by decide) kk_1)  _ _ _ hw (lv_sub hl [0, 1, 2, 5, 6, 7] rfl)
        · subst er_5
          refine lv_if_ne (tgt := 78) hx hb dX1_loadHeaviestFirst_33 (by decide) (fun _ => ?_) (fun q => absurd q (by decide))
          refine lv_iinc (v := (nI (v7_1 + 1))) (lv' := [(7, .int (nI (v7_1 + 1))), (8, .int (nI n_4)), (6, .int v6_1), (4, .long v4_1), (0, .ref (a 1)), (1, .int ar), (2, .long le)]) hx hb dX1_loadHeaviestFirst_78 hl (k := 1) rfl (nI_add v7_1 1) (by decide) rfl (fun ls hl => ?_)
          refine lv_goto (tgt := 9) hx hb dX1_loadHeaviestFirst_81 (by decide) ?_
          exact ih_1 (v7_1 + 1) v6_1 v4_1  (by omega) (by omega) f_1 u_1 hi_1 kk_1  _ _ _ hw (lv_sub hl [0, 2, 3, 4, 5, 6] rfl)
  exact loop_1 _ 0 0 le  (by omega)  (Nat.lt_succ_self _) f u hi KK.rf  _ _ _ hw (lv_sub hl [0, 1, 2, 3, 4, 5] rfl)
