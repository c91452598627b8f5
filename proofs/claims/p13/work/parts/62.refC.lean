set_option maxHeartbeats 4000000 in
set_option maxRecDepth 100000 in
theorem k_X8_far (l : Launch) (D : va_G) (a : Nat → Nat) (cI cZ : ClassId) (f : FF) (u : UU) (ar : Int32) (we : Int32) (mm : Int64) (hi : IV f)  : KV l yX8_far cX8_far 5 none ({ frames := 1, cells := 0, slots := 0, locals := 12 } : Room) D a cI cZ [.ref (a 36), .int ar, .int we, .long mm] f u (fun f2 u2 => up f 36 (upd (f 36) 30 we) = f2) := by
  refine KX.of (by decide) (Nat.le_of_ble_eq_true rfl) ?_
  intro p e s m below meth c cx hw hr hk ls hl
  have cx : Cx p s m _ c cX8_far RX8 5 D cI cZ := cx
  have hl : lv_has ls 5 [(0, .ref (a 36)), (1, .int ar), (2, .int we), (3, .long mm)] := hl
  have hx := cx.1.1
  have hb := cx.1.2.1
  refine lv_aload_n hx hb dX8_far_0 rfl (lv_at hl 0 rfl) ?_
  refine lv_iload_n hx hb dX8_far_1 rfl (lv_at hl 2 rfl) ?_
  refine pf_X8_185 cx hw dX8_far_2 (fun H locs hw => ?_)
  have hi_1 : IV (up f 36 (upd (f 36) 30 we)) := IV.u_36_30 hi
  refine lv_aload_n hx hb dX8_far_5 rfl (lv_at hl 0 rfl) ?_
  refine lv_lload_n hx hb dX8_far_6 rfl (lv_at hl 3 rfl) ?_
  refine lv_iload_n hx hb dX8_far_7 rfl (lv_at hl 1 rfl) ?_
  refine lv_i2l hx hb dX8_far_8 rfl ?_
  refine lv_topl (fun y_2 _ => ?_)
  refine lv_iload_n hx hb dX8_far_9 rfl (lv_at hl 2 rfl) ?_
  refine lv_i2l hx hb dX8_far_10 rfl ?_
  refine lv_topl (fun y_3 _ => ?_)
  refine lv_lmul hx hb dX8_far_11 ?_
  refine lv_topl (fun y_4 _ => ?_)
  refine lv_lsub hx hb dX8_far_12 ?_
  refine lv_topl (fun y_5 _ => ?_)
  refine pf_X8_188 cx hw dX8_far_13 (fun H locs hw => ?_)
  refine lv_aload_n hx hb dX8_far_16 rfl (lv_at hl 0 rfl) ?_
  refine lv_aload_n hx hb dX8_far_17 rfl (lv_at hl 0 rfl) ?_
  refine gf_X8_188 cx hw dX8_far_18 ?_
  refine lv_topl (fun y_6 _ => ?_)
  refine lv_lconst (v := 0) hx hb dX8_far_21 (by decide) ?_
  refine W.lcmp hx hb dX8_far_22 ?_
  refine lv_topi (fun x_7 _ => ?_)
  refine lv_if_ge (tgt := 34) hx hb dX8_far_23 (by decide) (fun c_8 => ?_) (fun c_8 => ?_)
  · refine lv_aload_n hx hb dX8_far_34 rfl (lv_at hl 0 rfl) ?_
    refine gf_X8_188 cx hw dX8_far_35 ?_
    refine lv_topl (fun y_9 _ => ?_)
    refine pf_X8_188 cx hw dX8_far_38 (fun H locs hw => ?_)
    exact retV cx hw hr hk dX8_far_41 rfl
  · refine lv_aload_n hx hb dX8_far_26 rfl (lv_at hl 0 rfl) ?_
    refine gf_X8_188 cx hw dX8_far_27 ?_
    refine lv_topl (fun y_10 _ => ?_)
    refine lv_lneg hx hb dX8_far_30 ?_
    refine lv_topl (fun y_11 _ => ?_)
    refine lv_goto (tgt := 38) hx hb dX8_far_31 (by decide) ?_
    refine pf_X8_188 cx hw dX8_far_38 (fun H locs hw => ?_)
    exact retV cx hw hr hk dX8_far_41 rfl

set_option maxHeartbeats 4000000 in
set_option maxRecDepth 100000 in
theorem k_X8_isNearer (l : Launch) (D : va_G) (a : Nat → Nat) (cI cZ : ClassId) (f : FF) (u : UU) (uu : Int64) (dd : Int32) (vv : Int64) (ee : Int32) (hi : IV f)  : KI l yX8_isNearer cX8_isNearer 7 (some .boolean) ({ frames := 1, cells := 0, slots := 0, locals := 12 } : Room) D a cI cZ [.ref (a 36), .long uu, .int dd, .long vv, .int ee] f u (fun r f2 u2 => f = f2 ∧ u = u2 ∧ ((r = 0) ∨ (r = 1))) := by
  refine KX.of (by decide) (Nat.le_of_ble_eq_true rfl) ?_
  intro p e s m below meth c cx hw hr hk ls hl
  have cx : Cx p s m _ c cX8_isNearer RX8 7 D cI cZ := cx
  have hl : lv_has ls 7 [(0, .ref (a 36)), (1, .long uu), (3, .int dd), (4, .long vv), (6, .int ee)] := hl
  have hx := cx.1.1
  have hb := cx.1.2.1
  refine lv_lload_n hx hb dX8_isNearer_0 rfl (lv_at hl 1 rfl) ?_
  refine lv_iload hx hb dX8_isNearer_1 (lv_at hl 4 rfl) ?_
  refine lv_i2l hx hb dX8_isNearer_3 rfl ?_
  refine lv_topl (fun y_1 _ => ?_)
  refine lv_lmul hx hb dX8_isNearer_4 ?_
  refine lv_topl (fun y_2 _ => ?_)
  refine lv_lload hx hb dX8_isNearer_5 (lv_at hl 3 rfl) ?_
  refine lv_iload_n hx hb dX8_isNearer_7 rfl (lv_at hl 2 rfl) ?_
  refine lv_i2l hx hb dX8_isNearer_8 rfl ?_
  refine lv_topl (fun y_3 _ => ?_)
  refine lv_lmul hx hb dX8_isNearer_9 ?_
  refine lv_topl (fun y_4 _ => ?_)
  refine W.lcmp hx hb dX8_isNearer_10 ?_
  refine lv_topi (fun x_5 _ => ?_)
  refine lv_if_ge (tgt := 18) hx hb dX8_isNearer_11 (by decide) (fun c_6 => ?_) (fun c_6 => ?_)
  · refine lv_iconst (v := 0) hx hb dX8_isNearer_18 (by decide) ?_
    exact retZ cx hw hr hk rfl dX8_isNearer_19 ⟨rfl, rfl, Or.inl rfl⟩
  · refine lv_iconst (v := 1) hx hb dX8_isNearer_14 (by decide) ?_
    refine lv_goto (tgt := 19) hx hb dX8_isNearer_15 (by decide) ?_
    exact retZ cx hw hr hk rfl dX8_isNearer_19 ⟨rfl, rfl, Or.inr rfl⟩

set_option maxHeartbeats 4000000 in
set_option maxRecDepth 100000 in
theorem k_X8_isBetter (l : Launch) (D : va_G) (a : Nat → Nat) (cI cZ : ClassId) (f : FF) (u : UU) (ar : Int32) (hi : IV f)  : KI l yX8_isBetter cX8_isBetter 2 (some .boolean) ({ frames := 4, cells := 0, slots := 0, locals := 78 } : Room) D a cI cZ [.ref (a 36), .int ar] f u (fun r f2 u2 => IV f2 ∧ KK [36] f f2 ∧ ((r = 0) ∨ (r = 1))) := by
  refine KX.of (by decide) (Nat.le_of_ble_eq_true rfl) ?_
  intro p e s m below meth c cx hw hr hk ls hl
  have cx : Cx p s m _ c cX8_isBetter RX8 2 D cI cZ := cx
  have hl : lv_has ls 2 [(0, .ref (a 36)), (1, .int ar)] := hl
  have hx := cx.1.1
  have hb := cx.1.2.1
  refine lv_aload_n hx hb dX8_isBetter_0 rfl (lv_at hl 0 rfl) ?_
  refine lv_iload_n hx hb dX8_isBetter_1 rfl (lv_at hl 1 rfl) ?_
  refine lv_aload_n hx hb dX8_isBetter_2 rfl (lv_at hl 0 rfl) ?_
  refine goI hw (runVW (k := 36) (As := []) (rest := [.int ar, .ref (a 36)]) cx hw (k_X8_dryWeight l D a cI cZ f u   hi) lk_X8_153 rfl rfl ⟨Nat.le_of_ble_eq_true rfl, Nat.le_of_ble_eq_true rfl⟩ ⟨rfl, rfl⟩ ⟨Nat.zero_le _, Nat.zero_le _⟩ rfl rfl hl.1 (Nat.le_of_ble_eq_true rfl) dX8_isBetter_3) (fun r_1 f_1 u_1 H locs hp_1 hw => ?_)
  obtain ⟨rfl, rfl⟩ := hp_1
  refine lv_aload_n hx hb dX8_isBetter_6 rfl (lv_at hl 0 rfl) ?_
  refine goL hw (runVW (k := 36) (As := []) (rest := [.int r_1, .int ar, .ref (a 36)]) cx hw (k_X8_dryMoment l D a cI cZ f u   hi) lk_X8_160 rfl rfl ⟨Nat.le_of_ble_eq_true rfl, Nat.le_of_ble_eq_true rfl⟩ ⟨rfl, rfl⟩ ⟨Nat.zero_le _, Nat.zero_le _⟩ rfl rfl hl.1 (Nat.le_of_ble_eq_true rfl) dX8_isBetter_7) (fun r_2 f_2 u_2 H locs hp_2 hw => ?_)
  obtain ⟨rfl, rfl⟩ := hp_2
  refine goV hw (runVW (k := 36) (As := [.int ar, .int r_1, .long r_2]) (rest := []) cx hw (k_X8_far l D a cI cZ f u ar r_1 r_2  hi) lk_X8_192 rfl rfl ⟨Nat.le_of_ble_eq_true rfl, Nat.le_of_ble_eq_true rfl⟩ ⟨rfl, rfl⟩ ⟨Nat.zero_le _, Nat.zero_le _⟩ rfl rfl hl.1 (Nat.le_of_ble_eq_true rfl) dX8_isBetter_10) (fun f_3 u_3 H locs hp_3 hw => ?_)
  have hi_4 : IV (up f 36 (upd (f 36) 30 r_1)) := IV.u_36_30 hi
  subst hp_3
  refine lv_aload_n hx hb dX8_isBetter_13 rfl (lv_at hl 0 rfl) ?_
  refine lv_aload_n hx hb dX8_isBetter_14 rfl (lv_at hl 0 rfl) ?_
  refine gf_X8_188 cx hw dX8_isBetter_15 ?_
  refine lv_topl (fun y_5 _ => ?_)
  refine lv_aload_n hx hb dX8_isBetter_18 rfl (lv_at hl 0 rfl) ?_
  refine gf_X8_185 cx hw dX8_isBetter_19 ?_
  refine lv_topi (fun x_6 _ => ?_)
  refine lv_aload_n hx hb dX8_isBetter_22 rfl (lv_at hl 0 rfl) ?_
  refine gf_X8_199 cx hw dX8_isBetter_23 ?_
  refine lv_topl (fun y_7 _ => ?_)
  refine lv_aload_n hx hb dX8_isBetter_26 rfl (lv_at hl 0 rfl) ?_
  refine gf_X8_202 cx hw dX8_isBetter_27 ?_
  refine lv_topi (fun x_8 _ => ?_)
  refine goI hw (runVW (k := 36) (As := [.long y_5, .int x_6, .long y_7, .int x_8]) (rest := []) cx hw (k_X8_isNearer l D a cI cZ (up f 36 (upd (f 36) 30 r_1)) u_3 y_5 x_6 y_7 x_8  hi_4) lk_X8_205 rfl rfl ⟨Nat.le_of_ble_eq_true rfl, Nat.le_of_ble_eq_true rfl⟩ ⟨rfl, rfl⟩ ⟨Nat.zero_le _, Nat.zero_le _⟩ rfl rfl hl.1 (Nat.le_of_ble_eq_true rfl) dX8_isBetter_30) (fun r_9 f_9 u_9 H locs hp_9 hw => ?_)
  obtain ⟨rfl, rfl, ha_9⟩ := hp_9
  rcases ha_9 with er_9 | er_9
  · subst er_9
    exact retZ cx hw hr hk rfl dX8_isBetter_33 ⟨hi_4, (KK.um (by decide) (by decide) KK.rf), Or.inl rfl⟩
  · subst er_9
    exact retZ cx hw hr hk rfl dX8_isBetter_33 ⟨hi_4, (KK.um (by decide) (by decide) KK.rf), Or.inr rfl⟩

set_option maxHeartbeats 4000000 in
set_option maxRecDepth 100000 in
theorem k_X8_placeFor (l : Launch) (D : va_G) (a : Nat → Nat) (cI cZ : ClassId) (f : FF) (u : UU) (i : Nat) (ar : Int32) (hi : IV f) (h_i : i < 40) : KI l yX8_placeFor cX8_placeFor 10 (some .int) ({ frames := 4, cells := 0, slots := 0, locals := 82 } : Room) D a cI cZ [.ref (a 36), .int (nI i), .int ar] f u (fun r f2 u2 => IV f2 ∧ KK [36] f f2 ∧ ((r = (-1)) ∨ (∃ j, j < 32 ∧ r = nI j))) := by
  refine KX.of (by decide) (Nat.le_of_ble_eq_true rfl) ?_
  intro p e s m below meth c cx hw hr hk ls hl
  have cx : Cx p s m _ c cX8_placeFor RX8 10 D cI cZ := cx
  have hl : lv_has ls 10 [(0, .ref (a 36)), (1, .int (nI i)), (2, .int ar)] := hl
  have hx := cx.1.1
  have hb := cx.1.2.1
  refine lv_aload_n hx hb dX8_placeFor_0 rfl (lv_at hl 0 rfl) ?_
  refine goI hw (runVW (k := 36) (As := []) (rest := []) cx hw (k_X8_dryWeight l D a cI cZ f u   hi) lk_X8_153 rfl rfl ⟨Nat.le_of_ble_eq_true rfl, Nat.le_of_ble_eq_true rfl⟩ ⟨rfl, rfl⟩ ⟨Nat.zero_le _, Nat.zero_le _⟩ rfl rfl hl.1 (Nat.le_of_ble_eq_true rfl) dX8_placeFor_1) (fun r_1 f_1 u_1 H locs hp_1 hw => ?_)
  obtain ⟨rfl, rfl⟩ := hp_1
  refine lv_aload_n hx hb dX8_placeFor_4 rfl (lv_at hl 0 rfl) ?_
  refine gf_X8_40 cx hw dX8_placeFor_5 ?_
  refine lv_iload_n hx hb dX8_placeFor_8 rfl (lv_at hl 1 rfl) ?_
  refine aldN 44 i cx hw rfl (by omega) (by decide) dX8_placeFor_9 ?_
  refine lv_topi (fun x_2 _ => ?_)
  refine lv_iadd hx hb dX8_placeFor_10 ?_
  refine lv_topi (fun x_3 _ => ?_)
  refine lv_istore_n (lv' := [(3, .int x_3), (0, .ref (a 36)), (1, .int (nI i)), (2, .int ar)]) hx hb dX8_placeFor_11 rfl hl (by decide) rfl (fun ls hl => ?_)
  refine lv_aload_n hx hb dX8_placeFor_12 rfl (lv_at hl 1 rfl) ?_
  refine goL hw (runVW (k := 36) (As := []) (rest := []) cx hw (k_X8_dryMoment l D a cI cZ f u   hi) lk_X8_160 rfl rfl ⟨Nat.le_of_ble_eq_true rfl, Nat.le_of_ble_eq_true rfl⟩ ⟨rfl, rfl⟩ ⟨Nat.zero_le _, Nat.zero_le _⟩ rfl rfl hl.1 (Nat.le_of_ble_eq_true rfl) dX8_placeFor_13) (fun r_4 f_4 u_4 H locs hp_4 hw => ?_)
  obtain ⟨rfl, rfl⟩ := hp_4
  refine lv_lstore (lv' := [(4, .long r_4), (3, .int x_3), (0, .ref (a 36)), (1, .int (nI i)), (2, .int ar)]) hx hb dX8_placeFor_16 hl (by decide) rfl (fun ls hl => ?_)
  refine lv_iconst (v := (-1)) hx hb dX8_placeFor_18 (by decide) ?_
  refine lv_istore (lv' := [(6, .int (-1)), (4, .long r_4), (3, .int x_3), (0, .ref (a 36)), (1, .int (nI i)), (2, .int ar)]) hx hb dX8_placeFor_19 hl (by decide) rfl (fun ls hl => ?_)
  refine lv_lconst (v := 0) hx hb dX8_placeFor_21 (by decide) ?_
  refine lv_lstore (lv' := [(7, .long 0), (6, .int (-1)), (4, .long r_4), (3, .int x_3), (0, .ref (a 36)), (1, .int (nI i)), (2, .int ar)]) hx hb dX8_placeFor_22 hl (by decide) rfl (fun ls hl => ?_)
  refine lv_iconst (v := 0) hx hb dX8_placeFor_24 (by decide) ?_
  refine lv_istore (lv' := [(9, .int 0), (7, .long 0), (6, .int (-1)), (4, .long r_4), (3, .int x_3), (0, .ref (a 36)), (1, .int (nI i)), (2, .int ar)]) hx hb dX8_placeFor_25 hl (by decide) rfl (fun ls hl => ?_)
  have loop_5 : ∀ (k_5 : Nat) (v9_5 : Nat) (v7_5 : Int64) (v6_5 : Int32), okx 32 v6_5 → v9_5 ≤ 32 → 32 + 1 - v9_5 < k_5 → ∀ (f_5 : FF) (u_5 : UU), IV f_5 → KK [36] f f_5 → ∀ (H : Heap) (locs : List Loc) (ls : Array Slot), Wd D a cI cZ s f_5 u_5 H locs → lv_has ls 10 [(9, .int (nI v9_5)), (7, .long v7_5), (6, .int v6_5), (4, .long r_4), (3, .int x_3), (0, .ref (a 36)), (1, .int (nI i)), (2, .int ar)] → W p l e ({ frames := 4, cells := 0, slots := 0, locals := 82 } : Room) s m ([.ref (a 36), .int (nI i), .int ar] : List Value).toArray below meth c H locs 0 0 (MQ below (QI D a cI cZ (fun r f2 u2 => IV f2 ∧ KK [36] f f2 ∧ ((r = (-1)) ∨ (∃ j, j < 32 ∧ r = nI j)))) ([.ref (a 36), .int (nI i), .int ar] : List Value).toArray s 0 0 (AA a)) (F0 m 27 ls []) := by
    intro k_5
    induction k_5 with
    | zero => intros; omega
    | succ k_5 ih_5 =>
      intro v9_5 v7_5 v6_5 hx_v6_5 hb0_5  hm_5 f_5 u_5 hi_5 kk_5  H locs ls hw hl
      rcases hx_v6_5 with ex_6 | ⟨n_6, hn_6, ex_6⟩
      · subst ex_6
        refine lv_iload hx hb dX8_placeFor_27 (lv_at hl 0 rfl) ?_
        refine lv_bipush (v := 32) hx hb dX8_placeFor_29 (by decide) ?_
        refine lv_icmp_ge (tgt := 124) hx hb dX8_placeFor_31 (by decide) (fun c_7 => ?_) (fun c_7 => ?_)
        · have c_7 : 32 ≤ v9_5 := (nI_leI (a := 32) (b := v9_5) (by omega) (by omega)).mp c_7
          refine lv_iload hx hb dX8_placeFor_124 (lv_at hl 2 rfl) ?_
          exact retI cx hw hr hk dX8_placeFor_126 ⟨hi_5, kk_5, Or.inl rfl⟩
        · have c_7 : ¬ 32 ≤ v9_5 := fun z => c_7 ((nI_leI (a := 32) (b := v9_5) (by omega) (by omega)).mpr z)
          refine lv_aload_n hx hb dX8_placeFor_34 rfl (lv_at hl 5 rfl) ?_
          refine lv_iload hx hb dX8_placeFor_35 (lv_at hl 0 rfl) ?_
          refine lv_bipush (v := 8) hx hb dX8_placeFor_37 (by decide) ?_
          refine lv_idiv hx hb dX8_placeFor_39 (by decide) ?_
          refine topc (y := (nI (v9_5 / 8))) (pk_div (a := v9_5) (d := 8) (by omega) (by decide) (by decide)) ?_
          refine lv_iload hx hb dX8_placeFor_40 (lv_at hl 0 rfl) ?_
          refine lv_bipush (v := 8) hx hb dX8_placeFor_42 (by decide) ?_
          refine lv_irem hx hb dX8_placeFor_44 (by decide) ?_
          refine topc (y := (nI (v9_5 % 8))) (pk_rem (a := v9_5) (d := 8) (by omega) (by decide) (by decide)) ?_
          refine goI hw (runVW (k := 36) (As := [.int (nI (v9_5 / 8)), .int (nI (v9_5 % 8))]) (rest := []) cx hw (k_X8_isSlot l D a cI cZ f_5 u_5 (nI (v9_5 / 8)) (nI (v9_5 % 8))  hi_5) lk_X8_133 rfl rfl ⟨Nat.le_of_ble_eq_true rfl, Nat.le_of_ble_eq_true rfl⟩ ⟨rfl, rfl⟩ ⟨Nat.zero_le _, Nat.zero_le _⟩ rfl rfl hl.1 (Nat.le_of_ble_eq_true rfl) dX8_placeFor_45) (fun r_8 f_8 u_8 H locs hp_8 hw => ?_)
          obtain ⟨rfl, rfl, ha_8⟩ := hp_8
          rcases ha_8 with er_8 | ⟨er_8, b1_8_j, b1_8_k1, b1_8_c, b1_8_d, q1_8_0, q1_8_1, q1_8_2, q1_8_3, q1_8_4, q1_8_5, q1_8_6, q1_8_7⟩
          · subst er_8
            refine lv_if_eq (tgt := 118) hx hb dX8_placeFor_48 (by decide) (fun _ => ?_) (fun q => absurd (by decide) q)
            refine lv_iinc (v := (nI (v9_5 + 1))) (lv' := [(9, .int (nI (v9_5 + 1))), (7, .long v7_5), (6, .int (-1)), (4, .long r_4), (3, .int x_3), (0, .ref (a 36)), (1, .int (nI i)), (2, .int ar)]) hx hb dX8_placeFor_118 hl (k := 0) rfl (nI_add v9_5 1) (by decide) rfl (fun ls hl => ?_)
            refine lv_goto (tgt := 27) hx hb dX8_placeFor_121 (by decide) ?_
            exact ih_5 (v9_5 + 1) v7_5 (-1) (okx_m) (by omega) (by omega) f_5 u_5 hi_5 kk_5  _ _ _ hw (lv_sub hl [0, 1, 2, 3, 4, 5, 6, 7] rfl)
          · subst er_8
            have q1_8_6 := nI_inj (by omega) (by omega) q1_8_6
            subst q1_8_6
            have q1_8_7 := nI_inj (by omega) (by omega) q1_8_7
            subst q1_8_7
            refine lv_if_eq (tgt := 118) hx hb dX8_placeFor_48 (by decide) (fun q => absurd q (by decide)) (fun _ => ?_)
            refine lv_aload_n hx hb dX8_placeFor_51 rfl (lv_at hl 5 rfl) ?_
            refine lv_iload_n hx hb dX8_placeFor_52 rfl (lv_at hl 6 rfl) ?_
            refine lv_iload hx hb dX8_placeFor_53 (lv_at hl 0 rfl) ?_
            refine goI hw (runVW (k := 36) (As := [.int (nI i), .int (nI v9_5)]) (rest := []) cx hw (k_X8_fitsAt l D a cI cZ f_5 u_5 i v9_5  hi_5 (by omega) (by omega)) lk_X8_137 rfl rfl ⟨Nat.le_of_ble_eq_true rfl, Nat.le_of_ble_eq_true rfl⟩ ⟨rfl, rfl⟩ ⟨Nat.zero_le _, Nat.zero_le _⟩ rfl rfl hl.1 (Nat.le_of_ble_eq_true rfl) dX8_placeFor_55) (fun r_11 f_11 u_11 H locs hp_11 hw => ?_)
            obtain ⟨rfl, rfl⟩ := hp_11
            refine lv_if_eq (tgt := 64) hx hb dX8_placeFor_58 (by decide) (fun _ => ?_) (fun _ => ?_)
            · refine lv_aload_n hx hb dX8_placeFor_64 rfl (lv_at hl 5 rfl) ?_
              refine lv_iload_n hx hb dX8_placeFor_65 rfl (lv_at hl 7 rfl) ?_
              refine lv_iload_n hx hb dX8_placeFor_66 rfl (lv_at hl 4 rfl) ?_
              refine lv_lload hx hb dX8_placeFor_67 (lv_at hl 3 rfl) ?_
              refine lv_aload_n hx hb dX8_placeFor_69 rfl (lv_at hl 5 rfl) ?_
              refine gf_X8_40 cx hw dX8_placeFor_70 ?_
              refine lv_iload_n hx hb dX8_placeFor_73 rfl (lv_at hl 6 rfl) ?_
              refine aldN 44 i cx hw rfl (by omega) (by decide) dX8_placeFor_74 ?_
              refine lv_topi (fun x_13 _ => ?_)
              refine lv_i2l hx hb dX8_placeFor_75 rfl ?_
              refine lv_topl (fun y_14 _ => ?_)
              refine lv_aload_n hx hb dX8_placeFor_76 rfl (lv_at hl 5 rfl) ?_
              refine gf_X8_28 cx hw dX8_placeFor_77 ?_
              refine lv_iload hx hb dX8_placeFor_80 (lv_at hl 0 rfl) ?_
              refine aldN 40 v9_5 cx hw rfl (by omega) (by decide) dX8_placeFor_82 ?_
              refine lv_topi (fun x_15 _ => ?_)
              refine lv_i2l hx hb dX8_placeFor_83 rfl ?_
              refine lv_topl (fun y_16 _ => ?_)
              refine lv_lmul hx hb dX8_placeFor_84 ?_
              refine lv_topl (fun y_17 _ => ?_)
              refine lv_ladd hx hb dX8_placeFor_85 ?_
              refine lv_topl (fun y_18 _ => ?_)
              refine goV hw (runVW (k := 36) (As := [.int ar, .int x_3, .long y_18]) (rest := []) cx hw (k_X8_far l D a cI cZ f_5 u_5 ar x_3 y_18  hi_5) lk_X8_192 rfl rfl ⟨Nat.le_of_ble_eq_true rfl, Nat.le_of_ble_eq_true rfl⟩ ⟨rfl, rfl⟩ ⟨Nat.zero_le _, Nat.zero_le _⟩ rfl rfl hl.1 (Nat.le_of_ble_eq_true rfl) dX8_placeFor_86) (fun f_19 u_19 H locs hp_19 hw => ?_)
              have hi_20 : IV (up f_5 36 (upd (f_5 36) 30 x_3)) := IV.u_36_30 hi_5
              subst hp_19
              refine lv_iload hx hb dX8_placeFor_89 (lv_at hl 2 rfl) ?_
              refine lv_iconst (v := (-1)) hx hb dX8_placeFor_91 (by decide) ?_
              refine lv_icmp_eq (tgt := 108) hx hb dX8_placeFor_92 (by decide) (fun _ => ?_) (fun q => absurd (by decide) q)
              refine lv_iload hx hb dX8_placeFor_108 (lv_at hl 0 rfl) ?_
              refine lv_istore (lv' := [(6, .int (nI v9_5)), (9, .int (nI v9_5)), (7, .long v7_5), (4, .long r_4), (3, .int x_3), (0, .ref (a 36)), (1, .int (nI i)), (2, .int ar)]) hx hb dX8_placeFor_110 hl (by decide) rfl (fun ls hl => ?_)
              refine lv_aload_n hx hb dX8_placeFor_112 rfl (lv_at hl 5 rfl) ?_
              refine gf_X8_188 cx hw dX8_placeFor_113 ?_
              refine lv_topl (fun y_22 _ => ?_)
              refine lv_lstore (lv' := [(7, .long y_22), (6, .int (nI v9_5)), (9, .int (nI v9_5)), (4, .long r_4), (3, .int x_3), (0, .ref (a 36)), (1, .int (nI i)), (2, .int ar)]) hx hb dX8_placeFor_116 hl (by decide) rfl (fun ls hl => ?_)
              refine lv_iinc (v := (nI (v9_5 + 1))) (lv' := [(9, .int (nI (v9_5 + 1))), (7, .long y_22), (6, .int (nI v9_5)), (4, .long r_4), (3, .int x_3), (0, .ref (a 36)), (1, .int (nI i)), (2, .int ar)]) hx hb dX8_placeFor_118 hl (k := 2) rfl (nI_add v9_5 1) (by decide) rfl (fun ls hl => ?_)
              refine lv_goto (tgt := 27) hx hb dX8_placeFor_121 (by decide) ?_
              exact ih_5 (v9_5 + 1) y_22 (nI v9_5) ((okx_n (j := v9_5) (by omega))) (by omega) (by omega) (up f_5 36 (upd (f_5 36) 30 x_3)) u_19 hi_20 (KK.um (by decide) (by decide) kk_5)  _ _ _ hw (lv_sub hl [0, 1, 2, 3, 4, 5, 6, 7] rfl)
            · refine lv_goto (tgt := 118) hx hb dX8_placeFor_61 (by decide) ?_
              refine lv_iinc (v := (nI (v9_5 + 1))) (lv' := [(9, .int (nI (v9_5 + 1))), (7, .long v7_5), (6, .int (-1)), (4, .long r_4), (3, .int x_3), (0, .ref (a 36)), (1, .int (nI i)), (2, .int ar)]) hx hb dX8_placeFor_118 hl (k := 0) rfl (nI_add v9_5 1) (by decide) rfl (fun ls hl => ?_)
              refine lv_goto (tgt := 27) hx hb dX8_placeFor_121 (by decide) ?_
              exact ih_5 (v9_5 + 1) v7_5 (-1) (okx_m) (by omega) (by omega) f_5 u_5 hi_5 kk_5  _ _ _ hw (lv_sub hl [0, 1, 2, 3, 4, 5, 6, 7] rfl)
      · subst ex_6
        refine lv_iload hx hb dX8_placeFor_27 (lv_at hl 0 rfl) ?_
        refine lv_bipush (v := 32) hx hb dX8_placeFor_29 (by decide) ?_
        refine lv_icmp_ge (tgt := 124) hx hb dX8_placeFor_31 (by decide) (fun c_23 => ?_) (fun c_23 => ?_)
        · have c_23 : 32 ≤ v9_5 := (nI_leI (a := 32) (b := v9_5) (by omega) (by omega)).mp c_23
          refine lv_iload hx hb dX8_placeFor_124 (lv_at hl 2 rfl) ?_
          exact retI cx hw hr hk dX8_placeFor_126 ⟨hi_5, kk_5, Or.inr ⟨n_6, by omega, rfl⟩⟩
        · have c_23 : ¬ 32 ≤ v9_5 := fun z => c_23 ((nI_leI (a := 32) (b := v9_5) (by omega) (by omega)).mpr z)
          refine lv_aload_n hx hb dX8_placeFor_34 rfl (lv_at hl 5 rfl) ?_
          refine lv_iload hx hb dX8_placeFor_35 (lv_at hl 0 rfl) ?_
          refine lv_bipush (v := 8) hx hb dX8_placeFor_37 (by decide) ?_
          refine lv_idiv hx hb dX8_placeFor_39 (by decide) ?_
          refine topc (y := (nI (v9_5 / 8))) (pk_div (a := v9_5) (d := 8) (by omega) (by decide) (by decide)) ?_
          refine lv_iload hx hb dX8_placeFor_40 (lv_at hl 0 rfl) ?_
          refine lv_bipush (v := 8) hx hb dX8_placeFor_42 (by decide) ?_
          refine lv_irem hx hb dX8_placeFor_44 (by decide) ?_
          refine topc (y := (nI (v9_5 % 8))) (pk_rem (a := v9_5) (d := 8) (by omega) (by decide) (by decide)) ?_
          refine goI hw (runVW (k := 36) (As := [.int (nI (v9_5 / 8)), .int (nI (v9_5 % 8))]) (rest := []) cx hw (k_X8_isSlot l D a cI cZ f_5 u_5 (nI (v9_5 / 8)) (nI (v9_5 % 8))  hi_5) lk_X8_133 rfl rfl ⟨Nat.le_of_ble_eq_true rfl, Nat.le_of_ble_eq_true rfl⟩ ⟨rfl, rfl⟩ ⟨Nat.zero_le _, Nat.zero_le _⟩ rfl rfl hl.1 (Nat.le_of_ble_eq_true rfl) dX8_placeFor_45) (fun r_24 f_24 u_24 H locs hp_24 hw => ?_)
          obtain ⟨rfl, rfl, ha_24⟩ := hp_24
          rcases ha_24 with er_24 | ⟨er_24, b1_24_j, b1_24_k1, b1_24_c, b1_24_d, q1_24_0, q1_24_1, q1_24_2, q1_24_3, q1_24_4, q1_24_5, q1_24_6, q1_24_7⟩
          · subst er_24
            refine lv_if_eq (tgt := 118) hx hb dX8_placeFor_48 (by decide) (fun _ => ?_) (fun q => absurd (by decide) q)
            refine lv_iinc (v := (nI (v9_5 + 1))) (lv' := [(9, .int (nI (v9_5 + 1))), (7, .long v7_5), (6, .int (nI n_6)), (4, .long r_4), (3, .int x_3), (0, .ref (a 36)), (1, .int (nI i)), (2, .int ar)]) hx hb dX8_placeFor_118 hl (k := 0) rfl (nI_add v9_5 1) (by decide) rfl (fun ls hl => ?_)
            refine lv_goto (tgt := 27) hx hb dX8_placeFor_121 (by decide) ?_
            exact ih_5 (v9_5 + 1) v7_5 (nI n_6) ((okx_n (j := n_6) (by omega))) (by omega) (by omega) f_5 u_5 hi_5 kk_5  _ _ _ hw (lv_sub hl [0, 1, 2, 3, 4, 5, 6, 7] rfl)
          · subst er_24
            have q1_24_6 := nI_inj (by omega) (by omega) q1_24_6
            subst q1_24_6
            have q1_24_7 := nI_inj (by omega) (by omega) q1_24_7
            subst q1_24_7
            refine lv_if_eq (tgt := 118) hx hb dX8_placeFor_48 (by decide) (fun q => absurd q (by decide)) (fun _ => ?_)
            refine lv_aload_n hx hb dX8_placeFor_51 rfl (lv_at hl 5 rfl) ?_
            refine lv_iload_n hx hb dX8_placeFor_52 rfl (lv_at hl 6 rfl) ?_
            refine lv_iload hx hb dX8_placeFor_53 (lv_at hl 0 rfl) ?_
            refine goI hw (runVW (k := 36) (As := [.int (nI i), .int (nI v9_5)]) (rest := []) cx hw (k_X8_fitsAt l D a cI cZ f_5 u_5 i v9_5  hi_5 (by omega) (by omega)) lk_X8_137 rfl rfl ⟨Nat.le_of_ble_eq_true rfl, Nat.le_of_ble_eq_true rfl⟩ ⟨rfl, rfl⟩ ⟨Nat.zero_le _, Nat.zero_le _⟩ rfl rfl hl.1 (Nat.le_of_ble_eq_true rfl) dX8_placeFor_55) (fun r_27 f_27 u_27 H locs hp_27 hw => ?_)
            obtain ⟨rfl, rfl⟩ := hp_27
            refine lv_if_eq (tgt := 64) hx hb dX8_placeFor_58 (by decide) (fun _ => ?_) (fun _ => ?_)
            · refine lv_aload_n hx hb dX8_placeFor_64 rfl (lv_at hl 5 rfl) ?_
              refine lv_iload_n hx hb dX8_placeFor_65 rfl (lv_at hl 7 rfl) ?_
              refine lv_iload_n hx hb dX8_placeFor_66 rfl (lv_at hl 4 rfl) ?_
              refine lv_lload hx hb dX8_placeFor_67 (lv_at hl 3 rfl) ?_
              refine lv_aload_n hx hb dX8_placeFor_69 rfl (lv_at hl 5 rfl) ?_
              refine gf_X8_40 cx hw dX8_placeFor_70 ?_
              refine lv_iload_n hx hb dX8_placeFor_73 rfl (lv_at hl 6 rfl) ?_
              refine aldN 44 i cx hw rfl (by omega) (by decide) dX8_placeFor_74 ?_
              refine lv_topi (fun x_29 _ => ?_)
              refine lv_i2l hx hb dX8_placeFor_75 rfl ?_
              refine lv_topl (fun y_30 _ => ?_)
              refine lv_aload_n hx hb dX8_placeFor_76 rfl (lv_at hl 5 rfl) ?_
              refine gf_X8_28 cx hw dX8_placeFor_77 ?_
              refine lv_iload hx hb dX8_placeFor_80 (lv_at hl 0 rfl) ?_
              refine aldN 40 v9_5 cx hw rfl (by omega) (by decide) dX8_placeFor_82 ?_
              refine lv_topi (fun x_31 _ => ?_)
              refine lv_i2l hx hb dX8_placeFor_83 rfl ?_
              refine lv_topl (fun y_32 _ => ?_)
              refine lv_lmul hx hb dX8_placeFor_84 ?_
              refine lv_topl (fun y_33 _ => ?_)
              refine lv_ladd hx hb dX8_placeFor_85 ?_
              refine lv_topl (fun y_34 _ => ?_)
              refine goV hw (runVW (k := 36) (As := [.int ar, .int x_3, .long y_34]) (rest := []) cx hw (k_X8_far l D a cI cZ f_5 u_5 ar x_3 y_34  hi_5) lk_X8_192 rfl rfl ⟨Nat.le_of_ble_eq_true rfl, Nat.le_of_ble_eq_true rfl⟩ ⟨rfl, rfl⟩ ⟨Nat.zero_le _, Nat.zero_le _⟩ rfl rfl hl.1 (Nat.le_of_ble_eq_true rfl) dX8_placeFor_86) (fun f_35 u_35 H locs hp_35 hw => ?_)
              have hi_36 : IV (up f_5 36 (upd (f_5 36) 30 x_3)) := IV.u_36_30 hi_5
              subst hp_35
              refine lv_iload hx hb dX8_placeFor_89 (lv_at hl 2 rfl) ?_
              refine lv_iconst (v := (-1)) hx hb dX8_placeFor_91 (by decide) ?_
              refine lv_icmp_eq (tgt := 108) hx hb dX8_placeFor_92 (by decide) (fun q => absurd q (nI_m1 (by omega))) (fun _ => ?_)
              refine lv_aload_n hx hb dX8_placeFor_95 rfl (lv_at hl 5 rfl) ?_
              refine gf_X8_188 cx hw dX8_placeFor_96 ?_
              refine lv_topl (fun y_38 _ => ?_)
              refine lv_lload hx hb dX8_placeFor_99 (lv_at hl 1 rfl) ?_
              refine W.lcmp hx hb dX8_placeFor_101 ?_
              refine lv_topi (fun x_39 _ => ?_)
              refine lv_if_lt (tgt := 108) hx hb dX8_placeFor_102 (by decide) (fun c_40 => ?_) (fun c_40 => ?_)
              · refine lv_iload hx hb dX8_placeFor_108 (lv_at hl 0 rfl) ?_
                refine lv_istore (lv' := [(6, .int (nI v9_5)), (9, .int (nI v9_5)), (7, .long v7_5), (4, .long r_4), (3, .int x_3), (0, .ref (a 36)), (1, .int (nI i)), (2, .int ar)]) hx hb dX8_placeFor_110 hl (by decide) rfl (fun ls hl => ?_)
                refine lv_aload_n hx hb dX8_placeFor_112 rfl (lv_at hl 5 rfl) ?_
                refine gf_X8_188 cx hw dX8_placeFor_113 ?_
                refine lv_topl (fun y_41 _ => ?_)
                refine lv_lstore (lv' := [(7, .long y_41), (6, .int (nI v9_5)), (9, .int (nI v9_5)), (4, .long r_4), (3, .int x_3), (0, .ref (a 36)), (1, .int (nI i)), (2, .int ar)]) hx hb dX8_placeFor_116 hl (by decide) rfl (fun ls hl => ?_)
                refine lv_iinc (v := (nI (v9_5 + 1))) (lv' := [(9, .int (nI (v9_5 + 1))), (7, .long y_41), (6, .int (nI v9_5)), (4, .long r_4), (3, .int x_3), (0, .ref (a 36)), (1, .int (nI i)), (2, .int ar)]) hx hb dX8_placeFor_118 hl (k := 2) rfl (nI_add v9_5 1) (by decide) rfl (fun ls hl => ?_)
                refine lv_goto (tgt := 27) hx hb dX8_placeFor_121 (by decide) ?_
                exact ih_5 (v9_5 + 1) y_41 (nI v9_5) ((okx_n (j := v9_5) (by omega))) (by omega) (by omega) (up f_5 36 (upd (f_5 36) 30 x_3)) u_35 hi_36 (KK.um (by decide) (by decide) kk_5)  _ _ _ hw (lv_sub hl [0, 1, 2, 3, 4, 5, 6, 7] rfl)
              · refine lv_goto (tgt := 118) hx hb dX8_placeFor_105 (by decide) ?_
                refine lv_iinc (v := (nI (v9_5 + 1))) (lv' := [(9, .int (nI (v9_5 + 1))), (7, .long v7_5), (6, .int (nI n_6)), (4, .long r_4), (3, .int x_3), (0, .ref (a 36)), (1, .int (nI i)), (2, .int ar)]) hx hb dX8_placeFor_118 hl (k := 0) rfl (nI_add v9_5 1) (by decide) rfl (fun ls hl => ?_)
                refine lv_goto (tgt := 27) hx hb dX8_placeFor_121 (by decide) ?_
                exact ih_5 (v9_5 + 1) v7_5 (nI n_6) ((okx_n (j := n_6) (by omega))) (by omega) (by omega) (up f_5 36 (upd (f_5 36) 30 x_3)) u_35 hi_36 (KK.um (by decide) (by decide) kk_5)  _ _ _ hw (lv_sub hl [0, 1, 2, 3, 4, 5, 6, 7] rfl)
            · refine lv_goto (tgt := 118) hx hb dX8_placeFor_61 (by decide) ?_
              refine lv_iinc (v := (nI (v9_5 + 1))) (lv' := [(9, .int (nI (v9_5 + 1))), (7, .long v7_5), (6, .int (nI n_6)), (4, .long r_4), (3, .int x_3), (0, .ref (a 36)), (1, .int (nI i)), (2, .int ar)]) hx hb dX8_placeFor_118 hl (k := 0) rfl (nI_add v9_5 1) (by decide) rfl (fun ls hl => ?_)
              refine lv_goto (tgt := 27) hx hb dX8_placeFor_121 (by decide) ?_
              exact ih_5 (v9_5 + 1) v7_5 (nI n_6) ((okx_n (j := n_6) (by omega))) (by omega) (by omega) f_5 u_5 hi_5 kk_5  _ _ _ hw (lv_sub hl [0, 1, 2, 3, 4, 5, 6, 7] rfl)
  exact loop_5 _ 0 0 (-1) (okx_m) (by omega)  (Nat.lt_succ_self _) f u hi KK.rf  _ _ _ hw (lv_sub hl [0, 1, 2, 3, 4, 5, 6, 7] rfl)

set_option maxHeartbeats 4000000 in
set_option maxRecDepth 100000 in
theorem k_X8_loadAll (l : Launch) (D : va_G) (a : Nat → Nat) (cI cZ : ClassId) (f : FF) (u : UU) (ar : Int32) (hi : IV f)  : KI l yX8_loadAll cX8_loadAll 6 (some .int) ({ frames := 5, cells := 0, slots := 0, locals := 111 } : Room) D a cI cZ [.ref (a 36), .int ar] f u (fun r f2 u2 => IV f2 ∧ KK [36, 42, 47, 58] f f2) := by
  refine KX.of (by decide) (Nat.le_of_ble_eq_true rfl) ?_
  intro p e s m below meth c cx hw hr hk ls hl
  have cx : Cx p s m _ c cX8_loadAll RX8 6 D cI cZ := cx
  have hl : lv_has ls 6 [(0, .ref (a 36)), (1, .int ar)] := hl
  have hx := cx.1.1
  have hb := cx.1.2.1
  refine lv_iload_n hx hb dX8_loadAll_0 rfl (lv_at hl 1 rfl) ?_
  refine goI hw (runSW (As := [.int ar]) (rest := []) cx hw (c_X8_isArm l D a cI cZ f u ar  ) lk_X8_110 ⟨Nat.le_of_ble_eq_true rfl, Nat.le_of_ble_eq_true rfl⟩ ⟨rfl, rfl⟩ ⟨Nat.zero_le _, Nat.zero_le _⟩ rfl rfl hl.1 (Nat.le_of_ble_eq_true rfl) dX8_loadAll_1) (fun r_1 f_1 u_1 H locs hp_1 hw => ?_)
  obtain ⟨rfl, rfl, e_1⟩ := hp_1
  refine topc e_1 ?_
  refine lv_if_ne (tgt := 10) hx hb dX8_loadAll_4 (by decide) (fun c_2 => ?_) (fun c_2 => ?_)
  · obtain ⟨t_2, ht_2, et_2⟩ := rg_nat (n := 5000) rfl c_2
    subst et_2
    refine lv_iconst (v := 0) hx hb dX8_loadAll_10 (by decide) ?_
    refine lv_istore_n (lv' := [(2, .int 0), (0, .ref (a 36)), (1, .int (nI t_2))]) hx hb dX8_loadAll_11 rfl hl (by decide) rfl (fun ls hl => ?_)
    refine lv_iconst (v := 0) hx hb dX8_loadAll_12 (by decide) ?_
    refine lv_istore_n (lv' := [(3, .int 0), (2, .int 0), (0, .ref (a 36)), (1, .int (nI t_2))]) hx hb dX8_loadAll_13 rfl hl (by decide) rfl (fun ls hl => ?_)
    have loop_3 : ∀ (k_3 : Nat) (v3_3 : Nat), v3_3 ≤ 40 → 40 + 1 - v3_3 < k_3 → ∀ (f_3 : FF) (u_3 : UU), IV f_3 → KK [36, 42, 47, 58] f f_3 → ∀ (H : Heap) (locs : List Loc) (ls : Array Slot), Wd D a cI cZ s f_3 u_3 H locs → lv_has ls 6 [(3, .int (nI v3_3)), (2, .int 0), (0, .ref (a 36)), (1, .int (nI t_2))] → W p l e ({ frames := 5, cells := 0, slots := 0, locals := 111 } : Room) s m ([.ref (a 36), .int (nI t_2)] : List Value).toArray below meth c H locs 0 0 (MQ below (QI D a cI cZ (fun r f2 u2 => IV f2 ∧ KK [36, 42, 47, 58] f f2)) ([.ref (a 36), .int (nI t_2)] : List Value).toArray s 0 0 (AA a)) (F0 m 14 ls []) := by
      intro k_3
      induction k_3 with
      | zero => intros; omega
      | succ k_3 ih_3 =>
        intro v3_3  hb0_3  hm_3 f_3 u_3 hi_3 kk_3  H locs ls hw hl
        refine lv_iload_n hx hb dX8_loadAll_14 rfl (lv_at hl 0 rfl) ?_
        refine lv_aload_n hx hb dX8_loadAll_15 rfl (lv_at hl 2 rfl) ?_
        refine gf_X8_106 cx hw dX8_loadAll_16 ?_
        obtain ⟨n_4, hn_4, en_4⟩ := IV.s_36_11 hi_3
        refine topc (y := (nI n_4)) en_4 ?_
        refine lv_icmp_ge (tgt := 49) hx hb dX8_loadAll_19 (by decide) (fun c_5 => ?_) (fun c_5 => ?_)
        · have c_5 : n_4 ≤ v3_3 := (nI_leI (a := n_4) (b := v3_3) (by omega) (by omega)).mp c_5
          refine lv_iconst (v := 0) hx hb dX8_loadAll_49 (by decide) ?_
          refine lv_istore_n (lv' := [(3, .int 0), (2, .int 0), (0, .ref (a 36)), (1, .int (nI t_2))]) hx hb dX8_loadAll_50 rfl hl (by decide) rfl (fun ls hl => ?_)
          have loop_6 : ∀ (k_6 : Nat) (v3_6 : Nat) (v2_6 : Int32), v3_6 ≤ 40 → 40 + 1 - v3_6 < k_6 → ∀ (f_6 : FF) (u_6 : UU), IV f_6 → KK [36, 42, 47, 58] f f_6 → ∀ (H : Heap) (locs : List Loc) (ls : Array Slot), Wd D a cI cZ s f_6 u_6 H locs → lv_has ls 6 [(3, .int (nI v3_6)), (2, .int v2_6), (0, .ref (a 36)), (1, .int (nI t_2))] → W p l e ({ frames := 5, cells := 0, slots := 0, locals := 111 } : Room) s m ([.ref (a 36), .int (nI t_2)] : List Value).toArray below meth c H locs 0 0 (MQ below (QI D a cI cZ (fun r f2 u2 => IV f2 ∧ KK [36, 42, 47, 58] f f2)) ([.ref (a 36), .int (nI t_2)] : List Value).toArray s 0 0 (AA a)) (F0 m 51 ls []) := by
            intro k_6
            induction k_6 with
            | zero => intros; omega
            | succ k_6 ih_6 =>
              intro v3_6 v2_6  hb0_6  hm_6 f_6 u_6 hi_6 kk_6  H locs ls hw hl
              refine lv_iload_n hx hb dX8_loadAll_51 rfl (lv_at hl 0 rfl) ?_
              refine lv_aload_n hx hb dX8_loadAll_52 rfl (lv_at hl 2 rfl) ?_
              refine gf_X8_106 cx hw dX8_loadAll_53 ?_
              obtain ⟨n_7, hn_7, en_7⟩ := IV.s_36_11 hi_6
              refine topc (y := (nI n_7)) en_7 ?_
              refine lv_icmp_ge (tgt := 168) hx hb dX8_loadAll_56 (by decide) (fun c_8 => ?_) (fun c_8 => ?_)
              · have c_8 : n_7 ≤ v3_6 := (nI_leI (a := n_7) (b := v3_6) (by omega) (by omega)).mp c_8
                refine lv_iload_n hx hb dX8_loadAll_168 rfl (lv_at hl 1 rfl) ?_
                exact retI cx hw hr hk dX8_loadAll_169 ⟨hi_6, kk_6⟩
              · have c_8 : ¬ n_7 ≤ v3_6 := fun z => c_8 ((nI_leI (a := n_7) (b := v3_6) (by omega) (by omega)).mpr z)
                refine lv_iconst (v := (-1)) hx hb dX8_loadAll_59 (by decide) ?_
                refine lv_istore (lv' := [(4, .int (-1)), (3, .int (nI v3_6)), (2, .int v2_6), (0, .ref (a 36)), (1, .int (nI t_2))]) hx hb dX8_loadAll_60 hl (by decide) rfl (fun ls hl => ?_)
                refine lv_iconst (v := 0) hx hb dX8_loadAll_62 (by decide) ?_
                refine lv_istore (lv' := [(5, .int 0), (4, .int (-1)), (3, .int (nI v3_6)), (2, .int v2_6), (0, .ref (a 36)), (1, .int (nI t_2))]) hx hb dX8_loadAll_63 hl (by decide) rfl (fun ls hl => ?_)
                have loop_9 : ∀ (k_9 : Nat) (v5_9 : Nat) (v4_9 : Int32), okx 40 v4_9 → v5_9 ≤ 40 → 40 + 1 - v5_9 < k_9 → ∀ (H : Heap) (locs : List Loc) (ls : Array Slot), Wd D a cI cZ s f_6 u_6 H locs → lv_has ls 6 [(5, .int (nI v5_9)), (4, .int v4_9), (3, .int (nI v3_6)), (2, .int v2_6), (0, .ref (a 36)), (1, .int (nI t_2))] → W p l e ({ frames := 5, cells := 0, slots := 0, locals := 111 } : Room) s m ([.ref (a 36), .int (nI t_2)] : List Value).toArray below meth c H locs 0 0 (MQ below (QI D a cI cZ (fun r f2 u2 => IV f2 ∧ KK [36, 42, 47, 58] f f2)) ([.ref (a 36), .int (nI t_2)] : List Value).toArray s 0 0 (AA a)) (F0 m 65 ls []) := by
                  intro k_9
                  induction k_9 with
                  | zero => intros; omega
                  | succ k_9 ih_9 =>
                    intro v5_9 v4_9 hx_v4_9 hb0_9  hm_9  H locs ls hw hl
                    rcases hx_v4_9 with ex_10 | ⟨n_10, hn_10, ex_10⟩
                    · subst ex_10
                      refine lv_iload hx hb dX8_loadAll_65 (lv_at hl 0 rfl) ?_
                      refine lv_aload_n hx hb dX8_loadAll_67 rfl (lv_at hl 4 rfl) ?_
                      refine gf_X8_106 cx hw dX8_loadAll_68 ?_
                      refine topc (y := (nI n_7)) en_7 ?_
                      refine lv_icmp_ge (tgt := 117) hx hb dX8_loadAll_71 (by decide) (fun c_11 => ?_) (fun c_11 => ?_)
                      · have c_11 : n_7 ≤ v5_9 := (nI_leI (a := n_7) (b := v5_9) (by omega) (by omega)).mp c_11
                        refine lv_iload hx hb dX8_loadAll_117 (lv_at hl 1 rfl) ?_
                        refine lv_iconst (v := (-1)) hx hb dX8_loadAll_119 (by decide) ?_
                        refine lv_icmp_ne (tgt := 125) hx hb dX8_loadAll_120 (by decide) (fun q => absurd (by decide) q) (fun _ => ?_)
                        refine lv_iload_n hx hb dX8_loadAll_123 rfl (lv_at hl 3 rfl) ?_
                        exact retI cx hw hr hk dX8_loadAll_124 ⟨hi_6, kk_6⟩
                      · have c_11 : ¬ n_7 ≤ v5_9 := fun z => c_11 ((nI_leI (a := n_7) (b := v5_9) (by omega) (by omega)).mpr z)
                        refine lv_aload_n hx hb dX8_loadAll_74 rfl (lv_at hl 4 rfl) ?_
                        refine gf_X8_85 cx hw dX8_loadAll_75 ?_
                        refine lv_iload hx hb dX8_loadAll_78 (lv_at hl 0 rfl) ?_
                        refine zldN 58 v5_9 cx hw rfl (by omega) (by decide) dX8_loadAll_80 ?_
                        refine lv_topi (fun x_13 _ => ?_)
                        refine lv_if_ne (tgt := 111) hx hb dX8_loadAll_81 (by decide) (fun _ => ?_) (fun _ => ?_)
                        · refine lv_iinc (v := (nI (v5_9 + 1))) (lv' := [(5, .int (nI (v5_9 + 1))), (4, .int (-1)), (3, .int (nI v3_6)), (2, .int v2_6), (0, .ref (a 36)), (1, .int (nI t_2))]) hx hb dX8_loadAll_111 hl (k := 0) rfl (nI_add v5_9 1) (by decide) rfl (fun ls hl => ?_)
                          refine lv_goto (tgt := 65) hx hb dX8_loadAll_114 (by decide) ?_
                          exact ih_9 (v5_9 + 1) (-1) (okx_m) (by omega) (by omega) _ _ _ hw (lv_sub hl [0, 1, 2, 3, 4, 5] rfl)
                        · refine lv_iload hx hb dX8_loadAll_84 (lv_at hl 1 rfl) ?_
                          refine lv_iconst (v := (-1)) hx hb dX8_loadAll_86 (by decide) ?_
                          refine lv_icmp_eq (tgt := 107) hx hb dX8_loadAll_87 (by decide) (fun _ => ?_) (fun q => absurd (by decide) q)
                          refine lv_iload hx hb dX8_loadAll_107 (lv_at hl 0 rfl) ?_
                          refine lv_istore (lv' := [(4, .int (nI v5_9)), (5, .int (nI v5_9)), (3, .int (nI v3_6)), (2, .int v2_6), (0, .ref (a 36)), (1, .int (nI t_2))]) hx hb dX8_loadAll_109 hl (by decide) rfl (fun ls hl => ?_)
                          refine lv_iinc (v := (nI (v5_9 + 1))) (lv' := [(5, .int (nI (v5_9 + 1))), (4, .int (nI v5_9)), (3, .int (nI v3_6)), (2, .int v2_6), (0, .ref (a 36)), (1, .int (nI t_2))]) hx hb dX8_loadAll_111 hl (k := 1) rfl (nI_add v5_9 1) (by decide) rfl (fun ls hl => ?_)
                          refine lv_goto (tgt := 65) hx hb dX8_loadAll_114 (by decide) ?_
                          exact ih_9 (v5_9 + 1) (nI v5_9) ((okx_n (j := v5_9) (by omega))) (by omega) (by omega) _ _ _ hw (lv_sub hl [0, 1, 2, 3, 4, 5] rfl)
                    · subst ex_10
                      refine lv_iload hx hb dX8_loadAll_65 (lv_at hl 0 rfl) ?_
                      refine lv_aload_n hx hb dX8_loadAll_67 rfl (lv_at hl 4 rfl) ?_
                      refine gf_X8_106 cx hw dX8_loadAll_68 ?_
                      refine topc (y := (nI n_7)) en_7 ?_
                      refine lv_icmp_ge (tgt := 117) hx hb dX8_loadAll_71 (by decide) (fun c_16 => ?_) (fun c_16 => ?_)
                      · have c_16 : n_7 ≤ v5_9 := (nI_leI (a := n_7) (b := v5_9) (by omega) (by omega)).mp c_16
                        refine lv_iload hx hb dX8_loadAll_117 (lv_at hl 1 rfl) ?_
                        refine lv_iconst (v := (-1)) hx hb dX8_loadAll_119 (by decide) ?_
                        refine lv_icmp_ne (tgt := 125) hx hb dX8_loadAll_120 (by decide) (fun _ => ?_) (fun q => absurd q (nI_m1 (by omega)))
                        refine lv_aload_n hx hb dX8_loadAll_125 rfl (lv_at hl 4 rfl) ?_
                        refine gf_X8_85 cx hw dX8_loadAll_126 ?_
                        refine lv_iload hx hb dX8_loadAll_129 (lv_at hl 1 rfl) ?_
                        refine lv_iconst (v := 1) hx hb dX8_loadAll_131 (by decide) ?_
                        refine zstN 58 n_10 cx hw rfl ws_58 (by omega) (by decide) dX8_loadAll_132 (fun H locs hw => ?_)
                        have hi_18 : IV (up f_6 58 (upd (f_6 58) n_10 (vp_nar .boolean 1))) := IV.wr hi_6 58 trivial
                        refine lv_aload_n hx hb dX8_loadAll_133 rfl (lv_at hl 4 rfl) ?_
                        refine lv_iload hx hb dX8_loadAll_134 (lv_at hl 1 rfl) ?_
                        refine lv_iload_n hx hb dX8_loadAll_136 rfl (lv_at hl 5 rfl) ?_
                        refine goI hw (runVW (k := 36) (As := [.int (nI n_10), .int (nI t_2)]) (rest := []) cx hw (k_X8_placeFor l D a cI cZ (up f_6 58 (upd (f_6 58) n_10 (vp_nar .boolean 1))) u_6 n_10 (nI t_2)  hi_18 (by omega)) lk_X8_196 rfl rfl ⟨Nat.le_of_ble_eq_true rfl, Nat.le_of_ble_eq_true rfl⟩ ⟨rfl, rfl⟩ ⟨Nat.zero_le _, Nat.zero_le _⟩ rfl rfl hl.1 (Nat.le_of_ble_eq_true rfl) dX8_loadAll_137) (fun r_19 f_19 u_19 H locs hp_19 hw => ?_)
                        obtain ⟨hi_19, kk_19, ha_19⟩ := hp_19
                        rcases ha_19 with er_19 | ⟨b1_19_j, q1_19_0, q1_19_1⟩
                        · subst er_19
                          refine lv_istore (lv' := [(5, .int (-1)), (4, .int (nI n_10)), (3, .int (nI v3_6)), (2, .int v2_6), (0, .ref (a 36)), (1, .int (nI t_2))]) hx hb dX8_loadAll_140 hl (by decide) rfl (fun ls hl => ?_)
                          refine lv_iload hx hb dX8_loadAll_142 (lv_at hl 0 rfl) ?_
                          refine lv_iconst (v := (-1)) hx hb dX8_loadAll_144 (by decide) ?_
                          refine lv_icmp_ne (tgt := 151) hx hb dX8_loadAll_145 (by decide) (fun q => absurd (by decide) q) (fun _ => ?_)
                          refine lv_goto (tgt := 162) hx hb dX8_loadAll_148 (by decide) ?_
                          refine lv_iinc (v := (nI (v3_6 + 1))) (lv' := [(3, .int (nI (v3_6 + 1))), (5, .int (-1)), (4, .int (nI n_10)), (2, .int v2_6), (0, .ref (a 36)), (1, .int (nI t_2))]) hx hb dX8_loadAll_162 hl (k := 2) rfl (nI_add v3_6 1) (by decide) rfl (fun ls hl => ?_)
                          refine lv_goto (tgt := 51) hx hb dX8_loadAll_165 (by decide) ?_
                          exact ih_6 (v3_6 + 1) v2_6  (by omega) (by omega) f_19 u_19 hi_19 (KK.tr (KK.wr (by decide) (by decide) kk_6) (kk_19.mono (by decide)))  _ _ _ hw (lv_sub hl [0, 3, 4, 5] rfl)
                        · subst q1_19_1
                          refine lv_istore (lv' := [(5, .int (nI b1_19_j)), (4, .int (nI n_10)), (3, .int (nI v3_6)), (2, .int v2_6), (0, .ref (a 36)), (1, .int (nI t_2))]) hx hb dX8_loadAll_140 hl (by decide) rfl (fun ls hl => ?_)
                          refine lv_iload hx hb dX8_loadAll_142 (lv_at hl 0 rfl) ?_
                          refine lv_iconst (v := (-1)) hx hb dX8_loadAll_144 (by decide) ?_
                          refine lv_icmp_ne (tgt := 151) hx hb dX8_loadAll_145 (by decide) (fun _ => ?_) (fun q => absurd q (nI_m1 (by omega)))
                          refine lv_aload_n hx hb dX8_loadAll_151 rfl (lv_at hl 4 rfl) ?_
                          refine lv_iload hx hb dX8_loadAll_152 (lv_at hl 1 rfl) ?_
                          refine lv_iload hx hb dX8_loadAll_154 (lv_at hl 0 rfl) ?_
                          refine goV hw (runVW (k := 36) (As := [.int (nI n_10), .int (nI b1_19_j)]) (rest := []) cx hw (k_X8_put l D a cI cZ f_19 u_19 n_10 b1_19_j  hi_19 (by omega) (by omega)) lk_X8_145 rfl rfl ⟨Nat.le_of_ble_eq_true rfl, Nat.le_of_ble_eq_true rfl⟩ ⟨rfl, rfl⟩ ⟨Nat.zero_le _, Nat.zero_le _⟩ rfl rfl hl.1 (Nat.le_of_ble_eq_true rfl) dX8_loadAll_156) (fun f_22 u_22 H locs hp_22 hw => ?_)
                          have hi_23 : IV (putM f_19 n_10 b1_19_j) := IV.wputM hi_19 (by omega) (by omega)
                          obtain ⟨rfl, rfl⟩ := hp_22
                          refine lv_iinc (v := (v2_6 + 1)) (lv' := [(2, .int (v2_6 + 1)), (5, .int (nI b1_19_j)), (4, .int (nI n_10)), (3, .int (nI v3_6)), (0, .ref (a 36)), (1, .int (nI t_2))]) hx hb dX8_loadAll_159 hl (k := 3) rfl rfl (by decide) rfl (fun ls hl => ?_)
                          refine lv_iinc (v := (nI (v3_6 + 1))) (lv' := [(3, .int (nI (v3_6 + 1))), (2, .int (v2_6 + 1)), (5, .int (nI b1_19_j)), (4, .int (nI n_10)), (0, .ref (a 36)), (1, .int (nI t_2))]) hx hb dX8_loadAll_162 hl (k := 3) rfl (nI_add v3_6 1) (by decide) rfl (fun ls hl => ?_)
                          refine lv_goto (tgt := 51) hx hb dX8_loadAll_165 (by decide) ?_
                          exact ih_6 (v3_6 + 1) (v2_6 + 1)  (by omega) (by omega) (putM f_19 n_10 b1_19_j) u_19 hi_23 (KK.wputM (by decide) (KK.tr (KK.wr (by decide) (by decide) kk_6) (kk_19.mono (by decide))))  _ _ _ hw (lv_sub hl [0, 1, 4, 5] rfl)
                      · have c_16 : ¬ n_7 ≤ v5_9 := fun z => c_16 ((nI_leI (a := n_7) (b := v5_9) (by omega) (by omega)).mpr z)
                        refine lv_aload_n hx hb dX8_loadAll_74 rfl (lv_at hl 4 rfl) ?_
                        refine gf_X8_85 cx hw dX8_loadAll_75 ?_
                        refine lv_iload hx hb dX8_loadAll_78 (lv_at hl 0 rfl) ?_
                        refine zldN 58 v5_9 cx hw rfl (by omega) (by decide) dX8_loadAll_80 ?_
                        refine lv_topi (fun x_24 _ => ?_)
                        refine lv_if_ne (tgt := 111) hx hb dX8_loadAll_81 (by decide) (fun _ => ?_) (fun _ => ?_)
                        · refine lv_iinc (v := (nI (v5_9 + 1))) (lv' := [(5, .int (nI (v5_9 + 1))), (4, .int (nI n_10)), (3, .int (nI v3_6)), (2, .int v2_6), (0, .ref (a 36)), (1, .int (nI t_2))]) hx hb dX8_loadAll_111 hl (k := 0) rfl (nI_add v5_9 1) (by decide) rfl (fun ls hl => ?_)
                          refine lv_goto (tgt := 65) hx hb dX8_loadAll_114 (by decide) ?_
                          exact ih_9 (v5_9 + 1) (nI n_10) ((okx_n (j := n_10) (by omega))) (by omega) (by omega) _ _ _ hw (lv_sub hl [0, 1, 2, 3, 4, 5] rfl)
                        · refine lv_iload hx hb dX8_loadAll_84 (lv_at hl 1 rfl) ?_
                          refine lv_iconst (v := (-1)) hx hb dX8_loadAll_86 (by decide) ?_
                          refine lv_icmp_eq (tgt := 107) hx hb dX8_loadAll_87 (by decide) (fun q => absurd q (nI_m1 (by omega))) (fun _ => ?_)
                          refine lv_aload_n hx hb dX8_loadAll_90 rfl (lv_at hl 4 rfl) ?_
                          refine gf_X8_40 cx hw dX8_loadAll_91 ?_
                          refine lv_iload hx hb dX8_loadAll_94 (lv_at hl 0 rfl) ?_
                          refine aldN 44 v5_9 cx hw rfl (by omega) (by decide) dX8_loadAll_96 ?_
                          refine lv_topi (fun x_27 _ => ?_)
                          refine lv_aload_n hx hb dX8_loadAll_97 rfl (lv_at hl 4 rfl) ?_
                          refine gf_X8_40 cx hw dX8_loadAll_98 ?_
                          refine lv_iload hx hb dX8_loadAll_101 (lv_at hl 1 rfl) ?_
                          refine aldN 44 n_10 cx hw rfl (by omega) (by decide) dX8_loadAll_103 ?_
                          refine lv_topi (fun x_28 _ => ?_)
                          refine lv_icmp_le (tgt := 111) hx hb dX8_loadAll_104 (by decide) (fun _ => ?_) (fun _ => ?_)
                          · refine lv_iinc (v := (nI (v5_9 + 1))) (lv' := [(5, .int (nI (v5_9 + 1))), (4, .int (nI n_10)), (3, .int (nI v3_6)), (2, .int v2_6), (0, .ref (a 36)), (1, .int (nI t_2))]) hx hb dX8_loadAll_111 hl (k := 0) rfl (nI_add v5_9 1) (by decide) rfl (fun ls hl => ?_)
                            refine lv_goto (tgt := 65) hx hb dX8_loadAll_114 (by decide) ?_
                            exact ih_9 (v5_9 + 1) (nI n_10) ((okx_n (j := n_10) (by omega))) (by omega) (by omega) _ _ _ hw (lv_sub hl [0, 1, 2, 3, 4, 5] rfl)
                          · refine lv_iload hx hb dX8_loadAll_107 (lv_at hl 0 rfl) ?_
                            refine lv_istore (lv' := [(4, .int (nI v5_9)), (5, .int (nI v5_9)), (3, .int (nI v3_6)), (2, .int v2_6), (0, .ref (a 36)), (1, .int (nI t_2))]) hx hb dX8_loadAll_109 hl (by decide) rfl (fun ls hl => ?_)
                            refine lv_iinc (v := (nI (v5_9 + 1))) (lv' := [(5, .int (nI (v5_9 + 1))), (4, .int (nI v5_9)), (3, .int (nI v3_6)), (2, .int v2_6), (0, .ref (a 36)), (1, .int (nI t_2))]) hx hb dX8_loadAll_111 hl (k := 1) rfl (nI_add v5_9 1) (by decide) rfl (fun ls hl => ?_)
                            refine lv_goto (tgt := 65) hx hb dX8_loadAll_114 (by decide) ?_
                            exact ih_9 (v5_9 + 1) (nI v5_9) ((okx_n (j := v5_9) (by omega))) (by omega) (by omega) _ _ _ hw (lv_sub hl [0, 1, 2, 3, 4, 5] rfl)
                exact loop_9 _ 0 (-1) (okx_m) (by omega)  (Nat.lt_succ_self _) _ _ _ hw (lv_sub hl [0, 1, 2, 3, 4, 5] rfl)
          exact loop_6 _ 0 0  (by omega)  (Nat.lt_succ_self _) f_3 u_3 hi_3 kk_3  _ _ _ hw (lv_sub hl [0, 1, 2, 3] rfl)
        · have c_5 : ¬ n_4 ≤ v3_3 := fun z => c_5 ((nI_leI (a := n_4) (b := v3_3) (by omega) (by omega)).mpr z)
          refine lv_aload_n hx hb dX8_loadAll_22 rfl (lv_at hl 2 rfl) ?_
          refine gf_X8_85 cx hw dX8_loadAll_23 ?_
          refine lv_iload_n hx hb dX8_loadAll_26 rfl (lv_at hl 0 rfl) ?_
          refine lv_aload_n hx hb dX8_loadAll_27 rfl (lv_at hl 2 rfl) ?_
          refine gf_X8_49 cx hw dX8_loadAll_28 ?_
          refine lv_iload_n hx hb dX8_loadAll_31 rfl (lv_at hl 0 rfl) ?_
          refine aldN 47 v3_3 cx hw rfl (by omega) (by decide) dX8_loadAll_32 ?_
          rcases IV.a_47 hi_3 (i := v3_3) (by omega) with en_30 | ⟨n_30, hn_30, en_30⟩
          · refine topc (y := (-1)) en_30 ?_
            refine lv_iconst (v := (-1)) hx hb dX8_loadAll_33 (by decide) ?_
            refine lv_icmp_eq (tgt := 41) hx hb dX8_loadAll_34 (by decide) (fun _ => ?_) (fun q => absurd (by decide) q)
            refine lv_iconst (v := 0) hx hb dX8_loadAll_41 (by decide) ?_
            refine zstN 58 v3_3 cx hw rfl ws_58 (by omega) (by decide) dX8_loadAll_42 (fun H locs hw => ?_)
            have hi_32 : IV (up f_3 58 (upd (f_3 58) v3_3 (vp_nar .boolean 0))) := IV.wr hi_3 58 trivial
            refine lv_iinc (v := (nI (v3_3 + 1))) (lv' := [(3, .int (nI (v3_3 + 1))), (2, .int 0), (0, .ref (a 36)), (1, .int (nI t_2))]) hx hb dX8_loadAll_43 hl (k := 0) rfl (nI_add v3_3 1) (by decide) rfl (fun ls hl => ?_)
            refine lv_goto (tgt := 14) hx hb dX8_loadAll_46 (by decide) ?_
            exact ih_3 (v3_3 + 1)  (by omega) (by omega) (up f_3 58 (upd (f_3 58) v3_3 (vp_nar .boolean 0))) u_3 hi_32 (KK.wr (by decide) (by decide) kk_3)  _ _ _ hw (lv_sub hl [0, 1, 2, 3] rfl)
          · refine topc (y := (nI n_30)) en_30 ?_
            refine lv_iconst (v := (-1)) hx hb dX8_loadAll_33 (by decide) ?_
            refine lv_icmp_eq (tgt := 41) hx hb dX8_loadAll_34 (by decide) (fun q => absurd q (nI_m1 (by omega))) (fun _ => ?_)
            refine lv_iconst (v := 1) hx hb dX8_loadAll_37 (by decide) ?_
            refine lv_goto (tgt := 42) hx hb dX8_loadAll_38 (by decide) ?_
            refine zstN 58 v3_3 cx hw rfl ws_58 (by omega) (by decide) dX8_loadAll_42 (fun H locs hw => ?_)
            have hi_34 : IV (up f_3 58 (upd (f_3 58) v3_3 (vp_nar .boolean 1))) := IV.wr hi_3 58 trivial
            refine lv_iinc (v := (nI (v3_3 + 1))) (lv' := [(3, .int (nI (v3_3 + 1))), (2, .int 0), (0, .ref (a 36)), (1, .int (nI t_2))]) hx hb dX8_loadAll_43 hl (k := 0) rfl (nI_add v3_3 1) (by decide) rfl (fun ls hl => ?_)
            refine lv_goto (tgt := 14) hx hb dX8_loadAll_46 (by decide) ?_
            exact ih_3 (v3_3 + 1)  (by omega) (by omega) (up f_3 58 (upd (f_3 58) v3_3 (vp_nar .boolean 1))) u_3 hi_34 (KK.wr (by decide) (by decide) kk_3)  _ _ _ hw (lv_sub hl [0, 1, 2, 3] rfl)
    exact loop_3 _ 0  (by omega)  (Nat.lt_succ_self _) f u hi KK.rf  _ _ _ hw (lv_sub hl [0, 1, 2, 3] rfl)
  · refine lv_bipush (v := (-2)) hx hb dX8_loadAll_7 (by decide) ?_
    exact retI cx hw hr hk dX8_loadAll_9 ⟨hi, KK.rf⟩

set_option maxHeartbeats 4000000 in
set_option maxRecDepth 100000 in
theorem k_X8_swaps (l : Launch) (D : va_G) (a : Nat → Nat) (cI cZ : ClassId) (f : FF) (u : UU) (a1 : Nat) (a2 : Nat) (ar : Int32) (p1 : Nat) (p2 : Nat) (hi : IV f) (h_1 : a1 < 40) (h_2 : a2 < 40) (h_12 : a1 < a2) (g_1 : p1 < 32) (g_2 : p2 < 32) (e_1 : f 47 a1 = nI p1) (e_2 : f 47 a2 = nI p2) : KI l yX8_swaps cX8_swaps 6 (some .boolean) ({ frames := 5, cells := 0, slots := 0, locals := 99 } : Room) D a cI cZ [.ref (a 36), .int (nI a1), .int (nI a2), .int ar] f u (fun r f2 u2 => IV f2 ∧ KK [36, 42, 47] f f2) := by
  refine KX.of (by decide) (Nat.le_of_ble_eq_true rfl) ?_
  intro p e s m below meth c cx hw hr hk ls hl
  have cx : Cx p s m _ c cX8_swaps RX8 6 D cI cZ := cx
  have hl : lv_has ls 6 [(0, .ref (a 36)), (1, .int (nI a1)), (2, .int (nI a2)), (3, .int ar)] := hl
  have hx := cx.1.1
  have hb := cx.1.2.1
  refine lv_aload_n hx hb dX8_swaps_0 rfl (lv_at hl 0 rfl) ?_
  refine gf_X8_49 cx hw dX8_swaps_1 ?_
  refine lv_iload_n hx hb dX8_swaps_4 rfl (lv_at hl 1 rfl) ?_
  refine aldN 47 a1 cx hw rfl (by omega) (by decide) dX8_swaps_5 ?_
  refine topc (y := (nI p1)) e_1 ?_
  refine lv_istore (lv' := [(4, .int (nI p1)), (0, .ref (a 36)), (1, .int (nI a1)), (2, .int (nI a2)), (3, .int ar)]) hx hb dX8_swaps_6 hl (by decide) rfl (fun ls hl => ?_)
  refine lv_aload_n hx hb dX8_swaps_8 rfl (lv_at hl 1 rfl) ?_
  refine gf_X8_49 cx hw dX8_swaps_9 ?_
  refine lv_iload_n hx hb dX8_swaps_12 rfl (lv_at hl 3 rfl) ?_
  refine aldN 47 a2 cx hw rfl (by omega) (by decide) dX8_swaps_13 ?_
  refine topc (y := (nI p2)) e_2 ?_
  refine lv_istore (lv' := [(5, .int (nI p2)), (4, .int (nI p1)), (0, .ref (a 36)), (1, .int (nI a1)), (2, .int (nI a2)), (3, .int ar)]) hx hb dX8_swaps_14 hl (by decide) rfl (fun ls hl => ?_)
  refine lv_aload_n hx hb dX8_swaps_16 rfl (lv_at hl 2 rfl) ?_
  refine lv_iload_n hx hb dX8_swaps_17 rfl (lv_at hl 3 rfl) ?_
  refine goV hw (runVW (k := 36) (As := [.int (nI a1)]) (rest := []) cx hw (k_X8_take l D a cI cZ f u a1 p1 hi (by omega) (by omega) e_1) lk_X8_149 rfl rfl ⟨Nat.le_of_ble_eq_true rfl, Nat.le_of_ble_eq_true rfl⟩ ⟨rfl, rfl⟩ ⟨Nat.zero_le _, Nat.zero_le _⟩ rfl rfl hl.1 (Nat.le_of_ble_eq_true rfl) dX8_swaps_18) (fun f_1 u_1 H locs hp_1 hw => ?_)
  have hi_2 : IV (takeM f a1 p1) := IV.wtakeM hi
  obtain ⟨rfl, rfl⟩ := hp_1
  refine lv_aload_n hx hb dX8_swaps_21 rfl (lv_at hl 2 rfl) ?_
  refine lv_iload_n hx hb dX8_swaps_22 rfl (lv_at hl 4 rfl) ?_
  refine goV hw (runVW (k := 36) (As := [.int (nI a2)]) (rest := []) cx hw (k_X8_take l D a cI cZ (takeM f a1 p1) u a2 p2 hi_2 (by omega) (by omega) ((takeM_ne (by omega)).trans e_2)) lk_X8_149 rfl rfl ⟨Nat.le_of_ble_eq_true rfl, Nat.le_of_ble_eq_true rfl⟩ ⟨rfl, rfl⟩ ⟨Nat.zero_le _, Nat.zero_le _⟩ rfl rfl hl.1 (Nat.le_of_ble_eq_true rfl) dX8_swaps_23) (fun f_3 u_3 H locs hp_3 hw => ?_)
  have hi_4 : IV (takeM (takeM f a1 p1) a2 p2) := IV.wtakeM hi_2
  obtain ⟨rfl, rfl⟩ := hp_3
  refine lv_aload_n hx hb dX8_swaps_26 rfl (lv_at hl 2 rfl) ?_
  refine lv_iload_n hx hb dX8_swaps_27 rfl (lv_at hl 3 rfl) ?_
  refine lv_iload hx hb dX8_swaps_28 (lv_at hl 0 rfl) ?_
  refine goI hw (runVW (k := 36) (As := [.int (nI a1), .int (nI p2)]) (rest := []) cx hw (k_X8_fitsAt l D a cI cZ (takeM (takeM f a1 p1) a2 p2) u a1 p2  hi_4 (by omega) (by omega)) lk_X8_137 rfl rfl ⟨Nat.le_of_ble_eq_true rfl, Nat.le_of_ble_eq_true rfl⟩ ⟨rfl, rfl⟩ ⟨Nat.zero_le _, Nat.zero_le _⟩ rfl rfl hl.1 (Nat.le_of_ble_eq_true rfl) dX8_swaps_30) (fun r_5 f_5 u_5 H locs hp_5 hw => ?_)
  obtain ⟨rfl, rfl⟩ := hp_5
  refine lv_if_ne (tgt := 80) hx hb dX8_swaps_33 (by decide) (fun _ => ?_) (fun _ => ?_)
  · refine lv_aload_n hx hb dX8_swaps_80 rfl (lv_at hl 2 rfl) ?_
    refine lv_iload_n hx hb dX8_swaps_81 rfl (lv_at hl 3 rfl) ?_
    refine lv_iload hx hb dX8_swaps_82 (lv_at hl 1 rfl) ?_
    refine goV hw (runVW (k := 36) (As := [.int (nI a1), .int (nI p1)]) (rest := []) cx hw (k_X8_put l D a cI cZ (takeM (takeM f a1 p1) a2 p2) u a1 p1  hi_4 (by omega) (by omega)) lk_X8_145 rfl rfl ⟨Nat.le_of_ble_eq_true rfl, Nat.le_of_ble_eq_true rfl⟩ ⟨rfl, rfl⟩ ⟨Nat.zero_le _, Nat.zero_le _⟩ rfl rfl hl.1 (Nat.le_of_ble_eq_true rfl) dX8_swaps_84) (fun f_7 u_7 H locs hp_7 hw => ?_)
    have hi_8 : IV (putM (takeM (takeM f a1 p1) a2 p2) a1 p1) := IV.wputM hi_4 (by omega) (by omega)
    obtain ⟨rfl, rfl⟩ := hp_7
    refine lv_aload_n hx hb dX8_swaps_87 rfl (lv_at hl 2 rfl) ?_
    refine lv_iload_n hx hb dX8_swaps_88 rfl (lv_at hl 4 rfl) ?_
    refine lv_iload hx hb dX8_swaps_89 (lv_at hl 0 rfl) ?_
    refine goV hw (runVW (k := 36) (As := [.int (nI a2), .int (nI p2)]) (rest := []) cx hw (k_X8_put l D a cI cZ (putM (takeM (takeM f a1 p1) a2 p2) a1 p1) u a2 p2  hi_8 (by omega) (by omega)) lk_X8_145 rfl rfl ⟨Nat.le_of_ble_eq_true rfl, Nat.le_of_ble_eq_true rfl⟩ ⟨rfl, rfl⟩ ⟨Nat.zero_le _, Nat.zero_le _⟩ rfl rfl hl.1 (Nat.le_of_ble_eq_true rfl) dX8_swaps_91) (fun f_9 u_9 H locs hp_9 hw => ?_)
    have hi_10 : IV (putM (putM (takeM (takeM f a1 p1) a2 p2) a1 p1) a2 p2) := IV.wputM hi_8 (by omega) (by omega)
    obtain ⟨rfl, rfl⟩ := hp_9
    refine lv_iconst (v := 0) hx hb dX8_swaps_94 (by decide) ?_
    exact retZ cx hw hr hk rfl dX8_swaps_95 ⟨hi_10, (KK.wputM (by decide) (KK.wputM (by decide) (KK.wtakeM (by decide) (KK.wtakeM (by decide) KK.rf))))⟩
  · refine lv_aload_n hx hb dX8_swaps_36 rfl (lv_at hl 2 rfl) ?_
    refine lv_iload_n hx hb dX8_swaps_37 rfl (lv_at hl 3 rfl) ?_
    refine lv_iload hx hb dX8_swaps_38 (lv_at hl 0 rfl) ?_
    refine goV hw (runVW (k := 36) (As := [.int (nI a1), .int (nI p2)]) (rest := []) cx hw (k_X8_put l D a cI cZ (takeM (takeM f a1 p1) a2 p2) u a1 p2  hi_4 (by omega) (by omega)) lk_X8_145 rfl rfl ⟨Nat.le_of_ble_eq_true rfl, Nat.le_of_ble_eq_true rfl⟩ ⟨rfl, rfl⟩ ⟨Nat.zero_le _, Nat.zero_le _⟩ rfl rfl hl.1 (Nat.le_of_ble_eq_true rfl) dX8_swaps_40) (fun f_11 u_11 H locs hp_11 hw => ?_)
    have hi_12 : IV (putM (takeM (takeM f a1 p1) a2 p2) a1 p2) := IV.wputM hi_4 (by omega) (by omega)
    obtain ⟨rfl, rfl⟩ := hp_11
    refine lv_aload_n hx hb dX8_swaps_43 rfl (lv_at hl 2 rfl) ?_
    refine lv_iload_n hx hb dX8_swaps_44 rfl (lv_at hl 4 rfl) ?_
    refine lv_iload hx hb dX8_swaps_45 (lv_at hl 1 rfl) ?_
    refine goI hw (runVW (k := 36) (As := [.int (nI a2), .int (nI p1)]) (rest := []) cx hw (k_X8_fitsAt l D a cI cZ (putM (takeM (takeM f a1 p1) a2 p2) a1 p2) u a2 p1  hi_12 (by omega) (by omega)) lk_X8_137 rfl rfl ⟨Nat.le_of_ble_eq_true rfl, Nat.le_of_ble_eq_true rfl⟩ ⟨rfl, rfl⟩ ⟨Nat.zero_le _, Nat.zero_le _⟩ rfl rfl hl.1 (Nat.le_of_ble_eq_true rfl) dX8_swaps_47) (fun r_13 f_13 u_13 H locs hp_13 hw => ?_)
    obtain ⟨rfl, rfl⟩ := hp_13
    refine lv_if_ne (tgt := 75) hx hb dX8_swaps_50 (by decide) (fun _ => ?_) (fun _ => ?_)
    · refine lv_aload_n hx hb dX8_swaps_75 rfl (lv_at hl 2 rfl) ?_
      refine lv_iload_n hx hb dX8_swaps_76 rfl (lv_at hl 3 rfl) ?_
      refine goV hw (runVW (k := 36) (As := [.int (nI a1)]) (rest := []) cx hw (k_X8_take l D a cI cZ (putM (takeM (takeM f a1 p1) a2 p2) a1 p2) u a1 p2 hi_12 (by omega) (by omega) putM_same) lk_X8_149 rfl rfl ⟨Nat.le_of_ble_eq_true rfl, Nat.le_of_ble_eq_true rfl⟩ ⟨rfl, rfl⟩ ⟨Nat.zero_le _, Nat.zero_le _⟩ rfl rfl hl.1 (Nat.le_of_ble_eq_true rfl) dX8_swaps_77) (fun f_15 u_15 H locs hp_15 hw => ?_)
      have hi_16 : IV (takeM (putM (takeM (takeM f a1 p1) a2 p2) a1 p2) a1 p2) := IV.wtakeM hi_12
      obtain ⟨rfl, rfl⟩ := hp_15
      refine lv_aload_n hx hb dX8_swaps_80 rfl (lv_at hl 2 rfl) ?_
      refine lv_iload_n hx hb dX8_swaps_81 rfl (lv_at hl 3 rfl) ?_
      refine lv_iload hx hb dX8_swaps_82 (lv_at hl 1 rfl) ?_
      refine goV hw (runVW (k := 36) (As := [.int (nI a1), .int (nI p1)]) (rest := []) cx hw (k_X8_put l D a cI cZ (takeM (putM (takeM (takeM f a1 p1) a2 p2) a1 p2) a1 p2) u a1 p1  hi_16 (by omega) (by omega)) lk_X8_145 rfl rfl ⟨Nat.le_of_ble_eq_true rfl, Nat.le_of_ble_eq_true rfl⟩ ⟨rfl, rfl⟩ ⟨Nat.zero_le _, Nat.zero_le _⟩ rfl rfl hl.1 (Nat.le_of_ble_eq_true rfl) dX8_swaps_84) (fun f_17 u_17 H locs hp_17 hw => ?_)
      have hi_18 : IV (putM (takeM (putM (takeM (takeM f a1 p1) a2 p2) a1 p2) a1 p2) a1 p1) := IV.wputM hi_16 (by omega) (by omega)
      obtain ⟨rfl, rfl⟩ := hp_17
      refine lv_aload_n hx hb dX8_swaps_87 rfl (lv_at hl 2 rfl) ?_
      refine lv_iload_n hx hb dX8_swaps_88 rfl (lv_at hl 4 rfl) ?_
      refine lv_iload hx hb dX8_swaps_89 (lv_at hl 0 rfl) ?_
      refine goV hw (runVW (k := 36) (As := [.int (nI a2), .int (nI p2)]) (rest := []) cx hw (k_X8_put l D a cI cZ (putM (takeM (putM (takeM (takeM f a1 p1) a2 p2) a1 p2) a1 p2) a1 p1) u a2 p2  hi_18 (by omega) (by omega)) lk_X8_145 rfl rfl ⟨Nat.le_of_ble_eq_true rfl, Nat.le_of_ble_eq_true rfl⟩ ⟨rfl, rfl⟩ ⟨Nat.zero_le _, Nat.zero_le _⟩ rfl rfl hl.1 (Nat.le_of_ble_eq_true rfl) dX8_swaps_91) (fun f_19 u_19 H locs hp_19 hw => ?_)
      have hi_20 : IV (putM (putM (takeM (putM (takeM (takeM f a1 p1) a2 p2) a1 p2) a1 p2) a1 p1) a2 p2) := IV.wputM hi_18 (by omega) (by omega)
      obtain ⟨rfl, rfl⟩ := hp_19
      refine lv_iconst (v := 0) hx hb dX8_swaps_94 (by decide) ?_
      exact retZ cx hw hr hk rfl dX8_swaps_95 ⟨hi_20, (KK.wputM (by decide) (KK.wputM (by decide) (KK.wtakeM (by decide) (KK.wputM (by decide) (KK.wtakeM (by decide) (KK.wtakeM (by decide) KK.rf))))))⟩
    · refine lv_aload_n hx hb dX8_swaps_53 rfl (lv_at hl 2 rfl) ?_
      refine lv_iload_n hx hb dX8_swaps_54 rfl (lv_at hl 4 rfl) ?_
      refine lv_iload hx hb dX8_swaps_55 (lv_at hl 1 rfl) ?_
      refine goV hw (runVW (k := 36) (As := [.int (nI a2), .int (nI p1)]) (rest := []) cx hw (k_X8_put l D a cI cZ (putM (takeM (takeM f a1 p1) a2 p2) a1 p2) u a2 p1  hi_12 (by omega) (by omega)) lk_X8_145 rfl rfl ⟨Nat.le_of_ble_eq_true rfl, Nat.le_of_ble_eq_true rfl⟩ ⟨rfl, rfl⟩ ⟨Nat.zero_le _, Nat.zero_le _⟩ rfl rfl hl.1 (Nat.le_of_ble_eq_true rfl) dX8_swaps_57) (fun f_21 u_21 H locs hp_21 hw => ?_)
      have hi_22 : IV (putM (putM (takeM (takeM f a1 p1) a2 p2) a1 p2) a2 p1) := IV.wputM hi_12 (by omega) (by omega)
      obtain ⟨rfl, rfl⟩ := hp_21
      refine lv_aload_n hx hb dX8_swaps_60 rfl (lv_at hl 2 rfl) ?_
      refine lv_iload_n hx hb dX8_swaps_61 rfl (lv_at hl 5 rfl) ?_
      refine goI hw (runVW (k := 36) (As := [.int ar]) (rest := []) cx hw (k_X8_isBetter l D a cI cZ (putM (putM (takeM (takeM f a1 p1) a2 p2) a1 p2) a2 p1) u ar  hi_22) lk_X8_209 rfl rfl ⟨Nat.le_of_ble_eq_true rfl, Nat.le_of_ble_eq_true rfl⟩ ⟨rfl, rfl⟩ ⟨Nat.zero_le _, Nat.zero_le _⟩ rfl rfl hl.1 (Nat.le_of_ble_eq_true rfl) dX8_swaps_62) (fun r_23 f_23 u_23 H locs hp_23 hw => ?_)
      obtain ⟨hi_23, kk_23, ha_23⟩ := hp_23
      rcases ha_23 with er_23 | er_23
      · subst er_23
        refine lv_if_eq (tgt := 70) hx hb dX8_swaps_65 (by decide) (fun _ => ?_) (fun q => absurd (by decide) q)
        refine lv_aload_n hx hb dX8_swaps_70 rfl (lv_at hl 2 rfl) ?_
        refine lv_iload_n hx hb dX8_swaps_71 rfl (lv_at hl 4 rfl) ?_
        refine goV hw (runVW (k := 36) (As := [.int (nI a2)]) (rest := []) cx hw (k_X8_take l D a cI cZ f_23 u_23 a2 p1 hi_23 (by omega) (by omega) ((congrFun (kk_23.1 47 rfl) a2).trans putM_same)) lk_X8_149 rfl rfl ⟨Nat.le_of_ble_eq_true rfl, Nat.le_of_ble_eq_true rfl⟩ ⟨rfl, rfl⟩ ⟨Nat.zero_le _, Nat.zero_le _⟩ rfl rfl hl.1 (Nat.le_of_ble_eq_true rfl) dX8_swaps_72) (fun f_25 u_25 H locs hp_25 hw => ?_)
        have hi_26 : IV (takeM f_23 a2 p1) := IV.wtakeM hi_23
        obtain ⟨rfl, rfl⟩ := hp_25
        refine lv_aload_n hx hb dX8_swaps_75 rfl (lv_at hl 2 rfl) ?_
        refine lv_iload_n hx hb dX8_swaps_76 rfl (lv_at hl 3 rfl) ?_
        refine goV hw (runVW (k := 36) (As := [.int (nI a1)]) (rest := []) cx hw (k_X8_take l D a cI cZ (takeM f_23 a2 p1) u_23 a1 p2 hi_26 (by omega) (by omega) ((takeM_ne (by omega)).trans ((congrFun (kk_23.1 47 rfl) a1).trans ((putM_ne (by omega)).trans putM_same)))) lk_X8_149 rfl rfl ⟨Nat.le_of_ble_eq_true rfl, Nat.le_of_ble_eq_true rfl⟩ ⟨rfl, rfl⟩ ⟨Nat.zero_le _, Nat.zero_le _⟩ rfl rfl hl.1 (Nat.le_of_ble_eq_true rfl) dX8_swaps_77) (fun f_27 u_27 H locs hp_27 hw => ?_)
        have hi_28 : IV (takeM (takeM f_23 a2 p1) a1 p2) := IV.wtakeM hi_26
        obtain ⟨rfl, rfl⟩ := hp_27
        refine lv_aload_n hx hb dX8_swaps_80 rfl (lv_at hl 2 rfl) ?_
        refine lv_iload_n hx hb dX8_swaps_81 rfl (lv_at hl 3 rfl) ?_
        refine lv_iload hx hb dX8_swaps_82 (lv_at hl 1 rfl) ?_
        refine goV hw (runVW (k := 36) (As := [.int (nI a1), .int (nI p1)]) (rest := []) cx hw (k_X8_put l D a cI cZ (takeM (takeM f_23 a2 p1) a1 p2) u_23 a1 p1  hi_28 (by omega) (by omega)) lk_X8_145 rfl rfl ⟨Nat.le_of_ble_eq_true rfl, Nat.le_of_ble_eq_true rfl⟩ ⟨rfl, rfl⟩ ⟨Nat.zero_le _, Nat.zero_le _⟩ rfl rfl hl.1 (Nat.le_of_ble_eq_true rfl) dX8_swaps_84) (fun f_29 u_29 H locs hp_29 hw => ?_)
        have hi_30 : IV (putM (takeM (takeM f_23 a2 p1) a1 p2) a1 p1) := IV.wputM hi_28 (by omega) (by omega)
        obtain ⟨rfl, rfl⟩ := hp_29
        refine lv_aload_n hx hb dX8_swaps_87 rfl (lv_at hl 2 rfl) ?_
        refine lv_iload_n hx hb dX8_swaps_88 rfl (lv_at hl 4 rfl) ?_
        refine lv_iload hx hb dX8_swaps_89 (lv_at hl 0 rfl) ?_
        refine goV hw (runVW (k := 36) (As := [.int (nI a2), .int (nI p2)]) (rest := []) cx hw (k_X8_put l D a cI cZ (putM (takeM (takeM f_23 a2 p1) a1 p2) a1 p1) u_23 a2 p2  hi_30 (by omega) (by omega)) lk_X8_145 rfl rfl ⟨Nat.le_of_ble_eq_true rfl, Nat.le_of_ble_eq_true rfl⟩ ⟨rfl, rfl⟩ ⟨Nat.zero_le _, Nat.zero_le _⟩ rfl rfl hl.1 (Nat.le_of_ble_eq_true rfl) dX8_swaps_91) (fun f_31 u_31 H locs hp_31 hw => ?_)
        have hi_32 : IV (putM (putM (takeM (takeM f_23 a2 p1) a1 p2) a1 p1) a2 p2) := IV.wputM hi_30 (by omega) (by omega)
        obtain ⟨rfl, rfl⟩ := hp_31
        refine lv_iconst (v := 0) hx hb dX8_swaps_94 (by decide) ?_
        exact retZ cx hw hr hk rfl dX8_swaps_95 ⟨hi_32, (KK.wputM (by decide) (KK.wputM (by decide) (KK.wtakeM (by decide) (KK.wtakeM (by decide) (KK.tr (KK.wputM (by decide) (KK.wputM (by decide) (KK.wtakeM (by decide) (KK.wtakeM (by decide) KK.rf)))) (kk_23.mono (by decide)))))))⟩
      · subst er_23
        refine lv_if_eq (tgt := 70) hx hb dX8_swaps_65 (by decide) (fun q => absurd q (by decide)) (fun _ => ?_)
        refine lv_iconst (v := 1) hx hb dX8_swaps_68 (by decide) ?_
        exact retZ cx hw hr hk rfl dX8_swaps_69 ⟨hi_23, (KK.tr (KK.wputM (by decide) (KK.wputM (by decide) (KK.wtakeM (by decide) (KK.wtakeM (by decide) KK.rf)))) (kk_23.mono (by decide)))⟩

set_option maxHeartbeats 4000000 in
set_option maxRecDepth 100000 in
theorem k_X8_moves (l : Launch) (D : va_G) (a : Nat → Nat) (cI cZ : ClassId) (f : FF) (u : UU) (i : Nat) (qq : Nat) (ar : Int32) (p1 : Nat) (hi : IV f) (h_1 : i < 40) (h_q : qq < 32) (g_1 : p1 < 32) (e_1 : f 47 i = nI p1) : KI l yX8_moves cX8_moves 5 (some .boolean) ({ frames := 5, cells := 0, slots := 0, locals := 99 } : Room) D a cI cZ [.ref (a 36), .int (nI i), .int (nI qq), .int ar] f u (fun r f2 u2 => IV f2 ∧ KK [36, 42, 47] f f2) := by
  refine KX.of (by decide) (Nat.le_of_ble_eq_true rfl) ?_
  intro p e s m below meth c cx hw hr hk ls hl
  have cx : Cx p s m _ c cX8_moves RX8 5 D cI cZ := cx
  have hl : lv_has ls 5 [(0, .ref (a 36)), (1, .int (nI i)), (2, .int (nI qq)), (3, .int ar)] := hl
  have hx := cx.1.1
  have hb := cx.1.2.1
  refine lv_aload_n hx hb dX8_moves_0 rfl (lv_at hl 0 rfl) ?_
  refine gf_X8_49 cx hw dX8_moves_1 ?_
  refine lv_iload_n hx hb dX8_moves_4 rfl (lv_at hl 1 rfl) ?_
  refine aldN 47 i cx hw rfl (by omega) (by decide) dX8_moves_5 ?_
  refine topc (y := (nI p1)) e_1 ?_
  refine lv_istore (lv' := [(4, .int (nI p1)), (0, .ref (a 36)), (1, .int (nI i)), (2, .int (nI qq)), (3, .int ar)]) hx hb dX8_moves_6 hl (by decide) rfl (fun ls hl => ?_)
  refine lv_aload_n hx hb dX8_moves_8 rfl (lv_at hl 1 rfl) ?_
  refine gf_X8_34 cx hw dX8_moves_9 ?_
  refine lv_iload_n hx hb dX8_moves_12 rfl (lv_at hl 3 rfl) ?_
  refine aldN 42 qq cx hw rfl (by omega) (by decide) dX8_moves_13 ?_
  rcases IV.a_42 hi (i := qq) (by omega) with en_1 | ⟨n_1, hn_1, en_1⟩
  · refine topc (y := (-1)) en_1 ?_
    refine lv_iconst (v := (-1)) hx hb dX8_moves_14 (by decide) ?_
    refine lv_icmp_eq (tgt := 20) hx hb dX8_moves_15 (by decide) (fun _ => ?_) (fun q => absurd (by decide) q)
    refine lv_aload_n hx hb dX8_moves_20 rfl (lv_at hl 1 rfl) ?_
    refine lv_iload_n hx hb dX8_moves_21 rfl (lv_at hl 2 rfl) ?_
    refine goV hw (runVW (k := 36) (As := [.int (nI i)]) (rest := []) cx hw (k_X8_take l D a cI cZ f u i p1 hi (by omega) (by omega) e_1) lk_X8_149 rfl rfl ⟨Nat.le_of_ble_eq_true rfl, Nat.le_of_ble_eq_true rfl⟩ ⟨rfl, rfl⟩ ⟨Nat.zero_le _, Nat.zero_le _⟩ rfl rfl hl.1 (Nat.le_of_ble_eq_true rfl) dX8_moves_22) (fun f_3 u_3 H locs hp_3 hw => ?_)
    have hi_4 : IV (takeM f i p1) := IV.wtakeM hi
    obtain ⟨rfl, rfl⟩ := hp_3
    refine lv_aload_n hx hb dX8_moves_25 rfl (lv_at hl 1 rfl) ?_
    refine lv_iload_n hx hb dX8_moves_26 rfl (lv_at hl 2 rfl) ?_
    refine lv_iload_n hx hb dX8_moves_27 rfl (lv_at hl 3 rfl) ?_
    refine goI hw (runVW (k := 36) (As := [.int (nI i), .int (nI qq)]) (rest := []) cx hw (k_X8_fitsAt l D a cI cZ (takeM f i p1) u i qq  hi_4 (by omega) (by omega)) lk_X8_137 rfl rfl ⟨Nat.le_of_ble_eq_true rfl, Nat.le_of_ble_eq_true rfl⟩ ⟨rfl, rfl⟩ ⟨Nat.zero_le _, Nat.zero_le _⟩ rfl rfl hl.1 (Nat.le_of_ble_eq_true rfl) dX8_moves_28) (fun r_5 f_5 u_5 H locs hp_5 hw => ?_)
    obtain ⟨rfl, rfl⟩ := hp_5
    refine lv_if_ne (tgt := 55) hx hb dX8_moves_31 (by decide) (fun _ => ?_) (fun _ => ?_)
    · refine lv_aload_n hx hb dX8_moves_55 rfl (lv_at hl 1 rfl) ?_
      refine lv_iload_n hx hb dX8_moves_56 rfl (lv_at hl 2 rfl) ?_
      refine lv_iload hx hb dX8_moves_57 (lv_at hl 0 rfl) ?_
      refine goV hw (runVW (k := 36) (As := [.int (nI i), .int (nI p1)]) (rest := []) cx hw (k_X8_put l D a cI cZ (takeM f i p1) u i p1  hi_4 (by omega) (by omega)) lk_X8_145 rfl rfl ⟨Nat.le_of_ble_eq_true rfl, Nat.le_of_ble_eq_true rfl⟩ ⟨rfl, rfl⟩ ⟨Nat.zero_le _, Nat.zero_le _⟩ rfl rfl hl.1 (Nat.le_of_ble_eq_true rfl) dX8_moves_59) (fun f_7 u_7 H locs hp_7 hw => ?_)
      have hi_8 : IV (putM (takeM f i p1) i p1) := IV.wputM hi_4 (by omega) (by omega)
      obtain ⟨rfl, rfl⟩ := hp_7
      refine lv_iconst (v := 0) hx hb dX8_moves_62 (by decide) ?_
      exact retZ cx hw hr hk rfl dX8_moves_63 ⟨hi_8, (KK.wputM (by decide) (KK.wtakeM (by decide) KK.rf))⟩
    · refine lv_aload_n hx hb dX8_moves_34 rfl (lv_at hl 1 rfl) ?_
      refine lv_iload_n hx hb dX8_moves_35 rfl (lv_at hl 2 rfl) ?_
      refine lv_iload_n hx hb dX8_moves_36 rfl (lv_at hl 3 rfl) ?_
      refine goV hw (runVW (k := 36) (As := [.int (nI i), .int (nI qq)]) (rest := []) cx hw (k_X8_put l D a cI cZ (takeM f i p1) u i qq  hi_4 (by omega) (by omega)) lk_X8_145 rfl rfl ⟨Nat.le_of_ble_eq_true rfl, Nat.le_of_ble_eq_true rfl⟩ ⟨rfl, rfl⟩ ⟨Nat.zero_le _, Nat.zero_le _⟩ rfl rfl hl.1 (Nat.le_of_ble_eq_true rfl) dX8_moves_37) (fun f_9 u_9 H locs hp_9 hw => ?_)
      have hi_10 : IV (putM (takeM f i p1) i qq) := IV.wputM hi_4 (by omega) (by omega)
      obtain ⟨rfl, rfl⟩ := hp_9
      refine lv_aload_n hx hb dX8_moves_40 rfl (lv_at hl 1 rfl) ?_
      refine lv_iload_n hx hb dX8_moves_41 rfl (lv_at hl 4 rfl) ?_
      refine goI hw (runVW (k := 36) (As := [.int ar]) (rest := []) cx hw (k_X8_isBetter l D a cI cZ (putM (takeM f i p1) i qq) u ar  hi_10) lk_X8_209 rfl rfl ⟨Nat.le_of_ble_eq_true rfl, Nat.le_of_ble_eq_true rfl⟩ ⟨rfl, rfl⟩ ⟨Nat.zero_le _, Nat.zero_le _⟩ rfl rfl hl.1 (Nat.le_of_ble_eq_true rfl) dX8_moves_42) (fun r_11 f_11 u_11 H locs hp_11 hw => ?_)
      obtain ⟨hi_11, kk_11, ha_11⟩ := hp_11
      rcases ha_11 with er_11 | er_11
      · subst er_11
        refine lv_if_eq (tgt := 50) hx hb dX8_moves_45 (by decide) (fun _ => ?_) (fun q => absurd (by decide) q)
        refine lv_aload_n hx hb dX8_moves_50 rfl (lv_at hl 1 rfl) ?_
        refine lv_iload_n hx hb dX8_moves_51 rfl (lv_at hl 2 rfl) ?_
        refine goV hw (runVW (k := 36) (As := [.int (nI i)]) (rest := []) cx hw (k_X8_take l D a cI cZ f_11 u_11 i qq hi_11 (by omega) (by omega) ((congrFun (kk_11.1 47 rfl) i).trans putM_same)) lk_X8_149 rfl rfl ⟨Nat.le_of_ble_eq_true rfl, Nat.le_of_ble_eq_true rfl⟩ ⟨rfl, rfl⟩ ⟨Nat.zero_le _, Nat.zero_le _⟩ rfl rfl hl.1 (Nat.le_of_ble_eq_true rfl) dX8_moves_52) (fun f_13 u_13 H locs hp_13 hw => ?_)
        have hi_14 : IV (takeM f_11 i qq) := IV.wtakeM hi_11
        obtain ⟨rfl, rfl⟩ := hp_13
        refine lv_aload_n hx hb dX8_moves_55 rfl (lv_at hl 1 rfl) ?_
        refine lv_iload_n hx hb dX8_moves_56 rfl (lv_at hl 2 rfl) ?_
        refine lv_iload hx hb dX8_moves_57 (lv_at hl 0 rfl) ?_
        refine goV hw (runVW (k := 36) (As := [.int (nI i), .int (nI p1)]) (rest := []) cx hw (k_X8_put l D a cI cZ (takeM f_11 i qq) u_11 i p1  hi_14 (by omega) (by omega)) lk_X8_145 rfl rfl ⟨Nat.le_of_ble_eq_true rfl, Nat.le_of_ble_eq_true rfl⟩ ⟨rfl, rfl⟩ ⟨Nat.zero_le _, Nat.zero_le _⟩ rfl rfl hl.1 (Nat.le_of_ble_eq_true rfl) dX8_moves_59) (fun f_15 u_15 H locs hp_15 hw => ?_)
        have hi_16 : IV (putM (takeM f_11 i qq) i p1) := IV.wputM hi_14 (by omega) (by omega)
        obtain ⟨rfl, rfl⟩ := hp_15
        refine lv_iconst (v := 0) hx hb dX8_moves_62 (by decide) ?_
        exact retZ cx hw hr hk rfl dX8_moves_63 ⟨hi_16, (KK.wputM (by decide) (KK.wtakeM (by decide) (KK.tr (KK.wputM (by decide) (KK.wtakeM (by decide) KK.rf)) (kk_11.mono (by decide)))))⟩
      · subst er_11
        refine lv_if_eq (tgt := 50) hx hb dX8_moves_45 (by decide) (fun q => absurd q (by decide)) (fun _ => ?_)
        refine lv_iconst (v := 1) hx hb dX8_moves_48 (by decide) ?_
        exact retZ cx hw hr hk rfl dX8_moves_49 ⟨hi_11, (KK.tr (KK.wputM (by decide) (KK.wtakeM (by decide) KK.rf)) (kk_11.mono (by decide)))⟩
  · refine topc (y := (nI n_1)) en_1 ?_
    refine lv_iconst (v := (-1)) hx hb dX8_moves_14 (by decide) ?_
    refine lv_icmp_eq (tgt := 20) hx hb dX8_moves_15 (by decide) (fun q => absurd q (nI_m1 (by omega))) (fun _ => ?_)
    refine lv_iconst (v := 0) hx hb dX8_moves_18 (by decide) ?_
    exact retZ cx hw hr hk rfl dX8_moves_19 ⟨hi, KK.rf⟩

set_option maxHeartbeats 4000000 in
set_option maxRecDepth 100000 in
theorem k_X8_betters (l : Launch) (D : va_G) (a : Nat → Nat) (cI cZ : ClassId) (f : FF) (u : UU) (ar : Int32) (hi : IV f)  : KI l yX8_betters cX8_betters 4 (some .boolean) ({ frames := 6, cells := 0, slots := 0, locals := 124 } : Room) D a cI cZ [.ref (a 36), .int ar] f u (fun r f2 u2 => IV f2 ∧ KK [36, 42, 47] f f2) := by
  refine KX.of (by decide) (Nat.le_of_ble_eq_true rfl) ?_
  intro p e s m below meth c cx hw hr hk ls hl
  have cx : Cx p s m _ c cX8_betters RX8 4 D cI cZ := cx
  have hl : lv_has ls 4 [(0, .ref (a 36)), (1, .int ar)] := hl
  have hx := cx.1.1
  have hb := cx.1.2.1
  refine lv_aload_n hx hb dX8_betters_0 rfl (lv_at hl 0 rfl) ?_
  refine lv_iload_n hx hb dX8_betters_1 rfl (lv_at hl 1 rfl) ?_
  refine lv_aload_n hx hb dX8_betters_2 rfl (lv_at hl 0 rfl) ?_
  refine goI hw (runVW (k := 36) (As := []) (rest := [.int ar, .ref (a 36)]) cx hw (k_X8_dryWeight l D a cI cZ f u   hi) lk_X8_153 rfl rfl ⟨Nat.le_of_ble_eq_true rfl, Nat.le_of_ble_eq_true rfl⟩ ⟨rfl, rfl⟩ ⟨Nat.zero_le _, Nat.zero_le _⟩ rfl rfl hl.1 (Nat.le_of_ble_eq_true rfl) dX8_betters_3) (fun r_1 f_1 u_1 H locs hp_1 hw => ?_)
  obtain ⟨rfl, rfl⟩ := hp_1
  refine lv_aload_n hx hb dX8_betters_6 rfl (lv_at hl 0 rfl) ?_
  refine goL hw (runVW (k := 36) (As := []) (rest := [.int r_1, .int ar, .ref (a 36)]) cx hw (k_X8_dryMoment l D a cI cZ f u   hi) lk_X8_160 rfl rfl ⟨Nat.le_of_ble_eq_true rfl, Nat.le_of_ble_eq_true rfl⟩ ⟨rfl, rfl⟩ ⟨Nat.zero_le _, Nat.zero_le _⟩ rfl rfl hl.1 (Nat.le_of_ble_eq_true rfl) dX8_betters_7) (fun r_2 f_2 u_2 H locs hp_2 hw => ?_)
  obtain ⟨rfl, rfl⟩ := hp_2
  refine goV hw (runVW (k := 36) (As := [.int ar, .int r_1, .long r_2]) (rest := []) cx hw (k_X8_far l D a cI cZ f u ar r_1 r_2  hi) lk_X8_192 rfl rfl ⟨Nat.le_of_ble_eq_true rfl, Nat.le_of_ble_eq_true rfl⟩ ⟨rfl, rfl⟩ ⟨Nat.zero_le _, Nat.zero_le _⟩ rfl rfl hl.1 (Nat.le_of_ble_eq_true rfl) dX8_betters_10) (fun f_3 u_3 H locs hp_3 hw => ?_)
  have hi_4 : IV (up f 36 (upd (f 36) 30 r_1)) := IV.u_36_30 hi
  subst hp_3
  refine lv_aload_n hx hb dX8_betters_13 rfl (lv_at hl 0 rfl) ?_
  refine lv_aload_n hx hb dX8_betters_14 rfl (lv_at hl 0 rfl) ?_
  refine gf_X8_188 cx hw dX8_betters_15 ?_
  refine lv_topl (fun y_5 _ => ?_)
  refine pf_X8_199 cx hw dX8_betters_18 (fun H locs hw => ?_)
  refine lv_aload_n hx hb dX8_betters_21 rfl (lv_at hl 0 rfl) ?_
  refine lv_aload_n hx hb dX8_betters_22 rfl (lv_at hl 0 rfl) ?_
  refine gf_X8_185 cx hw dX8_betters_23 ?_
  refine lv_topi (fun x_6 _ => ?_)
  refine pf_X8_202 cx hw dX8_betters_26 (fun H locs hw => ?_)
  have hi_7 : IV (up (up f 36 (upd (f 36) 30 r_1)) 36 (upd ((up f 36 (upd (f 36) 30 r_1)) 36) 33 x_6)) := IV.u_36_33 hi_4
  refine lv_iconst (v := 0) hx hb dX8_betters_29 (by decide) ?_
  refine lv_istore_n (lv' := [(2, .int 0), (0, .ref (a 36)), (1, .int ar)]) hx hb dX8_betters_30 rfl hl (by decide) rfl (fun ls hl => ?_)
  have loop_8 : ∀ (k_8 : Nat) (v2_8 : Nat), v2_8 ≤ 40 → 40 + 1 - v2_8 < k_8 → ∀ (f_8 : FF) (u_8 : UU), IV f_8 → KK [36, 42, 47] f f_8 → ∀ (H : Heap) (locs : List Loc) (ls : Array Slot), Wd D a cI cZ s f_8 u_8 H locs → lv_has ls 4 [(2, .int (nI v2_8)), (0, .ref (a 36)), (1, .int ar)] → W p l e ({ frames := 6, cells := 0, slots := 0, locals := 124 } : Room) s m ([.ref (a 36), .int ar] : List Value).toArray below meth c H locs 0 0 (MQ below (QI D a cI cZ (fun r f2 u2 => IV f2 ∧ KK [36, 42, 47] f f2)) ([.ref (a 36), .int ar] : List Value).toArray s 0 0 (AA a)) (F0 m 31 ls []) := by
    intro k_8
    induction k_8 with
    | zero => intros; omega
    | succ k_8 ih_8 =>
      intro v2_8  hb0_8  hm_8 f_8 u_8 hi_8 kk_8  H locs ls hw hl
      refine lv_iload_n hx hb dX8_betters_31 rfl (lv_at hl 0 rfl) ?_
      refine lv_aload_n hx hb dX8_betters_32 rfl (lv_at hl 1 rfl) ?_
      refine gf_X8_106 cx hw dX8_betters_33 ?_
      obtain ⟨n_9, hn_9, en_9⟩ := IV.s_36_11 hi_8
      refine topc (y := (nI n_9)) en_9 ?_
      refine lv_icmp_ge (tgt := 95) hx hb dX8_betters_36 (by decide) (fun c_10 => ?_) (fun c_10 => ?_)
      · have c_10 : n_9 ≤ v2_8 := (nI_leI (a := n_9) (b := v2_8) (by omega) (by omega)).mp c_10
        refine lv_iconst (v := 0) hx hb dX8_betters_95 (by decide) ?_
        refine lv_istore_n (lv' := [(2, .int 0), (0, .ref (a 36)), (1, .int ar)]) hx hb dX8_betters_96 rfl hl (by decide) rfl (fun ls hl => ?_)
        have loop_11 : ∀ (k_11 : Nat) (v2_11 : Nat), v2_11 ≤ 40 → 40 + 1 - v2_11 < k_11 → ∀ (f_11 : FF) (u_11 : UU), IV f_11 → KK [36, 42, 47] f f_11 → ∀ (H : Heap) (locs : List Loc) (ls : Array Slot), Wd D a cI cZ s f_11 u_11 H locs → lv_has ls 4 [(2, .int (nI v2_11)), (0, .ref (a 36)), (1, .int ar)] → W p l e ({ frames := 6, cells := 0, slots := 0, locals := 124 } : Room) s m ([.ref (a 36), .int ar] : List Value).toArray below meth c H locs 0 0 (MQ below (QI D a cI cZ (fun r f2 u2 => IV f2 ∧ KK [36, 42, 47] f f2)) ([.ref (a 36), .int ar] : List Value).toArray s 0 0 (AA a)) (F0 m 97 ls []) := by
          intro k_11
          induction k_11 with
          | zero => intros; omega
          | succ k_11 ih_11 =>
            intro v2_11  hb0_11  hm_11 f_11 u_11 hi_11 kk_11  H locs ls hw hl
            refine lv_iload_n hx hb dX8_betters_97 rfl (lv_at hl 0 rfl) ?_
            refine lv_aload_n hx hb dX8_betters_98 rfl (lv_at hl 1 rfl) ?_
            refine gf_X8_106 cx hw dX8_betters_99 ?_
            obtain ⟨n_12, hn_12, en_12⟩ := IV.s_36_11 hi_11
            refine topc (y := (nI n_12)) en_12 ?_
            refine lv_icmp_ge (tgt := 162) hx hb dX8_betters_102 (by decide) (fun c_13 => ?_) (fun c_13 => ?_)
            · have c_13 : n_12 ≤ v2_11 := (nI_leI (a := n_12) (b := v2_11) (by omega) (by omega)).mp c_13
              refine lv_iconst (v := 0) hx hb dX8_betters_162 (by decide) ?_
              exact retZ cx hw hr hk rfl dX8_betters_163 ⟨hi_11, kk_11⟩
            · have c_13 : ¬ n_12 ≤ v2_11 := fun z => c_13 ((nI_leI (a := n_12) (b := v2_11) (by omega) (by omega)).mpr z)
              refine lv_iconst (v := 0) hx hb dX8_betters_105 (by decide) ?_
              refine lv_istore_n (lv' := [(3, .int 0), (2, .int (nI v2_11)), (0, .ref (a 36)), (1, .int ar)]) hx hb dX8_betters_106 rfl hl (by decide) rfl (fun ls hl => ?_)
              have loop_14 : ∀ (k_14 : Nat) (v3_14 : Nat), v3_14 ≤ 32 → 32 + 1 - v3_14 < k_14 → ∀ (f_14 : FF) (u_14 : UU), IV f_14 → KK [36, 42, 47] f f_14 → ∀ (H : Heap) (locs : List Loc) (ls : Array Slot), Wd D a cI cZ s f_14 u_14 H locs → lv_has ls 4 [(3, .int (nI v3_14)), (2, .int (nI v2_11)), (0, .ref (a 36)), (1, .int ar)] → W p l e ({ frames := 6, cells := 0, slots := 0, locals := 124 } : Room) s m ([.ref (a 36), .int ar] : List Value).toArray below meth c H locs 0 0 (MQ below (QI D a cI cZ (fun r f2 u2 => IV f2 ∧ KK [36, 42, 47] f f2)) ([.ref (a 36), .int ar] : List Value).toArray s 0 0 (AA a)) (F0 m 107 ls []) := by
                intro k_14
                induction k_14 with
                | zero => intros; omega
                | succ k_14 ih_14 =>
                  intro v3_14  hb0_14  hm_14 f_14 u_14 hi_14 kk_14  H locs ls hw hl
                  refine lv_iload_n hx hb dX8_betters_107 rfl (lv_at hl 0 rfl) ?_
                  refine lv_bipush (v := 32) hx hb dX8_betters_108 (by decide) ?_
                  refine lv_icmp_ge (tgt := 156) hx hb dX8_betters_110 (by decide) (fun c_15 => ?_) (fun c_15 => ?_)
                  · have c_15 : 32 ≤ v3_14 := (nI_leI (a := 32) (b := v3_14) (by omega) (by omega)).mp c_15
                    refine lv_iinc (v := (nI (v2_11 + 1))) (lv' := [(2, .int (nI (v2_11 + 1))), (3, .int (nI v3_14)), (0, .ref (a 36)), (1, .int ar)]) hx hb dX8_betters_156 hl (k := 1) rfl (nI_add v2_11 1) (by decide) rfl (fun ls hl => ?_)
                    refine lv_goto (tgt := 97) hx hb dX8_betters_159 (by decide) ?_
                    exact ih_11 (v2_11 + 1)  (by omega) (by omega) f_14 u_14 hi_14 kk_14  _ _ _ hw (lv_sub hl [0, 2, 3] rfl)
                  · have c_15 : ¬ 32 ≤ v3_14 := fun z => c_15 ((nI_leI (a := 32) (b := v3_14) (by omega) (by omega)).mpr z)
                    refine lv_aload_n hx hb dX8_betters_113 rfl (lv_at hl 2 rfl) ?_
                    refine gf_X8_49 cx hw dX8_betters_114 ?_
                    refine lv_iload_n hx hb dX8_betters_117 rfl (lv_at hl 1 rfl) ?_
                    refine aldN 47 v2_11 cx hw rfl (by omega) (by decide) dX8_betters_118 ?_
                    rcases IV.a_47 hi_14 (i := v2_11) (by omega) with en_16 | ⟨n_16, hn_16, en_16⟩
                    · refine topc (y := (-1)) en_16 ?_
                      refine lv_iconst (v := (-1)) hx hb dX8_betters_119 (by decide) ?_
                      refine lv_icmp_eq (tgt := 150) hx hb dX8_betters_120 (by decide) (fun _ => ?_) (fun q => absurd (by decide) q)
                      refine lv_iinc (v := (nI (v3_14 + 1))) (lv' := [(3, .int (nI (v3_14 + 1))), (2, .int (nI v2_11)), (0, .ref (a 36)), (1, .int ar)]) hx hb dX8_betters_150 hl (k := 0) rfl (nI_add v3_14 1) (by decide) rfl (fun ls hl => ?_)
                      refine lv_goto (tgt := 107) hx hb dX8_betters_153 (by decide) ?_
                      exact ih_14 (v3_14 + 1)  (by omega) (by omega) f_14 u_14 hi_14 kk_14  _ _ _ hw (lv_sub hl [0, 1, 2, 3] rfl)
                    · refine topc (y := (nI n_16)) en_16 ?_
                      refine lv_iconst (v := (-1)) hx hb dX8_betters_119 (by decide) ?_
                      refine lv_icmp_eq (tgt := 150) hx hb dX8_betters_120 (by decide) (fun q => absurd q (nI_m1 (by omega))) (fun _ => ?_)
                      refine lv_aload_n hx hb dX8_betters_123 rfl (lv_at hl 2 rfl) ?_
                      refine lv_iload_n hx hb dX8_betters_124 rfl (lv_at hl 0 rfl) ?_
                      refine lv_bipush (v := 8) hx hb dX8_betters_125 (by decide) ?_
                      refine lv_idiv hx hb dX8_betters_127 (by decide) ?_
                      refine topc (y := (nI (v3_14 / 8))) (pk_div (a := v3_14) (d := 8) (by omega) (by decide) (by decide)) ?_
                      refine lv_iload_n hx hb dX8_betters_128 rfl (lv_at hl 0 rfl) ?_
                      refine lv_bipush (v := 8) hx hb dX8_betters_129 (by decide) ?_
                      refine lv_irem hx hb dX8_betters_131 (by decide) ?_
                      refine topc (y := (nI (v3_14 % 8))) (pk_rem (a := v3_14) (d := 8) (by omega) (by decide) (by decide)) ?_
                      refine goI hw (runVW (k := 36) (As := [.int (nI (v3_14 / 8)), .int (nI (v3_14 % 8))]) (rest := []) cx hw (k_X8_isSlot l D a cI cZ f_14 u_14 (nI (v3_14 / 8)) (nI (v3_14 % 8))  hi_14) lk_X8_133 rfl rfl ⟨Nat.le_of_ble_eq_true rfl, Nat.le_of_ble_eq_true rfl⟩ ⟨rfl, rfl⟩ ⟨Nat.zero_le _, Nat.zero_le _⟩ rfl rfl hl.1 (Nat.le_of_ble_eq_true rfl) dX8_betters_132) (fun r_19 f_19 u_19 H locs hp_19 hw => ?_)
                      obtain ⟨rfl, rfl, ha_19⟩ := hp_19
                      rcases ha_19 with er_19 | ⟨er_19, b1_19_j, b1_19_k1, b1_19_c, b1_19_d, q1_19_0, q1_19_1, q1_19_2, q1_19_3, q1_19_4, q1_19_5, q1_19_6, q1_19_7⟩
                      · subst er_19
                        refine lv_if_eq (tgt := 150) hx hb dX8_betters_135 (by decide) (fun _ => ?_) (fun q => absurd (by decide) q)
                        refine lv_iinc (v := (nI (v3_14 + 1))) (lv' := [(3, .int (nI (v3_14 + 1))), (2, .int (nI v2_11)), (0, .ref (a 36)), (1, .int ar)]) hx hb dX8_betters_150 hl (k := 0) rfl (nI_add v3_14 1) (by decide) rfl (fun ls hl => ?_)
                        refine lv_goto (tgt := 107) hx hb dX8_betters_153 (by decide) ?_
                        exact ih_14 (v3_14 + 1)  (by omega) (by omega) f_14 u_14 hi_14 kk_14  _ _ _ hw (lv_sub hl [0, 1, 2, 3] rfl)
                      · subst er_19
                        have q1_19_6 := nI_inj (by omega) (by omega) q1_19_6
                        subst q1_19_6
                        have q1_19_7 := nI_inj (by omega) (by omega) q1_19_7
                        subst q1_19_7
                        refine lv_if_eq (tgt := 150) hx hb dX8_betters_135 (by decide) (fun q => absurd q (by decide)) (fun _ => ?_)
                        refine lv_aload_n hx hb dX8_betters_138 rfl (lv_at hl 2 rfl) ?_
                        refine lv_iload_n hx hb dX8_betters_139 rfl (lv_at hl 1 rfl) ?_
                        refine lv_iload_n hx hb dX8_betters_140 rfl (lv_at hl 0 rfl) ?_
                        refine lv_iload_n hx hb dX8_betters_141 rfl (lv_at hl 3 rfl) ?_
                        refine goI hw (runVW (k := 36) (As := [.int (nI v2_11), .int (nI v3_14), .int ar]) (rest := []) cx hw (k_X8_moves l D a cI cZ f_14 u_14 v2_11 v3_14 ar n_16 hi_14 (by omega) (by omega) (by omega) en_16) lk_X8_215 rfl rfl ⟨Nat.le_of_ble_eq_true rfl, Nat.le_of_ble_eq_true rfl⟩ ⟨rfl, rfl⟩ ⟨Nat.zero_le _, Nat.zero_le _⟩ rfl rfl hl.1 (Nat.le_of_ble_eq_true rfl) dX8_betters_142) (fun r_22 f_22 u_22 H locs hp_22 hw => ?_)
                        obtain ⟨hi_22, kk_22⟩ := hp_22
                        refine lv_if_eq (tgt := 150) hx hb dX8_betters_145 (by decide) (fun _ => ?_) (fun _ => ?_)
                        · refine lv_iinc (v := (nI (v3_14 + 1))) (lv' := [(3, .int (nI (v3_14 + 1))), (2, .int (nI v2_11)), (0, .ref (a 36)), (1, .int ar)]) hx hb dX8_betters_150 hl (k := 0) rfl (nI_add v3_14 1) (by decide) rfl (fun ls hl => ?_)
                          refine lv_goto (tgt := 107) hx hb dX8_betters_153 (by decide) ?_
                          exact ih_14 (v3_14 + 1)  (by omega) (by omega) f_22 u_22 hi_22 (KK.tr kk_14 (kk_22.mono (by decide)))  _ _ _ hw (lv_sub hl [0, 1, 2, 3] rfl)
                        · refine lv_iconst (v := 1) hx hb dX8_betters_148 (by decide) ?_
                          exact retZ cx hw hr hk rfl dX8_betters_149 ⟨hi_22, (KK.tr kk_14 (kk_22.mono (by decide)))⟩
              exact loop_14 _ 0  (by omega)  (Nat.lt_succ_self _) f_11 u_11 hi_11 kk_11  _ _ _ hw (lv_sub hl [0, 1, 2, 3] rfl)
        exact loop_11 _ 0  (by omega)  (Nat.lt_succ_self _) f_8 u_8 hi_8 kk_8  _ _ _ hw (lv_sub hl [0, 1, 2] rfl)
      · have c_10 : ¬ n_9 ≤ v2_8 := fun z => c_10 ((nI_leI (a := n_9) (b := v2_8) (by omega) (by omega)).mpr z)
        refine lv_iload_n hx hb dX8_betters_39 rfl (lv_at hl 0 rfl) ?_
        refine lv_iconst (v := 1) hx hb dX8_betters_40 (by decide) ?_
        refine lv_iadd hx hb dX8_betters_41 ?_
        refine topc (y := (nI (v2_8 + 1))) (nI_add v2_8 1) ?_
        refine lv_istore_n (lv' := [(3, .int (nI (v2_8 + 1))), (2, .int (nI v2_8)), (0, .ref (a 36)), (1, .int ar)]) hx hb dX8_betters_42 rfl hl (by decide) rfl (fun ls hl => ?_)
        have loop_24 : ∀ (k_24 : Nat) (v3_24 : Nat), v3_24 ≤ 41 → 41 + 1 - v3_24 < k_24 → ∀ (f_24 : FF) (u_24 : UU), IV f_24 → KK [36, 42, 47] f f_24 → (v2_8 < v3_24) → ∀ (H : Heap) (locs : List Loc) (ls : Array Slot), Wd D a cI cZ s f_24 u_24 H locs → lv_has ls 4 [(3, .int (nI v3_24)), (2, .int (nI v2_8)), (0, .ref (a 36)), (1, .int ar)] → W p l e ({ frames := 6, cells := 0, slots := 0, locals := 124 } : Room) s m ([.ref (a 36), .int ar] : List Value).toArray below meth c H locs 0 0 (MQ below (QI D a cI cZ (fun r f2 u2 => IV f2 ∧ KK [36, 42, 47] f f2)) ([.ref (a 36), .int ar] : List Value).toArray s 0 0 (AA a)) (F0 m 43 ls []) := by
          intro k_24
          induction k_24 with
          | zero => intros; omega
          | succ k_24 ih_24 =>
            intro v3_24  hb0_24  hm_24 f_24 u_24 hi_24 kk_24 hab H locs ls hw hl
            refine lv_iload_n hx hb dX8_betters_43 rfl (lv_at hl 0 rfl) ?_
            refine lv_aload_n hx hb dX8_betters_44 rfl (lv_at hl 2 rfl) ?_
            refine gf_X8_106 cx hw dX8_betters_45 ?_
            obtain ⟨n_25, hn_25, en_25⟩ := IV.s_36_11 hi_24
            refine topc (y := (nI n_25)) en_25 ?_
            refine lv_icmp_ge (tgt := 89) hx hb dX8_betters_48 (by decide) (fun c_26 => ?_) (fun c_26 => ?_)
            · have c_26 : n_25 ≤ v3_24 := (nI_leI (a := n_25) (b := v3_24) (by omega) (by omega)).mp c_26
              refine lv_iinc (v := (nI (v2_8 + 1))) (lv' := [(2, .int (nI (v2_8 + 1))), (3, .int (nI v3_24)), (0, .ref (a 36)), (1, .int ar)]) hx hb dX8_betters_89 hl (k := 1) rfl (nI_add v2_8 1) (by decide) rfl (fun ls hl => ?_)
              refine lv_goto (tgt := 31) hx hb dX8_betters_92 (by decide) ?_
              exact ih_8 (v2_8 + 1)  (by omega) (by omega) f_24 u_24 hi_24 kk_24  _ _ _ hw (lv_sub hl [0, 2, 3] rfl)
            · have c_26 : ¬ n_25 ≤ v3_24 := fun z => c_26 ((nI_leI (a := n_25) (b := v3_24) (by omega) (by omega)).mpr z)
              refine lv_aload_n hx hb dX8_betters_51 rfl (lv_at hl 2 rfl) ?_
              refine gf_X8_49 cx hw dX8_betters_52 ?_
              refine lv_iload_n hx hb dX8_betters_55 rfl (lv_at hl 1 rfl) ?_
              refine aldN 47 v2_8 cx hw rfl (by omega) (by decide) dX8_betters_56 ?_
              rcases IV.a_47 hi_24 (i := v2_8) (by omega) with en_27 | ⟨n_27, hn_27, en_27⟩
              · refine topc (y := (-1)) en_27 ?_
                refine lv_iconst (v := (-1)) hx hb dX8_betters_57 (by decide) ?_
                refine lv_icmp_eq (tgt := 83) hx hb dX8_betters_58 (by decide) (fun _ => ?_) (fun q => absurd (by decide) q)
                refine lv_iinc (v := (nI (v3_24 + 1))) (lv' := [(3, .int (nI (v3_24 + 1))), (2, .int (nI v2_8)), (0, .ref (a 36)), (1, .int ar)]) hx hb dX8_betters_83 hl (k := 0) rfl (nI_add v3_24 1) (by decide) rfl (fun ls hl => ?_)
                refine lv_goto (tgt := 43) hx hb dX8_betters_86 (by decide) ?_
                exact ih_24 (v3_24 + 1)  (by omega) (by omega) f_24 u_24 hi_24 kk_24 (by omega) _ _ _ hw (lv_sub hl [0, 1, 2, 3] rfl)
              · refine topc (y := (nI n_27)) en_27 ?_
                refine lv_iconst (v := (-1)) hx hb dX8_betters_57 (by decide) ?_
                refine lv_icmp_eq (tgt := 83) hx hb dX8_betters_58 (by decide) (fun q => absurd q (nI_m1 (by omega))) (fun _ => ?_)
                refine lv_aload_n hx hb dX8_betters_61 rfl (lv_at hl 2 rfl) ?_
                refine gf_X8_49 cx hw dX8_betters_62 ?_
                refine lv_iload_n hx hb dX8_betters_65 rfl (lv_at hl 0 rfl) ?_
                refine aldN 47 v3_24 cx hw rfl (by omega) (by decide) dX8_betters_66 ?_
                rcases IV.a_47 hi_24 (i := v3_24) (by omega) with en_30 | ⟨n_30, hn_30, en_30⟩
                · refine topc (y := (-1)) en_30 ?_
                  refine lv_iconst (v := (-1)) hx hb dX8_betters_67 (by decide) ?_
                  refine lv_icmp_eq (tgt := 83) hx hb dX8_betters_68 (by decide) (fun _ => ?_) (fun q => absurd (by decide) q)
                  refine lv_iinc (v := (nI (v3_24 + 1))) (lv' := [(3, .int (nI (v3_24 + 1))), (2, .int (nI v2_8)), (0, .ref (a 36)), (1, .int ar)]) hx hb dX8_betters_83 hl (k := 0) rfl (nI_add v3_24 1) (by decide) rfl (fun ls hl => ?_)
                  refine lv_goto (tgt := 43) hx hb dX8_betters_86 (by decide) ?_
                  exact ih_24 (v3_24 + 1)  (by omega) (by omega) f_24 u_24 hi_24 kk_24 (by omega) _ _ _ hw (lv_sub hl [0, 1, 2, 3] rfl)
                · refine topc (y := (nI n_30)) en_30 ?_
                  refine lv_iconst (v := (-1)) hx hb dX8_betters_67 (by decide) ?_
                  refine lv_icmp_eq (tgt := 83) hx hb dX8_betters_68 (by decide) (fun q => absurd q (nI_m1 (by omega))) (fun _ => ?_)
                  refine lv_aload_n hx hb dX8_betters_71 rfl (lv_at hl 2 rfl) ?_
                  refine lv_iload_n hx hb dX8_betters_72 rfl (lv_at hl 1 rfl) ?_
                  refine lv_iload_n hx hb dX8_betters_73 rfl (lv_at hl 0 rfl) ?_
                  refine lv_iload_n hx hb dX8_betters_74 rfl (lv_at hl 3 rfl) ?_
                  refine goI hw (runVW (k := 36) (As := [.int (nI v2_8), .int (nI v3_24), .int ar]) (rest := []) cx hw (k_X8_swaps l D a cI cZ f_24 u_24 v2_8 v3_24 ar n_27 n_30 hi_24 (by omega) (by omega) (by omega) (by omega) (by omega) en_27 en_30) lk_X8_212 rfl rfl ⟨Nat.le_of_ble_eq_true rfl, Nat.le_of_ble_eq_true rfl⟩ ⟨rfl, rfl⟩ ⟨Nat.zero_le _, Nat.zero_le _⟩ rfl rfl hl.1 (Nat.le_of_ble_eq_true rfl) dX8_betters_75) (fun r_33 f_33 u_33 H locs hp_33 hw => ?_)
                  obtain ⟨hi_33, kk_33⟩ := hp_33
                  refine lv_if_eq (tgt := 83) hx hb dX8_betters_78 (by decide) (fun _ => ?_) (fun _ => ?_)
                  · refine lv_iinc (v := (nI (v3_24 + 1))) (lv' := [(3, .int (nI (v3_24 + 1))), (2, .int (nI v2_8)), (0, .ref (a 36)), (1, .int ar)]) hx hb dX8_betters_83 hl (k := 0) rfl (nI_add v3_24 1) (by decide) rfl (fun ls hl => ?_)
                    refine lv_goto (tgt := 43) hx hb dX8_betters_86 (by decide) ?_
                    exact ih_24 (v3_24 + 1)  (by omega) (by omega) f_33 u_33 hi_33 (KK.tr kk_24 (kk_33.mono (by decide))) (by omega) _ _ _ hw (lv_sub hl [0, 1, 2, 3] rfl)
                  · refine lv_iconst (v := 1) hx hb dX8_betters_81 (by decide) ?_
                    exact retZ cx hw hr hk rfl dX8_betters_82 ⟨hi_33, (KK.tr kk_24 (kk_33.mono (by decide)))⟩
        exact loop_24 _ (v2_8 + 1)  (by omega)  (Nat.lt_succ_self _) f_8 u_8 hi_8 kk_8 (by omega) _ _ _ hw (lv_sub hl [0, 1, 2, 3] rfl)
  exact loop_8 _ 0  (by omega)  (Nat.lt_succ_self _) (up (up f 36 (upd (f 36) 30 r_1)) 36 (upd ((up f 36 (upd (f 36) 30 r_1)) 36) 33 x_6)) (upL u_3 36 32 y_5) hi_7 (KK.um (by decide) (by decide) (KK.um (by decide) (by decide) KK.rf))  _ _ _ hw (lv_sub hl [0, 1, 2] rfl)

set_option maxHeartbeats 4000000 in
set_option maxRecDepth 100000 in
theorem k_X8_better (l : Launch) (D : va_G) (a : Nat → Nat) (cI cZ : ClassId) (f : FF) (u : UU) (ar : Int32) (hi : IV f)  : KI l yX8_better cX8_better 3 (some .int) ({ frames := 7, cells := 0, slots := 0, locals := 147 } : Room) D a cI cZ [.ref (a 36), .int ar] f u (fun r f2 u2 => IV f2 ∧ KK [36, 42, 47] f f2) := by
  refine KX.of (by decide) (Nat.le_of_ble_eq_true rfl) ?_
  intro p e s m below meth c cx hw hr hk ls hl
  have cx : Cx p s m _ c cX8_better RX8 3 D cI cZ := cx
  have hl : lv_has ls 3 [(0, .ref (a 36)), (1, .int ar)] := hl
  have hx := cx.1.1
  have hb := cx.1.2.1
  refine lv_iload_n hx hb dX8_better_0 rfl (lv_at hl 1 rfl) ?_
  refine goI hw (runSW (As := [.int ar]) (rest := []) cx hw (c_X8_isArm l D a cI cZ f u ar  ) lk_X8_110 ⟨Nat.le_of_ble_eq_true rfl, Nat.le_of_ble_eq_true rfl⟩ ⟨rfl, rfl⟩ ⟨Nat.zero_le _, Nat.zero_le _⟩ rfl rfl hl.1 (Nat.le_of_ble_eq_true rfl) dX8_better_1) (fun r_1 f_1 u_1 H locs hp_1 hw => ?_)
  obtain ⟨rfl, rfl, e_1⟩ := hp_1
  refine topc e_1 ?_
  refine lv_if_ne (tgt := 10) hx hb dX8_better_4 (by decide) (fun c_2 => ?_) (fun c_2 => ?_)
  · obtain ⟨t_2, ht_2, et_2⟩ := rg_nat (n := 5000) rfl c_2
    subst et_2
    refine lv_iconst (v := 0) hx hb dX8_better_10 (by decide) ?_
    refine lv_istore_n (lv' := [(2, .int 0), (0, .ref (a 36)), (1, .int (nI t_2))]) hx hb dX8_better_11 rfl hl (by decide) rfl (fun ls hl => ?_)
    have loop_3 : ∀ (k_3 : Nat) (v2_3 : Nat), v2_3 ≤ 50 → 50 + 1 - v2_3 < k_3 → ∀ (f_3 : FF) (u_3 : UU), IV f_3 → KK [36, 42, 47] f f_3 → ∀ (H : Heap) (locs : List Loc) (ls : Array Slot), Wd D a cI cZ s f_3 u_3 H locs → lv_has ls 3 [(2, .int (nI v2_3)), (0, .ref (a 36)), (1, .int (nI t_2))] → W p l e ({ frames := 7, cells := 0, slots := 0, locals := 147 } : Room) s m ([.ref (a 36), .int (nI t_2)] : List Value).toArray below meth c H locs 0 0 (MQ below (QI D a cI cZ (fun r f2 u2 => IV f2 ∧ KK [36, 42, 47] f f2)) ([.ref (a 36), .int (nI t_2)] : List Value).toArray s 0 0 (AA a)) (F0 m 12 ls []) := by
      intro k_3
      induction k_3 with
      | zero => intros; omega
      | succ k_3 ih_3 =>
        intro v2_3  hb0_3  hm_3 f_3 u_3 hi_3 kk_3  H locs ls hw hl
        refine lv_iload_n hx hb dX8_better_12 rfl (lv_at hl 0 rfl) ?_
        refine lv_bipush (v := 50) hx hb dX8_better_13 (by decide) ?_
        refine lv_icmp_ge (tgt := 32) hx hb dX8_better_15 (by decide) (fun c_4 => ?_) (fun c_4 => ?_)
        · have c_4 : 50 ≤ v2_3 := (nI_leI (a := 50) (b := v2_3) (by omega) (by omega)).mp c_4
          refine lv_iload_n hx hb dX8_better_32 rfl (lv_at hl 0 rfl) ?_
          exact retI cx hw hr hk dX8_better_33 ⟨hi_3, kk_3⟩
        · have c_4 : ¬ 50 ≤ v2_3 := fun z => c_4 ((nI_leI (a := 50) (b := v2_3) (by omega) (by omega)).mpr z)
          refine lv_aload_n hx hb dX8_better_18 rfl (lv_at hl 1 rfl) ?_
          refine lv_iload_n hx hb dX8_better_19 rfl (lv_at hl 2 rfl) ?_
          refine goI hw (runVW (k := 36) (As := [.int (nI t_2)]) (rest := []) cx hw (k_X8_betters l D a cI cZ f_3 u_3 (nI t_2)  hi_3) lk_X8_218 rfl rfl ⟨Nat.le_of_ble_eq_true rfl, Nat.le_of_ble_eq_true rfl⟩ ⟨rfl, rfl⟩ ⟨Nat.zero_le _, Nat.zero_le _⟩ rfl rfl hl.1 (Nat.le_of_ble_eq_true rfl) dX8_better_20) (fun r_5 f_5 u_5 H locs hp_5 hw => ?_)
          obtain ⟨hi_5, kk_5⟩ := hp_5
          refine lv_if_eq (tgt := 32) hx hb dX8_better_23 (by decide) (fun _ => ?_) (fun _ => ?_)
          · refine lv_iload_n hx hb dX8_better_32 rfl (lv_at hl 0 rfl) ?_
            exact retI cx hw hr hk dX8_better_33 ⟨hi_5, (KK.tr kk_3 (kk_5.mono (by decide)))⟩
          · refine lv_iinc (v := (nI (v2_3 + 1))) (lv' := [(2, .int (nI (v2_3 + 1))), (0, .ref (a 36)), (1, .int (nI t_2))]) hx hb dX8_better_26 hl (k := 0) rfl (nI_add v2_3 1) (by decide) rfl (fun ls hl => ?_)
            refine lv_goto (tgt := 12) hx hb dX8_better_29 (by decide) ?_
            exact ih_3 (v2_3 + 1)  (by omega) (by omega) f_5 u_5 hi_5 (KK.tr kk_3 (kk_5.mono (by decide)))  _ _ _ hw (lv_sub hl [0, 1, 2] rfl)
    exact loop_3 _ 0  (by omega)  (Nat.lt_succ_self _) f u hi KK.rf  _ _ _ hw (lv_sub hl [0, 1, 2] rfl)
  · refine lv_bipush (v := (-2)) hx hb dX8_better_7 (by decide) ?_
    exact retI cx hw hr hk dX8_better_9 ⟨hi, KK.rf⟩

set_option maxHeartbeats 4000000 in
set_option maxRecDepth 100000 in
theorem k_X8_tries (l : Launch) (D : va_G) (a : Nat → Nat) (cI cZ : ClassId) : ∀ (d : Nat) (f : FF) (u : UU) (w : Nat) (ar : Int32) (cn : Nat) (hi : IV f) (hta : TAm f w cn) (hd : cn - w < d), KV l yX8_tries cX8_tries 5 none ({ frames := 14 + d, cells := 0, slots := 0, locals := 400 + 60 * d } : Room) D a cI cZ [.ref (a 36), .int (nI w), .int ar] f u (fun f2 u2 => IV f2 ∧ KK [36, 42, 47, 60] f f2 ∧ TPm f f2 w cn) := by
  intro d
  induction d with
  | zero => intros; omega
  | succ d ih =>
    intro f u w ar cn hi hta hd
    refine KX.of (by decide) (Nat.le_of_ble_eq_true rfl) ?_
    intro p e s m below meth c cx hw hr hk ls hl
    have cx : Cx p s m _ c cX8_tries RX8 5 D cI cZ := cx
    have hl : lv_has ls 5 [(0, .ref (a 36)), (1, .int (nI w)), (2, .int ar)] := hl
    have hx := cx.1.1
    have hb := cx.1.2.1
    have hA1 := hta.1
    have hc4 : cn ≤ 4 := hta.2.1
    have hwc : w ≤ cn := hta.2.2.1
    refine lv_iload_n hx hb dX8_tries_0 rfl (lv_at hl 1 rfl) ?_
    refine lv_aload_n hx hb dX8_tries_1 rfl (lv_at hl 0 rfl) ?_
    refine gf_X8_221 cx hw dX8_tries_2 ?_
    refine topc (y := (nI cn)) hA1 ?_
    refine lv_icmp_ne (tgt := 123) hx hb dX8_tries_5 (by decide) (fun c_1 => ?_) (fun c_1 => ?_)
    · have c_1 : ¬ w = cn := fun z => c_1 ((nI_eq (a := w) (b := cn) (by omega) (by omega)).mpr z)
      obtain ⟨n_2, hn_2, en_2⟩ := IV.a_59 hi (i := w) (by omega)
      refine lv_iconst (v := 0) hx hb dX8_tries_123 (by decide) ?_
      refine lv_istore_n (lv' := [(3, .int 0), (0, .ref (a 36)), (1, .int (nI w)), (2, .int ar)]) hx hb dX8_tries_124 rfl hl (by decide) rfl (fun ls hl => ?_)
      have loop_3 : ∀ (k_3 : Nat) (v3_3 : Nat), v3_3 ≤ 32 → 32 + 1 - v3_3 < k_3 → ∀ (f_3 : FF) (u_3 : UU), IV f_3 → KK [36, 42, 47, 60] f f_3 → (TPm f f_3 w cn) → ∀ (H : Heap) (locs : List Loc) (ls : Array Slot), Wd D a cI cZ s f_3 u_3 H locs → lv_has ls 5 [(3, .int (nI v3_3)), (0, .ref (a 36)), (1, .int (nI w)), (2, .int ar)] → W p l e ({ frames := 14 + (d + 1), cells := 0, slots := 0, locals := 400 + 60 * (d + 1) } : Room) s m ([.ref (a 36), .int (nI w), .int ar] : List Value).toArray below meth c H locs 0 0 (MQ below (QV D a cI cZ (fun f2 u2 => IV f2 ∧ KK [36, 42, 47, 60] f f2 ∧ TPm f f2 w cn)) ([.ref (a 36), .int (nI w), .int ar] : List Value).toArray s 0 0 (AA a)) (F0 m 125 ls []) := by
        intro k_3
        induction k_3 with
        | zero => intros; omega
        | succ k_3 ih_3 =>
          intro v3_3  hb0_3  hm_3 f_3 u_3 hi_3 kk_3 htp H locs ls hw hl
          refine lv_iload_n hx hb dX8_tries_125 rfl (lv_at hl 0 rfl) ?_
          refine lv_bipush (v := 32) hx hb dX8_tries_126 (by decide) ?_
          refine lv_icmp_ge (tgt := 198) hx hb dX8_tries_128 (by decide) (fun c_4 => ?_) (fun c_4 => ?_)
          · have c_4 : 32 ≤ v3_3 := (nI_leI (a := 32) (b := v3_3) (by omega) (by omega)).mp c_4
            exact retV cx hw hr hk dX8_tries_198 ⟨hi_3, kk_3, htp⟩
          · have c_4 : ¬ 32 ≤ v3_3 := fun z => c_4 ((nI_leI (a := 32) (b := v3_3) (by omega) (by omega)).mpr z)
            refine lv_aload_n hx hb dX8_tries_131 rfl (lv_at hl 1 rfl) ?_
            refine lv_iload_n hx hb dX8_tries_132 rfl (lv_at hl 0 rfl) ?_
            refine lv_bipush (v := 8) hx hb dX8_tries_133 (by decide) ?_
            refine lv_idiv hx hb dX8_tries_135 (by decide) ?_
            refine topc (y := (nI (v3_3 / 8))) (pk_div (a := v3_3) (d := 8) (by omega) (by decide) (by decide)) ?_
            refine lv_iload_n hx hb dX8_tries_136 rfl (lv_at hl 0 rfl) ?_
            refine lv_bipush (v := 8) hx hb dX8_tries_137 (by decide) ?_
            refine lv_irem hx hb dX8_tries_139 (by decide) ?_
            refine topc (y := (nI (v3_3 % 8))) (pk_rem (a := v3_3) (d := 8) (by omega) (by decide) (by decide)) ?_
            refine goI hw (runVW (k := 36) (As := [.int (nI (v3_3 / 8)), .int (nI (v3_3 % 8))]) (rest := []) cx hw (k_X8_isSlot l D a cI cZ f_3 u_3 (nI (v3_3 / 8)) (nI (v3_3 % 8))  hi_3) lk_X8_133 rfl rfl ⟨by show 3 + 1 ≤ 14 + (d + 1); omega, by show 8 + (3 + 11) + 55 ≤ 400 + 60 * (d + 1); omega⟩ ⟨rfl, rfl⟩ ⟨Nat.zero_le _, Nat.zero_le _⟩ rfl rfl hl.1 (Nat.le_of_ble_eq_true rfl) dX8_tries_140) (fun r_5 f_5 u_5 H locs hp_5 hw => ?_)
            obtain ⟨rfl, rfl, ha_5⟩ := hp_5
            rcases ha_5 with er_5 | ⟨er_5, b1_5_j, b1_5_k1, b1_5_c, b1_5_d, q1_5_0, q1_5_1, q1_5_2, q1_5_3, q1_5_4, q1_5_5, q1_5_6, q1_5_7⟩
            · subst er_5
              refine lv_if_eq (tgt := 192) hx hb dX8_tries_143 (by decide) (fun _ => ?_) (fun q => absurd (by decide) q)
              refine lv_iinc (v := (nI (v3_3 + 1))) (lv' := [(3, .int (nI (v3_3 + 1))), (0, .ref (a 36)), (1, .int (nI w)), (2, .int ar)]) hx hb dX8_tries_192 hl (k := 0) rfl (nI_add v3_3 1) (by decide) rfl (fun ls hl => ?_)
              refine lv_goto (tgt := 125) hx hb dX8_tries_195 (by decide) ?_
              exact ih_3 (v3_3 + 1)  (by omega) (by omega) f_3 u_3 hi_3 kk_3 htp _ _ _ hw (lv_sub hl [0, 1, 2, 3] rfl)
            · subst er_5
              have q1_5_6 := nI_inj (by omega) (by omega) q1_5_6
              subst q1_5_6
              have q1_5_7 := nI_inj (by omega) (by omega) q1_5_7
              subst q1_5_7
              refine lv_if_eq (tgt := 192) hx hb dX8_tries_143 (by decide) (fun q => absurd q (by decide)) (fun _ => ?_)
              refine lv_aload_n hx hb dX8_tries_146 rfl (lv_at hl 1 rfl) ?_
              refine lv_aload_n hx hb dX8_tries_147 rfl (lv_at hl 1 rfl) ?_
              refine gf_X8_89 cx hw dX8_tries_148 ?_
              refine lv_iload_n hx hb dX8_tries_151 rfl (lv_at hl 2 rfl) ?_
              refine aldN 59 w cx hw rfl (by omega) (by decide) dX8_tries_152 ?_
              refine topc (y := (nI n_2)) ((congrFun (kk_3.1 59 rfl) w).trans en_2) ?_
              refine lv_iload_n hx hb dX8_tries_153 rfl (lv_at hl 0 rfl) ?_
              refine goI hw (runVW (k := 36) (As := [.int (nI n_2), .int (nI v3_3)]) (rest := []) cx hw (k_X8_fitsAt l D a cI cZ f_3 u_3 n_2 v3_3  hi_3 (by omega) (by omega)) lk_X8_137 rfl rfl ⟨by show 3 + 1 ≤ 14 + (d + 1); omega, by show 8 + (7 + 11) + 56 ≤ 400 + 60 * (d + 1); omega⟩ ⟨rfl, rfl⟩ ⟨Nat.zero_le _, Nat.zero_le _⟩ rfl rfl hl.1 (Nat.le_of_ble_eq_true rfl) dX8_tries_154) (fun r_8 f_8 u_8 H locs hp_8 hw => ?_)
              obtain ⟨rfl, rfl⟩ := hp_8
              refine lv_if_eq (tgt := 163) hx hb dX8_tries_157 (by decide) (fun _ => ?_) (fun _ => ?_)
              · refine lv_aload_n hx hb dX8_tries_163 rfl (lv_at hl 1 rfl) ?_
                refine lv_aload_n hx hb dX8_tries_164 rfl (lv_at hl 1 rfl) ?_
                refine gf_X8_89 cx hw dX8_tries_165 ?_
                refine lv_iload_n hx hb dX8_tries_168 rfl (lv_at hl 2 rfl) ?_
                refine aldN 59 w cx hw rfl (by omega) (by decide) dX8_tries_169 ?_
                refine topc (y := (nI n_2)) ((congrFun (kk_3.1 59 rfl) w).trans en_2) ?_
                refine lv_iload_n hx hb dX8_tries_170 rfl (lv_at hl 0 rfl) ?_
                refine goV hw (runVW (k := 36) (As := [.int (nI n_2), .int (nI v3_3)]) (rest := []) cx hw (k_X8_put l D a cI cZ f_3 u_3 n_2 v3_3  hi_3 (by omega) (by omega)) lk_X8_145 rfl rfl ⟨by show 1 + 1 ≤ 14 + (d + 1); omega, by show 8 + (3 + 11) + 12 ≤ 400 + 60 * (d + 1); omega⟩ ⟨rfl, rfl⟩ ⟨Nat.zero_le _, Nat.zero_le _⟩ rfl rfl hl.1 (Nat.le_of_ble_eq_true rfl) dX8_tries_171) (fun f_10 u_10 H locs hp_10 hw => ?_)
                have hi_11 : IV (putM f_3 n_2 v3_3) := IV.wputM hi_3 (by omega) (by omega)
                obtain ⟨rfl, rfl⟩ := hp_10
                refine lv_aload_n hx hb dX8_tries_174 rfl (lv_at hl 1 rfl) ?_
                refine lv_iload_n hx hb dX8_tries_175 rfl (lv_at hl 2 rfl) ?_
                refine lv_iconst (v := 1) hx hb dX8_tries_176 (by decide) ?_
                refine lv_iadd hx hb dX8_tries_177 ?_
                refine topc (y := (nI (w + 1))) (nI_add w 1) ?_
                refine lv_iload_n hx hb dX8_tries_178 rfl (lv_at hl 3 rfl) ?_
                refine goV hw (runVW (k := 36) (As := [.int (nI (w + 1)), .int ar]) (rest := []) cx hw (ih (putM f_3 n_2 v3_3) u_3 (w + 1) ar cn hi_11 (TAm_dn hta htp (by omega) (by omega) (by omega) ((congrFun (kk_3.1 59 rfl) w).trans en_2)) (by omega)) lk_X8_230 rfl rfl ⟨by show (14 + d) + 1 ≤ 14 + (d + 1); omega, by show 8 + (5 + 11) + (400 + 60 * d) ≤ 400 + 60 * (d + 1); omega⟩ ⟨rfl, rfl⟩ ⟨Nat.zero_le _, Nat.zero_le _⟩ rfl rfl hl.1 (Nat.le_of_ble_eq_true rfl) dX8_tries_179) (fun f_12 u_12 H locs hp_12 hw => ?_)
                obtain ⟨hi_12, kk_12, ex0_12⟩ := hp_12
                refine lv_aload_n hx hb dX8_tries_182 rfl (lv_at hl 1 rfl) ?_
                refine lv_aload_n hx hb dX8_tries_183 rfl (lv_at hl 1 rfl) ?_
                refine gf_X8_89 cx hw dX8_tries_184 ?_
                refine lv_iload_n hx hb dX8_tries_187 rfl (lv_at hl 2 rfl) ?_
                refine aldN 59 w cx hw rfl (by omega) (by decide) dX8_tries_188 ?_
                refine topc (y := (nI n_2)) ((congrFun (kk_12.1 59 rfl) w).trans ((congrFun (kk_3.1 59 rfl) w).trans en_2)) ?_
                refine goV hw (runVW (k := 36) (As := [.int (nI n_2)]) (rest := []) cx hw (k_X8_take l D a cI cZ f_12 u_12 n_2 v3_3 hi_12 (by omega) (by omega) (TPm_at hta htp (by omega) (by omega) ((congrFun (kk_3.1 59 rfl) w).trans en_2) ex0_12)) lk_X8_149 rfl rfl ⟨by show 1 + 1 ≤ 14 + (d + 1); omega, by show 8 + (2 + 11) + 12 ≤ 400 + 60 * (d + 1); omega⟩ ⟨rfl, rfl⟩ ⟨Nat.zero_le _, Nat.zero_le _⟩ rfl rfl hl.1 (Nat.le_of_ble_eq_true rfl) dX8_tries_189) (fun f_13 u_13 H locs hp_13 hw => ?_)
                have hi_14 : IV (takeM f_12 n_2 v3_3) := IV.wtakeM hi_12
                obtain ⟨rfl, rfl⟩ := hp_13
                refine lv_iinc (v := (nI (v3_3 + 1))) (lv' := [(3, .int (nI (v3_3 + 1))), (0, .ref (a 36)), (1, .int (nI w)), (2, .int ar)]) hx hb dX8_tries_192 hl (k := 0) rfl (nI_add v3_3 1) (by decide) rfl (fun ls hl => ?_)
                refine lv_goto (tgt := 125) hx hb dX8_tries_195 (by decide) ?_
                exact ih_3 (v3_3 + 1)  (by omega) (by omega) (takeM f_12 n_2 v3_3) u_12 hi_14 (KK.wtakeM (by decide) (KK.tr (KK.wputM (by decide) kk_3) (kk_12.mono (by decide)))) (TPm_up hta htp (by omega) ((congrFun (kk_3.1 59 rfl) w).trans en_2) ex0_12) _ _ _ hw (lv_sub hl [0, 1, 2, 3] rfl)
              · refine lv_goto (tgt := 192) hx hb dX8_tries_160 (by decide) ?_
                refine lv_iinc (v := (nI (v3_3 + 1))) (lv' := [(3, .int (nI (v3_3 + 1))), (0, .ref (a 36)), (1, .int (nI w)), (2, .int ar)]) hx hb dX8_tries_192 hl (k := 0) rfl (nI_add v3_3 1) (by decide) rfl (fun ls hl => ?_)
                refine lv_goto (tgt := 125) hx hb dX8_tries_195 (by decide) ?_
                exact ih_3 (v3_3 + 1)  (by omega) (by omega) f_3 u_3 hi_3 kk_3 htp _ _ _ hw (lv_sub hl [0, 1, 2, 3] rfl)
      exact loop_3 _ 0  (by omega)  (Nat.lt_succ_self _) f u hi KK.rf (TPm_rf hta) _ _ _ hw (lv_sub hl [0, 1, 2, 3] rfl)
    · have c_1 : w = cn := (nI_eq (a := w) (b := cn) (by omega) (by omega)).mp c_1
      refine lv_aload_n hx hb dX8_tries_8 rfl (lv_at hl 0 rfl) ?_
      refine goI hw (runVW (k := 36) (As := []) (rest := []) cx hw (k_X8_pushedAll l D a cI cZ f u   hi) lk_X8_182 rfl rfl ⟨by show 2 + 1 ≤ 14 + (d + 1); omega, by show 8 + (3 + 11) + 38 ≤ 400 + 60 * (d + 1); omega⟩ ⟨rfl, rfl⟩ ⟨Nat.zero_le _, Nat.zero_le _⟩ rfl rfl hl.1 (Nat.le_of_ble_eq_true rfl) dX8_tries_9) (fun r_15 f_15 u_15 H locs hp_15 hw => ?_)
      obtain ⟨rfl, rfl⟩ := hp_15
      refine lv_istore_n (lv' := [(3, .int r_15), (0, .ref (a 36)), (1, .int (nI w)), (2, .int ar)]) hx hb dX8_tries_12 rfl hl (by decide) rfl (fun ls hl => ?_)
      refine lv_aload_n hx hb dX8_tries_13 rfl (lv_at hl 1 rfl) ?_
      refine gf_X8_224 cx hw dX8_tries_14 ?_
      refine lv_topi (fun x_16 _ => ?_)
      refine lv_iconst (v := (-1)) hx hb dX8_tries_17 (by decide) ?_
      refine lv_icmp_eq (tgt := 30) hx hb dX8_tries_18 (by decide) (fun _ => ?_) (fun _ => ?_)
      · refine lv_aload_n hx hb dX8_tries_30 rfl (lv_at hl 1 rfl) ?_
        refine lv_iload_n hx hb dX8_tries_31 rfl (lv_at hl 3 rfl) ?_
        refine lv_aload_n hx hb dX8_tries_32 rfl (lv_at hl 1 rfl) ?_
        refine goI hw (runVW (k := 36) (As := []) (rest := [.int ar, .ref (a 36)]) cx hw (k_X8_dryWeight l D a cI cZ f u   hi) lk_X8_153 rfl rfl ⟨by show 3 + 1 ≤ 14 + (d + 1); omega, by show 8 + (3 + 11) + 56 ≤ 400 + 60 * (d + 1); omega⟩ ⟨rfl, rfl⟩ ⟨Nat.zero_le _, Nat.zero_le _⟩ rfl rfl hl.1 (Nat.le_of_ble_eq_true rfl) dX8_tries_33) (fun r_18 f_18 u_18 H locs hp_18 hw => ?_)
        obtain ⟨rfl, rfl⟩ := hp_18
        refine lv_aload_n hx hb dX8_tries_36 rfl (lv_at hl 1 rfl) ?_
        refine goL hw (runVW (k := 36) (As := []) (rest := [.int r_18, .int ar, .ref (a 36)]) cx hw (k_X8_dryMoment l D a cI cZ f u   hi) lk_X8_160 rfl rfl ⟨by show 2 + 1 ≤ 14 + (d + 1); omega, by show 8 + (5 + 11) + 33 ≤ 400 + 60 * (d + 1); omega⟩ ⟨rfl, rfl⟩ ⟨Nat.zero_le _, Nat.zero_le _⟩ rfl rfl hl.1 (Nat.le_of_ble_eq_true rfl) dX8_tries_37) (fun r_19 f_19 u_19 H locs hp_19 hw => ?_)
        obtain ⟨rfl, rfl⟩ := hp_19
        refine goV hw (runVW (k := 36) (As := [.int ar, .int r_18, .long r_19]) (rest := []) cx hw (k_X8_far l D a cI cZ f u ar r_18 r_19  hi) lk_X8_192 rfl rfl ⟨by show 1 + 1 ≤ 14 + (d + 1); omega, by show 8 + (5 + 11) + 12 ≤ 400 + 60 * (d + 1); omega⟩ ⟨rfl, rfl⟩ ⟨Nat.zero_le _, Nat.zero_le _⟩ rfl rfl hl.1 (Nat.le_of_ble_eq_true rfl) dX8_tries_40) (fun f_20 u_20 H locs hp_20 hw => ?_)
        have hi_21 : IV (up f 36 (upd (f 36) 30 r_18)) := IV.u_36_30 hi
        subst hp_20
        refine lv_aload_n hx hb dX8_tries_43 rfl (lv_at hl 1 rfl) ?_
        refine gf_X8_224 cx hw dX8_tries_44 ?_
        refine lv_topi (fun x_22 _ => ?_)
        refine lv_iconst (v := (-1)) hx hb dX8_tries_47 (by decide) ?_
        refine lv_icmp_eq (tgt := 72) hx hb dX8_tries_48 (by decide) (fun _ => ?_) (fun _ => ?_)
        · refine lv_aload_n hx hb dX8_tries_72 rfl (lv_at hl 1 rfl) ?_
          refine lv_iload_n hx hb dX8_tries_73 rfl (lv_at hl 0 rfl) ?_
          refine pf_X8_224 cx hw dX8_tries_74 (fun H locs hw => ?_)
          have hi_24 : IV (up (up f 36 (upd (f 36) 30 r_18)) 36 (upd ((up f 36 (upd (f 36) 30 r_18)) 36) 37 r_15)) := IV.u_36_37 hi_21
          refine lv_aload_n hx hb dX8_tries_77 rfl (lv_at hl 1 rfl) ?_
          refine lv_aload_n hx hb dX8_tries_78 rfl (lv_at hl 1 rfl) ?_
          refine gf_X8_188 cx hw dX8_tries_79 ?_
          refine lv_topl (fun y_25 _ => ?_)
          refine pf_X8_227 cx hw dX8_tries_82 (fun H locs hw => ?_)
          refine lv_iconst (v := 0) hx hb dX8_tries_85 (by decide) ?_
          refine lv_istore (lv' := [(4, .int 0), (3, .int r_15), (0, .ref (a 36)), (1, .int (nI w)), (2, .int ar)]) hx hb dX8_tries_86 hl (by decide) rfl (fun ls hl => ?_)
          have loop_26 : ∀ (k_26 : Nat) (v4_26 : Nat), v4_26 ≤ 4 → 4 + 1 - v4_26 < k_26 → ∀ (f_26 : FF) (u_26 : UU), IV f_26 → KK [36, 42, 47, 60] f f_26 → (f_26 36 35 = f 36 35) → (f_26 47 = f 47) → (∀ j, j < v4_26 → ∃ q, q < 32 ∧ f_26 60 j = nI q) → ∀ (H : Heap) (locs : List Loc) (ls : Array Slot), Wd D a cI cZ s f_26 u_26 H locs → lv_has ls 5 [(4, .int (nI v4_26)), (3, .int r_15), (0, .ref (a 36)), (1, .int (nI w)), (2, .int ar)] → W p l e ({ frames := 14 + (d + 1), cells := 0, slots := 0, locals := 400 + 60 * (d + 1) } : Room) s m ([.ref (a 36), .int (nI w), .int ar] : List Value).toArray below meth c H locs 0 0 (MQ below (QV D a cI cZ (fun f2 u2 => IV f2 ∧ KK [36, 42, 47, 60] f f2 ∧ TPm f f2 w cn)) ([.ref (a 36), .int (nI w), .int ar] : List Value).toArray s 0 0 (AA a)) (F0 m 88 ls []) := by
            intro k_26
            induction k_26 with
            | zero => intros; omega
            | succ k_26 ih_26 =>
              intro v4_26  hb0_26  hm_26 f_26 u_26 hi_26 kk_26 h84 hpl hbp H locs ls hw hl
              refine lv_iload hx hb dX8_tries_88 (lv_at hl 0 rfl) ?_
              refine lv_aload_n hx hb dX8_tries_90 rfl (lv_at hl 2 rfl) ?_
              refine gf_X8_221 cx hw dX8_tries_91 ?_
              refine topc (y := (nI cn)) (h84.trans hta.1) ?_
              refine lv_icmp_ge (tgt := 122) hx hb dX8_tries_94 (by decide) (fun c_27 => ?_) (fun c_27 => ?_)
              · have c_27 : cn ≤ v4_26 := (nI_leI (a := cn) (b := v4_26) (by omega) (by omega)).mp c_27
                exact retV cx hw hr hk dX8_tries_122 ⟨hi_26, kk_26, h84, fun _ j hj => hbp j (by omega), kk_26.1 59 rfl, fun t _ => congrFun hpl t⟩
              · have c_27 : ¬ cn ≤ v4_26 := fun z => c_27 ((nI_leI (a := cn) (b := v4_26) (by omega) (by omega)).mpr z)
                obtain ⟨t_28, p_28, ht_28, hp_28, et_28, ep_28⟩ := hta.2.2.2.2.2 v4_26 (by omega)
                refine lv_aload_n hx hb dX8_tries_97 rfl (lv_at hl 2 rfl) ?_
                refine gf_X8_92 cx hw dX8_tries_98 ?_
                refine lv_iload hx hb dX8_tries_101 (lv_at hl 0 rfl) ?_
                refine lv_aload_n hx hb dX8_tries_103 rfl (lv_at hl 2 rfl) ?_
                refine gf_X8_49 cx hw dX8_tries_104 ?_
                refine lv_aload_n hx hb dX8_tries_107 rfl (lv_at hl 2 rfl) ?_
                refine gf_X8_89 cx hw dX8_tries_108 ?_
                refine lv_iload hx hb dX8_tries_111 (lv_at hl 0 rfl) ?_
                refine aldN 59 v4_26 cx hw rfl (by omega) (by decide) dX8_tries_113 ?_
                refine topc (y := (nI t_28)) ((congrFun (kk_26.1 59 rfl) v4_26).trans et_28) ?_
                refine aldN 47 t_28 cx hw rfl (by omega) (by decide) dX8_tries_114 ?_
                refine topc (y := (nI p_28)) ((congrFun hpl t_28).trans ep_28) ?_
                refine astN 60 v4_26 cx hw rfl ws_60 (by omega) (by decide) dX8_tries_115 (fun H locs hw => ?_)
                have hi_29 : IV (up f_26 60 (upd (f_26 60) v4_26 (nI p_28))) := IV.wr hi_26 60 trivial
                refine lv_iinc (v := (nI (v4_26 + 1))) (lv' := [(4, .int (nI (v4_26 + 1))), (3, .int r_15), (0, .ref (a 36)), (1, .int (nI w)), (2, .int ar)]) hx hb dX8_tries_116 hl (k := 0) rfl (nI_add v4_26 1) (by decide) rfl (fun ls hl => ?_)
                refine lv_goto (tgt := 88) hx hb dX8_tries_119 (by decide) ?_
                exact ih_26 (v4_26 + 1)  (by omega) (by omega) (up f_26 60 (upd (f_26 60) v4_26 (nI p_28))) u_26 hi_29 (KK.wr (by decide) (by decide) kk_26) h84 hpl (bp_st hbp (by omega)) _ _ _ hw (lv_sub hl [0, 1, 2, 3, 4] rfl)
          exact loop_26 _ 0  (by omega)  (Nat.lt_succ_self _) (up (up f 36 (upd (f 36) 30 r_18)) 36 (upd ((up f 36 (upd (f 36) 30 r_18)) 36) 37 r_15)) (upL u_20 36 38 y_25) hi_24 (KK.um (by decide) (by decide) (KK.um (by decide) (by decide) KK.rf)) rfl rfl (fun j h => absurd h (by omega)) _ _ _ hw (lv_sub hl [0, 1, 2, 3, 4] rfl)
        · refine lv_iload_n hx hb dX8_tries_51 rfl (lv_at hl 0 rfl) ?_
          refine lv_aload_n hx hb dX8_tries_52 rfl (lv_at hl 1 rfl) ?_
          refine gf_X8_224 cx hw dX8_tries_53 ?_
          refine lv_topi (fun x_30 _ => ?_)
          refine lv_icmp_ne (tgt := 72) hx hb dX8_tries_56 (by decide) (fun _ => ?_) (fun _ => ?_)
          · refine lv_aload_n hx hb dX8_tries_72 rfl (lv_at hl 1 rfl) ?_
            refine lv_iload_n hx hb dX8_tries_73 rfl (lv_at hl 0 rfl) ?_
            refine pf_X8_224 cx hw dX8_tries_74 (fun H locs hw => ?_)
            have hi_32 : IV (up (up f 36 (upd (f 36) 30 r_18)) 36 (upd ((up f 36 (upd (f 36) 30 r_18)) 36) 37 r_15)) := IV.u_36_37 hi_21
            refine lv_aload_n hx hb dX8_tries_77 rfl (lv_at hl 1 rfl) ?_
            refine lv_aload_n hx hb dX8_tries_78 rfl (lv_at hl 1 rfl) ?_
            refine gf_X8_188 cx hw dX8_tries_79 ?_
            refine lv_topl (fun y_33 _ => ?_)
            refine pf_X8_227 cx hw dX8_tries_82 (fun H locs hw => ?_)
            refine lv_iconst (v := 0) hx hb dX8_tries_85 (by decide) ?_
            refine lv_istore (lv' := [(4, .int 0), (3, .int r_15), (0, .ref (a 36)), (1, .int (nI w)), (2, .int ar)]) hx hb dX8_tries_86 hl (by decide) rfl (fun ls hl => ?_)
            have loop_34 : ∀ (k_34 : Nat) (v4_34 : Nat), v4_34 ≤ 4 → 4 + 1 - v4_34 < k_34 → ∀ (f_34 : FF) (u_34 : UU), IV f_34 → KK [36, 42, 47, 60] f f_34 → (f_34 36 35 = f 36 35) → (f_34 47 = f 47) → (∀ j, j < v4_34 → ∃ q, q < 32 ∧ f_34 60 j = nI q) → ∀ (H : Heap) (locs : List Loc) (ls : Array Slot), Wd D a cI cZ s f_34 u_34 H locs → lv_has ls 5 [(4, .int (nI v4_34)), (3, .int r_15), (0, .ref (a 36)), (1, .int (nI w)), (2, .int ar)] → W p l e ({ frames := 14 + (d + 1), cells := 0, slots := 0, locals := 400 + 60 * (d + 1) } : Room) s m ([.ref (a 36), .int (nI w), .int ar] : List Value).toArray below meth c H locs 0 0 (MQ below (QV D a cI cZ (fun f2 u2 => IV f2 ∧ KK [36, 42, 47, 60] f f2 ∧ TPm f f2 w cn)) ([.ref (a 36), .int (nI w), .int ar] : List Value).toArray s 0 0 (AA a)) (F0 m 88 ls []) := by
              intro k_34
              induction k_34 with
              | zero => intros; omega
              | succ k_34 ih_34 =>
                intro v4_34  hb0_34  hm_34 f_34 u_34 hi_34 kk_34 h84 hpl hbp H locs ls hw hl
                refine lv_iload hx hb dX8_tries_88 (lv_at hl 0 rfl) ?_
                refine lv_aload_n hx hb dX8_tries_90 rfl (lv_at hl 2 rfl) ?_
                refine gf_X8_221 cx hw dX8_tries_91 ?_
                refine topc (y := (nI cn)) (h84.trans hta.1) ?_
                refine lv_icmp_ge (tgt := 122) hx hb dX8_tries_94 (by decide) (fun c_35 => ?_) (fun c_35 => ?_)
                · have c_35 : cn ≤ v4_34 := (nI_leI (a := cn) (b := v4_34) (by omega) (by omega)).mp c_35
                  exact retV cx hw hr hk dX8_tries_122 ⟨hi_34, kk_34, h84, fun _ j hj => hbp j (by omega), kk_34.1 59 rfl, fun t _ => congrFun hpl t⟩
                · have c_35 : ¬ cn ≤ v4_34 := fun z => c_35 ((nI_leI (a := cn) (b := v4_34) (by omega) (by omega)).mpr z)
                  obtain ⟨t_36, p_36, ht_36, hp_36, et_36, ep_36⟩ := hta.2.2.2.2.2 v4_34 (by omega)
                  refine lv_aload_n hx hb dX8_tries_97 rfl (lv_at hl 2 rfl) ?_
                  refine gf_X8_92 cx hw dX8_tries_98 ?_
                  refine lv_iload hx hb dX8_tries_101 (lv_at hl 0 rfl) ?_
                  refine lv_aload_n hx hb dX8_tries_103 rfl (lv_at hl 2 rfl) ?_
                  refine gf_X8_49 cx hw dX8_tries_104 ?_
                  refine lv_aload_n hx hb dX8_tries_107 rfl (lv_at hl 2 rfl) ?_
                  refine gf_X8_89 cx hw dX8_tries_108 ?_
                  refine lv_iload hx hb dX8_tries_111 (lv_at hl 0 rfl) ?_
                  refine aldN 59 v4_34 cx hw rfl (by omega) (by decide) dX8_tries_113 ?_
                  refine topc (y := (nI t_36)) ((congrFun (kk_34.1 59 rfl) v4_34).trans et_36) ?_
                  refine aldN 47 t_36 cx hw rfl (by omega) (by decide) dX8_tries_114 ?_
                  refine topc (y := (nI p_36)) ((congrFun hpl t_36).trans ep_36) ?_
                  refine astN 60 v4_34 cx hw rfl ws_60 (by omega) (by decide) dX8_tries_115 (fun H locs hw => ?_)
                  have hi_37 : IV (up f_34 60 (upd (f_34 60) v4_34 (nI p_36))) := IV.wr hi_34 60 trivial
                  refine lv_iinc (v := (nI (v4_34 + 1))) (lv' := [(4, .int (nI (v4_34 + 1))), (3, .int r_15), (0, .ref (a 36)), (1, .int (nI w)), (2, .int ar)]) hx hb dX8_tries_116 hl (k := 0) rfl (nI_add v4_34 1) (by decide) rfl (fun ls hl => ?_)
                  refine lv_goto (tgt := 88) hx hb dX8_tries_119 (by decide) ?_
                  exact ih_34 (v4_34 + 1)  (by omega) (by omega) (up f_34 60 (upd (f_34 60) v4_34 (nI p_36))) u_34 hi_37 (KK.wr (by decide) (by decide) kk_34) h84 hpl (bp_st hbp (by omega)) _ _ _ hw (lv_sub hl [0, 1, 2, 3, 4] rfl)
            exact loop_34 _ 0  (by omega)  (Nat.lt_succ_self _) (up (up f 36 (upd (f 36) 30 r_18)) 36 (upd ((up f 36 (upd (f 36) 30 r_18)) 36) 37 r_15)) (upL u_20 36 38 y_33) hi_32 (KK.um (by decide) (by decide) (KK.um (by decide) (by decide) KK.rf)) rfl rfl (fun j h => absurd h (by omega)) _ _ _ hw (lv_sub hl [0, 1, 2, 3, 4] rfl)
          · refine lv_aload_n hx hb dX8_tries_59 rfl (lv_at hl 1 rfl) ?_
            refine gf_X8_188 cx hw dX8_tries_60 ?_
            refine lv_topl (fun y_38 _ => ?_)
            refine lv_aload_n hx hb dX8_tries_63 rfl (lv_at hl 1 rfl) ?_
            refine gf_X8_227 cx hw dX8_tries_64 ?_
            refine lv_topl (fun y_39 _ => ?_)
            refine W.lcmp hx hb dX8_tries_67 ?_
            refine lv_topi (fun x_40 _ => ?_)
            refine lv_if_lt (tgt := 72) hx hb dX8_tries_68 (by decide) (fun c_41 => ?_) (fun c_41 => ?_)
            · refine lv_aload_n hx hb dX8_tries_72 rfl (lv_at hl 1 rfl) ?_
              refine lv_iload_n hx hb dX8_tries_73 rfl (lv_at hl 0 rfl) ?_
              refine pf_X8_224 cx hw dX8_tries_74 (fun H locs hw => ?_)
              have hi_42 : IV (up (up f 36 (upd (f 36) 30 r_18)) 36 (upd ((up f 36 (upd (f 36) 30 r_18)) 36) 37 r_15)) := IV.u_36_37 hi_21
              refine lv_aload_n hx hb dX8_tries_77 rfl (lv_at hl 1 rfl) ?_
              refine lv_aload_n hx hb dX8_tries_78 rfl (lv_at hl 1 rfl) ?_
              refine gf_X8_188 cx hw dX8_tries_79 ?_
              refine lv_topl (fun y_43 _ => ?_)
              refine pf_X8_227 cx hw dX8_tries_82 (fun H locs hw => ?_)
              refine lv_iconst (v := 0) hx hb dX8_tries_85 (by decide) ?_
              refine lv_istore (lv' := [(4, .int 0), (3, .int r_15), (0, .ref (a 36)), (1, .int (nI w)), (2, .int ar)]) hx hb dX8_tries_86 hl (by decide) rfl (fun ls hl => ?_)
              have loop_44 : ∀ (k_44 : Nat) (v4_44 : Nat), v4_44 ≤ 4 → 4 + 1 - v4_44 < k_44 → ∀ (f_44 : FF) (u_44 : UU), IV f_44 → KK [36, 42, 47, 60] f f_44 → (f_44 36 35 = f 36 35) → (f_44 47 = f 47) → (∀ j, j < v4_44 → ∃ q, q < 32 ∧ f_44 60 j = nI q) → ∀ (H : Heap) (locs : List Loc) (ls : Array Slot), Wd D a cI cZ s f_44 u_44 H locs → lv_has ls 5 [(4, .int (nI v4_44)), (3, .int r_15), (0, .ref (a 36)), (1, .int (nI w)), (2, .int ar)] → W p l e ({ frames := 14 + (d + 1), cells := 0, slots := 0, locals := 400 + 60 * (d + 1) } : Room) s m ([.ref (a 36), .int (nI w), .int ar] : List Value).toArray below meth c H locs 0 0 (MQ below (QV D a cI cZ (fun f2 u2 => IV f2 ∧ KK [36, 42, 47, 60] f f2 ∧ TPm f f2 w cn)) ([.ref (a 36), .int (nI w), .int ar] : List Value).toArray s 0 0 (AA a)) (F0 m 88 ls []) := by
                intro k_44
                induction k_44 with
                | zero => intros; omega
                | succ k_44 ih_44 =>
                  intro v4_44  hb0_44  hm_44 f_44 u_44 hi_44 kk_44 h84 hpl hbp H locs ls hw hl
                  refine lv_iload hx hb dX8_tries_88 (lv_at hl 0 rfl) ?_
                  refine lv_aload_n hx hb dX8_tries_90 rfl (lv_at hl 2 rfl) ?_
                  refine gf_X8_221 cx hw dX8_tries_91 ?_
                  refine topc (y := (nI cn)) (h84.trans hta.1) ?_
                  refine lv_icmp_ge (tgt := 122) hx hb dX8_tries_94 (by decide) (fun c_45 => ?_) (fun c_45 => ?_)
                  · have c_45 : cn ≤ v4_44 := (nI_leI (a := cn) (b := v4_44) (by omega) (by omega)).mp c_45
                    exact retV cx hw hr hk dX8_tries_122 ⟨hi_44, kk_44, h84, fun _ j hj => hbp j (by omega), kk_44.1 59 rfl, fun t _ => congrFun hpl t⟩
                  · have c_45 : ¬ cn ≤ v4_44 := fun z => c_45 ((nI_leI (a := cn) (b := v4_44) (by omega) (by omega)).mpr z)
                    obtain ⟨t_46, p_46, ht_46, hp_46, et_46, ep_46⟩ := hta.2.2.2.2.2 v4_44 (by omega)
                    refine lv_aload_n hx hb dX8_tries_97 rfl (lv_at hl 2 rfl) ?_
                    refine gf_X8_92 cx hw dX8_tries_98 ?_
                    refine lv_iload hx hb dX8_tries_101 (lv_at hl 0 rfl) ?_
                    refine lv_aload_n hx hb dX8_tries_103 rfl (lv_at hl 2 rfl) ?_
                    refine gf_X8_49 cx hw dX8_tries_104 ?_
                    refine lv_aload_n hx hb dX8_tries_107 rfl (lv_at hl 2 rfl) ?_
                    refine gf_X8_89 cx hw dX8_tries_108 ?_
                    refine lv_iload hx hb dX8_tries_111 (lv_at hl 0 rfl) ?_
                    refine aldN 59 v4_44 cx hw rfl (by omega) (by decide) dX8_tries_113 ?_
                    refine topc (y := (nI t_46)) ((congrFun (kk_44.1 59 rfl) v4_44).trans et_46) ?_
                    refine aldN 47 t_46 cx hw rfl (by omega) (by decide) dX8_tries_114 ?_
                    refine topc (y := (nI p_46)) ((congrFun hpl t_46).trans ep_46) ?_
                    refine astN 60 v4_44 cx hw rfl ws_60 (by omega) (by decide) dX8_tries_115 (fun H locs hw => ?_)
                    have hi_47 : IV (up f_44 60 (upd (f_44 60) v4_44 (nI p_46))) := IV.wr hi_44 60 trivial
                    refine lv_iinc (v := (nI (v4_44 + 1))) (lv' := [(4, .int (nI (v4_44 + 1))), (3, .int r_15), (0, .ref (a 36)), (1, .int (nI w)), (2, .int ar)]) hx hb dX8_tries_116 hl (k := 0) rfl (nI_add v4_44 1) (by decide) rfl (fun ls hl => ?_)
                    refine lv_goto (tgt := 88) hx hb dX8_tries_119 (by decide) ?_
                    exact ih_44 (v4_44 + 1)  (by omega) (by omega) (up f_44 60 (upd (f_44 60) v4_44 (nI p_46))) u_44 hi_47 (KK.wr (by decide) (by decide) kk_44) h84 hpl (bp_st hbp (by omega)) _ _ _ hw (lv_sub hl [0, 1, 2, 3, 4] rfl)
              exact loop_44 _ 0  (by omega)  (Nat.lt_succ_self _) (up (up f 36 (upd (f 36) 30 r_18)) 36 (upd ((up f 36 (upd (f 36) 30 r_18)) 36) 37 r_15)) (upL u_20 36 38 y_43) hi_42 (KK.um (by decide) (by decide) (KK.um (by decide) (by decide) KK.rf)) rfl rfl (fun j h => absurd h (by omega)) _ _ _ hw (lv_sub hl [0, 1, 2, 3, 4] rfl)
            · exact retV cx hw hr hk dX8_tries_71 ⟨hi_21, (KK.um (by decide) (by decide) KK.rf), rfl, hta.2.2.2.2.1, rfl, fun t _ => rfl⟩
      · refine lv_iload_n hx hb dX8_tries_21 rfl (lv_at hl 0 rfl) ?_
        refine lv_aload_n hx hb dX8_tries_22 rfl (lv_at hl 1 rfl) ?_
        refine gf_X8_224 cx hw dX8_tries_23 ?_
        refine lv_topi (fun x_48 _ => ?_)
        refine lv_icmp_le (tgt := 30) hx hb dX8_tries_26 (by decide) (fun _ => ?_) (fun _ => ?_)
        · refine lv_aload_n hx hb dX8_tries_30 rfl (lv_at hl 1 rfl) ?_
          refine lv_iload_n hx hb dX8_tries_31 rfl (lv_at hl 3 rfl) ?_
          refine lv_aload_n hx hb dX8_tries_32 rfl (lv_at hl 1 rfl) ?_
          refine goI hw (runVW (k := 36) (As := []) (rest := [.int ar, .ref (a 36)]) cx hw (k_X8_dryWeight l D a cI cZ f u   hi) lk_X8_153 rfl rfl ⟨by show 3 + 1 ≤ 14 + (d + 1); omega, by show 8 + (3 + 11) + 56 ≤ 400 + 60 * (d + 1); omega⟩ ⟨rfl, rfl⟩ ⟨Nat.zero_le _, Nat.zero_le _⟩ rfl rfl hl.1 (Nat.le_of_ble_eq_true rfl) dX8_tries_33) (fun r_50 f_50 u_50 H locs hp_50 hw => ?_)
          obtain ⟨rfl, rfl⟩ := hp_50
          refine lv_aload_n hx hb dX8_tries_36 rfl (lv_at hl 1 rfl) ?_
          refine goL hw (runVW (k := 36) (As := []) (rest := [.int r_50, .int ar, .ref (a 36)]) cx hw (k_X8_dryMoment l D a cI cZ f u   hi) lk_X8_160 rfl rfl ⟨by show 2 + 1 ≤ 14 + (d + 1); omega, by show 8 + (5 + 11) + 33 ≤ 400 + 60 * (d + 1); omega⟩ ⟨rfl, rfl⟩ ⟨Nat.zero_le _, Nat.zero_le _⟩ rfl rfl hl.1 (Nat.le_of_ble_eq_true rfl) dX8_tries_37) (fun r_51 f_51 u_51 H locs hp_51 hw => ?_)
          obtain ⟨rfl, rfl⟩ := hp_51
          refine goV hw (runVW (k := 36) (As := [.int ar, .int r_50, .long r_51]) (rest := []) cx hw (k_X8_far l D a cI cZ f u ar r_50 r_51  hi) lk_X8_192 rfl rfl ⟨by show 1 + 1 ≤ 14 + (d + 1); omega, by show 8 + (5 + 11) + 12 ≤ 400 + 60 * (d + 1); omega⟩ ⟨rfl, rfl⟩ ⟨Nat.zero_le _, Nat.zero_le _⟩ rfl rfl hl.1 (Nat.le_of_ble_eq_true rfl) dX8_tries_40) (fun f_52 u_52 H locs hp_52 hw => ?_)
          have hi_53 : IV (up f 36 (upd (f 36) 30 r_50)) := IV.u_36_30 hi
          subst hp_52
          refine lv_aload_n hx hb dX8_tries_43 rfl (lv_at hl 1 rfl) ?_
          refine gf_X8_224 cx hw dX8_tries_44 ?_
          refine lv_topi (fun x_54 _ => ?_)
          refine lv_iconst (v := (-1)) hx hb dX8_tries_47 (by decide) ?_
          refine lv_icmp_eq (tgt := 72) hx hb dX8_tries_48 (by decide) (fun _ => ?_) (fun _ => ?_)
          · refine lv_aload_n hx hb dX8_tries_72 rfl (lv_at hl 1 rfl) ?_
            refine lv_iload_n hx hb dX8_tries_73 rfl (lv_at hl 0 rfl) ?_
            refine pf_X8_224 cx hw dX8_tries_74 (fun H locs hw => ?_)
            have hi_56 : IV (up (up f 36 (upd (f 36) 30 r_50)) 36 (upd ((up f 36 (upd (f 36) 30 r_50)) 36) 37 r_15)) := IV.u_36_37 hi_53
            refine lv_aload_n hx hb dX8_tries_77 rfl (lv_at hl 1 rfl) ?_
            refine lv_aload_n hx hb dX8_tries_78 rfl (lv_at hl 1 rfl) ?_
            refine gf_X8_188 cx hw dX8_tries_79 ?_
            refine lv_topl (fun y_57 _ => ?_)
            refine pf_X8_227 cx hw dX8_tries_82 (fun H locs hw => ?_)
            refine lv_iconst (v := 0) hx hb dX8_tries_85 (by decide) ?_
            refine lv_istore (lv' := [(4, .int 0), (3, .int r_15), (0, .ref (a 36)), (1, .int (nI w)), (2, .int ar)]) hx hb dX8_tries_86 hl (by decide) rfl (fun ls hl => ?_)
            have loop_58 : ∀ (k_58 : Nat) (v4_58 : Nat), v4_58 ≤ 4 → 4 + 1 - v4_58 < k_58 → ∀ (f_58 : FF) (u_58 : UU), IV f_58 → KK [36, 42, 47, 60] f f_58 → (f_58 36 35 = f 36 35) → (f_58 47 = f 47) → (∀ j, j < v4_58 → ∃ q, q < 32 ∧ f_58 60 j = nI q) → ∀ (H : Heap) (locs : List Loc) (ls : Array Slot), Wd D a cI cZ s f_58 u_58 H locs → lv_has ls 5 [(4, .int (nI v4_58)), (3, .int r_15), (0, .ref (a 36)), (1, .int (nI w)), (2, .int ar)] → W p l e ({ frames := 14 + (d + 1), cells := 0, slots := 0, locals := 400 + 60 * (d + 1) } : Room) s m ([.ref (a 36), .int (nI w), .int ar] : List Value).toArray below meth c H locs 0 0 (MQ below (QV D a cI cZ (fun f2 u2 => IV f2 ∧ KK [36, 42, 47, 60] f f2 ∧ TPm f f2 w cn)) ([.ref (a 36), .int (nI w), .int ar] : List Value).toArray s 0 0 (AA a)) (F0 m 88 ls []) := by
              intro k_58
              induction k_58 with
              | zero => intros; omega
              | succ k_58 ih_58 =>
                intro v4_58  hb0_58  hm_58 f_58 u_58 hi_58 kk_58 h84 hpl hbp H locs ls hw hl
                refine lv_iload hx hb dX8_tries_88 (lv_at hl 0 rfl) ?_
                refine lv_aload_n hx hb dX8_tries_90 rfl (lv_at hl 2 rfl) ?_
                refine gf_X8_221 cx hw dX8_tries_91 ?_
                refine topc (y := (nI cn)) (h84.trans hta.1) ?_
                refine lv_icmp_ge (tgt := 122) hx hb dX8_tries_94 (by decide) (fun c_59 => ?_) (fun c_59 => ?_)
                · have c_59 : cn ≤ v4_58 := (nI_leI (a := cn) (b := v4_58) (by omega) (by omega)).mp c_59
                  exact retV cx hw hr hk dX8_tries_122 ⟨hi_58, kk_58, h84, fun _ j hj => hbp j (by omega), kk_58.1 59 rfl, fun t _ => congrFun hpl t⟩
                · have c_59 : ¬ cn ≤ v4_58 := fun z => c_59 ((nI_leI (a := cn) (b := v4_58) (by omega) (by omega)).mpr z)
                  obtain ⟨t_60, p_60, ht_60, hp_60, et_60, ep_60⟩ := hta.2.2.2.2.2 v4_58 (by omega)
                  refine lv_aload_n hx hb dX8_tries_97 rfl (lv_at hl 2 rfl) ?_
                  refine gf_X8_92 cx hw dX8_tries_98 ?_
                  refine lv_iload hx hb dX8_tries_101 (lv_at hl 0 rfl) ?_
                  refine lv_aload_n hx hb dX8_tries_103 rfl (lv_at hl 2 rfl) ?_
                  refine gf_X8_49 cx hw dX8_tries_104 ?_
                  refine lv_aload_n hx hb dX8_tries_107 rfl (lv_at hl 2 rfl) ?_
                  refine gf_X8_89 cx hw dX8_tries_108 ?_
                  refine lv_iload hx hb dX8_tries_111 (lv_at hl 0 rfl) ?_
                  refine aldN 59 v4_58 cx hw rfl (by omega) (by decide) dX8_tries_113 ?_
                  refine topc (y := (nI t_60)) ((congrFun (kk_58.1 59 rfl) v4_58).trans et_60) ?_
                  refine aldN 47 t_60 cx hw rfl (by omega) (by decide) dX8_tries_114 ?_
                  refine topc (y := (nI p_60)) ((congrFun hpl t_60).trans ep_60) ?_
                  refine astN 60 v4_58 cx hw rfl ws_60 (by omega) (by decide) dX8_tries_115 (fun H locs hw => ?_)
                  have hi_61 : IV (up f_58 60 (upd (f_58 60) v4_58 (nI p_60))) := IV.wr hi_58 60 trivial
                  refine lv_iinc (v := (nI (v4_58 + 1))) (lv' := [(4, .int (nI (v4_58 + 1))), (3, .int r_15), (0, .ref (a 36)), (1, .int (nI w)), (2, .int ar)]) hx hb dX8_tries_116 hl (k := 0) rfl (nI_add v4_58 1) (by decide) rfl (fun ls hl => ?_)
                  refine lv_goto (tgt := 88) hx hb dX8_tries_119 (by decide) ?_
                  exact ih_58 (v4_58 + 1)  (by omega) (by omega) (up f_58 60 (upd (f_58 60) v4_58 (nI p_60))) u_58 hi_61 (KK.wr (by decide) (by decide) kk_58) h84 hpl (bp_st hbp (by omega)) _ _ _ hw (lv_sub hl [0, 1, 2, 3, 4] rfl)
            exact loop_58 _ 0  (by omega)  (Nat.lt_succ_self _) (up (up f 36 (upd (f 36) 30 r_50)) 36 (upd ((up f 36 (upd (f 36) 30 r_50)) 36) 37 r_15)) (upL u_52 36 38 y_57) hi_56 (KK.um (by decide) (by decide) (KK.um (by decide) (by decide) KK.rf)) rfl rfl (fun j h => absurd h (by omega)) _ _ _ hw (lv_sub hl [0, 1, 2, 3, 4] rfl)
          · refine lv_iload_n hx hb dX8_tries_51 rfl (lv_at hl 0 rfl) ?_
            refine lv_aload_n hx hb dX8_tries_52 rfl (lv_at hl 1 rfl) ?_
            refine gf_X8_224 cx hw dX8_tries_53 ?_
            refine lv_topi (fun x_62 _ => ?_)
            refine lv_icmp_ne (tgt := 72) hx hb dX8_tries_56 (by decide) (fun _ => ?_) (fun _ => ?_)
            · refine lv_aload_n hx hb dX8_tries_72 rfl (lv_at hl 1 rfl) ?_
              refine lv_iload_n hx hb dX8_tries_73 rfl (lv_at hl 0 rfl) ?_
              refine pf_X8_224 cx hw dX8_tries_74 (fun H locs hw => ?_)
              have hi_64 : IV (up (up f 36 (upd (f 36) 30 r_50)) 36 (upd ((up f 36 (upd (f 36) 30 r_50)) 36) 37 r_15)) := IV.u_36_37 hi_53
              refine lv_aload_n hx hb dX8_tries_77 rfl (lv_at hl 1 rfl) ?_
              refine lv_aload_n hx hb dX8_tries_78 rfl (lv_at hl 1 rfl) ?_
              refine gf_X8_188 cx hw dX8_tries_79 ?_
              refine lv_topl (fun y_65 _ => ?_)
              refine pf_X8_227 cx hw dX8_tries_82 (fun H locs hw => ?_)
              refine lv_iconst (v := 0) hx hb dX8_tries_85 (by decide) ?_
              refine lv_istore (lv' := [(4, .int 0), (3, .int r_15), (0, .ref (a 36)), (1, .int (nI w)), (2, .int ar)]) hx hb dX8_tries_86 hl (by decide) rfl (fun ls hl => ?_)
              have loop_66 : ∀ (k_66 : Nat) (v4_66 : Nat), v4_66 ≤ 4 → 4 + 1 - v4_66 < k_66 → ∀ (f_66 : FF) (u_66 : UU), IV f_66 → KK [36, 42, 47, 60] f f_66 → (f_66 36 35 = f 36 35) → (f_66 47 = f 47) → (∀ j, j < v4_66 → ∃ q, q < 32 ∧ f_66 60 j = nI q) → ∀ (H : Heap) (locs : List Loc) (ls : Array Slot), Wd D a cI cZ s f_66 u_66 H locs → lv_has ls 5 [(4, .int (nI v4_66)), (3, .int r_15), (0, .ref (a 36)), (1, .int (nI w)), (2, .int ar)] → W p l e ({ frames := 14 + (d + 1), cells := 0, slots := 0, locals := 400 + 60 * (d + 1) } : Room) s m ([.ref (a 36), .int (nI w), .int ar] : List Value).toArray below meth c H locs 0 0 (MQ below (QV D a cI cZ (fun f2 u2 => IV f2 ∧ KK [36, 42, 47, 60] f f2 ∧ TPm f f2 w cn)) ([.ref (a 36), .int (nI w), .int ar] : List Value).toArray s 0 0 (AA a)) (F0 m 88 ls []) := by
                intro k_66
                induction k_66 with
                | zero => intros; omega
                | succ k_66 ih_66 =>
                  intro v4_66  hb0_66  hm_66 f_66 u_66 hi_66 kk_66 h84 hpl hbp H locs ls hw hl
                  refine lv_iload hx hb dX8_tries_88 (lv_at hl 0 rfl) ?_
                  refine lv_aload_n hx hb dX8_tries_90 rfl (lv_at hl 2 rfl) ?_
                  refine gf_X8_221 cx hw dX8_tries_91 ?_
                  refine topc (y := (nI cn)) (h84.trans hta.1) ?_
                  refine lv_icmp_ge (tgt := 122) hx hb dX8_tries_94 (by decide) (fun c_67 => ?_) (fun c_67 => ?_)
                  · have c_67 : cn ≤ v4_66 := (nI_leI (a := cn) (b := v4_66) (by omega) (by omega)).mp c_67
                    exact retV cx hw hr hk dX8_tries_122 ⟨hi_66, kk_66, h84, fun _ j hj => hbp j (by omega), kk_66.1 59 rfl, fun t _ => congrFun hpl t⟩
                  · have c_67 : ¬ cn ≤ v4_66 := fun z => c_67 ((nI_leI (a := cn) (b := v4_66) (by omega) (by omega)).mpr z)
                    obtain ⟨t_68, p_68, ht_68, hp_68, et_68, ep_68⟩ := hta.2.2.2.2.2 v4_66 (by omega)
                    refine lv_aload_n hx hb dX8_tries_97 rfl (lv_at hl 2 rfl) ?_
                    refine gf_X8_92 cx hw dX8_tries_98 ?_
                    refine lv_iload hx hb dX8_tries_101 (lv_at hl 0 rfl) ?_
                    refine lv_aload_n hx hb dX8_tries_103 rfl (lv_at hl 2 rfl) ?_
                    refine gf_X8_49 cx hw dX8_tries_104 ?_
                    refine lv_aload_n hx hb dX8_tries_107 rfl (lv_at hl 2 rfl) ?_
                    refine gf_X8_89 cx hw dX8_tries_108 ?_
                    refine lv_iload hx hb dX8_tries_111 (lv_at hl 0 rfl) ?_
                    refine aldN 59 v4_66 cx hw rfl (by omega) (by decide) dX8_tries_113 ?_
                    refine topc (y := (nI t_68)) ((congrFun (kk_66.1 59 rfl) v4_66).trans et_68) ?_
                    refine aldN 47 t_68 cx hw rfl (by omega) (by decide) dX8_tries_114 ?_
                    refine topc (y := (nI p_68)) ((congrFun hpl t_68).trans ep_68) ?_
                    refine astN 60 v4_66 cx hw rfl ws_60 (by omega) (by decide) dX8_tries_115 (fun H locs hw => ?_)
                    have hi_69 : IV (up f_66 60 (upd (f_66 60) v4_66 (nI p_68))) := IV.wr hi_66 60 trivial
                    refine lv_iinc (v := (nI (v4_66 + 1))) (lv' := [(4, .int (nI (v4_66 + 1))), (3, .int r_15), (0, .ref (a 36)), (1, .int (nI w)), (2, .int ar)]) hx hb dX8_tries_116 hl (k := 0) rfl (nI_add v4_66 1) (by decide) rfl (fun ls hl => ?_)
                    refine lv_goto (tgt := 88) hx hb dX8_tries_119 (by decide) ?_
                    exact ih_66 (v4_66 + 1)  (by omega) (by omega) (up f_66 60 (upd (f_66 60) v4_66 (nI p_68))) u_66 hi_69 (KK.wr (by decide) (by decide) kk_66) h84 hpl (bp_st hbp (by omega)) _ _ _ hw (lv_sub hl [0, 1, 2, 3, 4] rfl)
              exact loop_66 _ 0  (by omega)  (Nat.lt_succ_self _) (up (up f 36 (upd (f 36) 30 r_50)) 36 (upd ((up f 36 (upd (f 36) 30 r_50)) 36) 37 r_15)) (upL u_52 36 38 y_65) hi_64 (KK.um (by decide) (by decide) (KK.um (by decide) (by decide) KK.rf)) rfl rfl (fun j h => absurd h (by omega)) _ _ _ hw (lv_sub hl [0, 1, 2, 3, 4] rfl)
            · refine lv_aload_n hx hb dX8_tries_59 rfl (lv_at hl 1 rfl) ?_
              refine gf_X8_188 cx hw dX8_tries_60 ?_
              refine lv_topl (fun y_70 _ => ?_)
              refine lv_aload_n hx hb dX8_tries_63 rfl (lv_at hl 1 rfl) ?_
              refine gf_X8_227 cx hw dX8_tries_64 ?_
              refine lv_topl (fun y_71 _ => ?_)
              refine W.lcmp hx hb dX8_tries_67 ?_
              refine lv_topi (fun x_72 _ => ?_)
              refine lv_if_lt (tgt := 72) hx hb dX8_tries_68 (by decide) (fun c_73 => ?_) (fun c_73 => ?_)
              · refine lv_aload_n hx hb dX8_tries_72 rfl (lv_at hl 1 rfl) ?_
                refine lv_iload_n hx hb dX8_tries_73 rfl (lv_at hl 0 rfl) ?_
                refine pf_X8_224 cx hw dX8_tries_74 (fun H locs hw => ?_)
                have hi_74 : IV (up (up f 36 (upd (f 36) 30 r_50)) 36 (upd ((up f 36 (upd (f 36) 30 r_50)) 36) 37 r_15)) := IV.u_36_37 hi_53
                refine lv_aload_n hx hb dX8_tries_77 rfl (lv_at hl 1 rfl) ?_
                refine lv_aload_n hx hb dX8_tries_78 rfl (lv_at hl 1 rfl) ?_
                refine gf_X8_188 cx hw dX8_tries_79 ?_
                refine lv_topl (fun y_75 _ => ?_)
                refine pf_X8_227 cx hw dX8_tries_82 (fun H locs hw => ?_)
                refine lv_iconst (v := 0) hx hb dX8_tries_85 (by decide) ?_
                refine lv_istore (lv' := [(4, .int 0), (3, .int r_15), (0, .ref (a 36)), (1, .int (nI w)), (2, .int ar)]) hx hb dX8_tries_86 hl (by decide) rfl (fun ls hl => ?_)
                have loop_76 : ∀ (k_76 : Nat) (v4_76 : Nat), v4_76 ≤ 4 → 4 + 1 - v4_76 < k_76 → ∀ (f_76 : FF) (u_76 : UU), IV f_76 → KK [36, 42, 47, 60] f f_76 → (f_76 36 35 = f 36 35) → (f_76 47 = f 47) → (∀ j, j < v4_76 → ∃ q, q < 32 ∧ f_76 60 j = nI q) → ∀ (H : Heap) (locs : List Loc) (ls : Array Slot), Wd D a cI cZ s f_76 u_76 H locs → lv_has ls 5 [(4, .int (nI v4_76)), (3, .int r_15), (0, .ref (a 36)), (1, .int (nI w)), (2, .int ar)] → W p l e ({ frames := 14 + (d + 1), cells := 0, slots := 0, locals := 400 + 60 * (d + 1) } : Room) s m ([.ref (a 36), .int (nI w), .int ar] : List Value).toArray below meth c H locs 0 0 (MQ below (QV D a cI cZ (fun f2 u2 => IV f2 ∧ KK [36, 42, 47, 60] f f2 ∧ TPm f f2 w cn)) ([.ref (a 36), .int (nI w), .int ar] : List Value).toArray s 0 0 (AA a)) (F0 m 88 ls []) := by
                  intro k_76
                  induction k_76 with
                  | zero => intros; omega
                  | succ k_76 ih_76 =>
                    intro v4_76  hb0_76  hm_76 f_76 u_76 hi_76 kk_76 h84 hpl hbp H locs ls hw hl
                    refine lv_iload hx hb dX8_tries_88 (lv_at hl 0 rfl) ?_
                    refine lv_aload_n hx hb dX8_tries_90 rfl (lv_at hl 2 rfl) ?_
                    refine gf_X8_221 cx hw dX8_tries_91 ?_
                    refine topc (y := (nI cn)) (h84.trans hta.1) ?_
                    refine lv_icmp_ge (tgt := 122) hx hb dX8_tries_94 (by decide) (fun c_77 => ?_) (fun c_77 => ?_)
                    · have c_77 : cn ≤ v4_76 := (nI_leI (a := cn) (b := v4_76) (by omega) (by omega)).mp c_77
                      exact retV cx hw hr hk dX8_tries_122 ⟨hi_76, kk_76, h84, fun _ j hj => hbp j (by omega), kk_76.1 59 rfl, fun t _ => congrFun hpl t⟩
                    · have c_77 : ¬ cn ≤ v4_76 := fun z => c_77 ((nI_leI (a := cn) (b := v4_76) (by omega) (by omega)).mpr z)
                      obtain ⟨t_78, p_78, ht_78, hp_78, et_78, ep_78⟩ := hta.2.2.2.2.2 v4_76 (by omega)
                      refine lv_aload_n hx hb dX8_tries_97 rfl (lv_at hl 2 rfl) ?_
                      refine gf_X8_92 cx hw dX8_tries_98 ?_
                      refine lv_iload hx hb dX8_tries_101 (lv_at hl 0 rfl) ?_
                      refine lv_aload_n hx hb dX8_tries_103 rfl (lv_at hl 2 rfl) ?_
                      refine gf_X8_49 cx hw dX8_tries_104 ?_
                      refine lv_aload_n hx hb dX8_tries_107 rfl (lv_at hl 2 rfl) ?_
                      refine gf_X8_89 cx hw dX8_tries_108 ?_
                      refine lv_iload hx hb dX8_tries_111 (lv_at hl 0 rfl) ?_
                      refine aldN 59 v4_76 cx hw rfl (by omega) (by decide) dX8_tries_113 ?_
                      refine topc (y := (nI t_78)) ((congrFun (kk_76.1 59 rfl) v4_76).trans et_78) ?_
                      refine aldN 47 t_78 cx hw rfl (by omega) (by decide) dX8_tries_114 ?_
                      refine topc (y := (nI p_78)) ((congrFun hpl t_78).trans ep_78) ?_
                      refine astN 60 v4_76 cx hw rfl ws_60 (by omega) (by decide) dX8_tries_115 (fun H locs hw => ?_)
                      have hi_79 : IV (up f_76 60 (upd (f_76 60) v4_76 (nI p_78))) := IV.wr hi_76 60 trivial
                      refine lv_iinc (v := (nI (v4_76 + 1))) (lv' := [(4, .int (nI (v4_76 + 1))), (3, .int r_15), (0, .ref (a 36)), (1, .int (nI w)), (2, .int ar)]) hx hb dX8_tries_116 hl (k := 0) rfl (nI_add v4_76 1) (by decide) rfl (fun ls hl => ?_)
                      refine lv_goto (tgt := 88) hx hb dX8_tries_119 (by decide) ?_
                      exact ih_76 (v4_76 + 1)  (by omega) (by omega) (up f_76 60 (upd (f_76 60) v4_76 (nI p_78))) u_76 hi_79 (KK.wr (by decide) (by decide) kk_76) h84 hpl (bp_st hbp (by omega)) _ _ _ hw (lv_sub hl [0, 1, 2, 3, 4] rfl)
                exact loop_76 _ 0  (by omega)  (Nat.lt_succ_self _) (up (up f 36 (upd (f 36) 30 r_50)) 36 (upd ((up f 36 (upd (f 36) 30 r_50)) 36) 37 r_15)) (upL u_52 36 38 y_75) hi_74 (KK.um (by decide) (by decide) (KK.um (by decide) (by decide) KK.rf)) rfl rfl (fun j h => absurd h (by omega)) _ _ _ hw (lv_sub hl [0, 1, 2, 3, 4] rfl)
              · exact retV cx hw hr hk dX8_tries_71 ⟨hi_53, (KK.um (by decide) (by decide) KK.rf), rfl, hta.2.2.2.2.1, rfl, fun t _ => rfl⟩
        · exact retV cx hw hr hk dX8_tries_29 ⟨hi, KK.rf, TPm_rf hta⟩

set_option maxHeartbeats 4000000 in
set_option maxRecDepth 100000 in
theorem k_X8_best (l : Launch) (D : va_G) (a : Nat → Nat) (cI cZ : ClassId) (f : FF) (u : UU) (ar : Int32) (hi : IV f)  : KI l yX8_best cX8_best 4 (some .int) ({ frames := 21, cells := 0, slots := 0, locals := 784 } : Room) D a cI cZ [.ref (a 36), .int ar] f u (fun r f2 u2 => IV f2 ∧ KK [36, 42, 47, 59, 60] f f2) := by
  refine KX.of (by decide) (Nat.le_of_ble_eq_true rfl) ?_
  intro p e s m below meth c cx hw hr hk ls hl
  have cx : Cx p s m _ c cX8_best RX8 4 D cI cZ := cx
  have hl : lv_has ls 4 [(0, .ref (a 36)), (1, .int ar)] := hl
  have hx := cx.1.1
  have hb := cx.1.2.1
  refine lv_iload_n hx hb dX8_best_0 rfl (lv_at hl 1 rfl) ?_
  refine goI hw (runSW (As := [.int ar]) (rest := []) cx hw (c_X8_isArm l D a cI cZ f u ar  ) lk_X8_110 ⟨Nat.le_of_ble_eq_true rfl, Nat.le_of_ble_eq_true rfl⟩ ⟨rfl, rfl⟩ ⟨Nat.zero_le _, Nat.zero_le _⟩ rfl rfl hl.1 (Nat.le_of_ble_eq_true rfl) dX8_best_1) (fun r_1 f_1 u_1 H locs hp_1 hw => ?_)
  obtain ⟨rfl, rfl, e_1⟩ := hp_1
  refine topc e_1 ?_
  refine lv_if_ne (tgt := 10) hx hb dX8_best_4 (by decide) (fun c_2 => ?_) (fun c_2 => ?_)
  · obtain ⟨t_2, ht_2, et_2⟩ := rg_nat (n := 5000) rfl c_2
    subst et_2
    refine lv_iconst (v := 0) hx hb dX8_best_10 (by decide) ?_
    refine lv_istore_n (lv' := [(2, .int 0), (0, .ref (a 36)), (1, .int (nI t_2))]) hx hb dX8_best_11 rfl hl (by decide) rfl (fun ls hl => ?_)
    refine lv_iconst (v := 0) hx hb dX8_best_12 (by decide) ?_
    refine lv_istore_n (lv' := [(3, .int 0), (2, .int 0), (0, .ref (a 36)), (1, .int (nI t_2))]) hx hb dX8_best_13 rfl hl (by decide) rfl (fun ls hl => ?_)
    have loop_3 : ∀ (k_3 : Nat) (v3_3 : Nat) (v2_3 : Int32), v3_3 ≤ 32 → 32 + 1 - v3_3 < k_3 → ∀ (H : Heap) (locs : List Loc) (ls : Array Slot), Wd D a cI cZ s f u H locs → lv_has ls 4 [(3, .int (nI v3_3)), (2, .int v2_3), (0, .ref (a 36)), (1, .int (nI t_2))] → W p l e ({ frames := 21, cells := 0, slots := 0, locals := 784 } : Room) s m ([.ref (a 36), .int (nI t_2)] : List Value).toArray below meth c H locs 0 0 (MQ below (QI D a cI cZ (fun r f2 u2 => IV f2 ∧ KK [36, 42, 47, 59, 60] f f2)) ([.ref (a 36), .int (nI t_2)] : List Value).toArray s 0 0 (AA a)) (F0 m 14 ls []) := by
      intro k_3
      induction k_3 with
      | zero => intros; omega
      | succ k_3 ih_3 =>
        intro v3_3 v2_3  hb0_3  hm_3  H locs ls hw hl
        refine lv_iload_n hx hb dX8_best_14 rfl (lv_at hl 0 rfl) ?_
        refine lv_bipush (v := 32) hx hb dX8_best_15 (by decide) ?_
        refine lv_icmp_ge (tgt := 59) hx hb dX8_best_17 (by decide) (fun c_4 => ?_) (fun c_4 => ?_)
        · have c_4 : 32 ≤ v3_3 := (nI_leI (a := 32) (b := v3_3) (by omega) (by omega)).mp c_4
          refine lv_aload_n hx hb dX8_best_59 rfl (lv_at hl 2 rfl) ?_
          refine lv_iconst (v := 0) hx hb dX8_best_60 (by decide) ?_
          refine pf_X8_221 cx hw dX8_best_61 (fun H locs hw => ?_)
          have hi_5 : IV (up f 36 (upd (f 36) 35 0)) := IV.t_36_35 hi (okc_n (j := 0) (by omega))
          refine lv_iconst (v := 0) hx hb dX8_best_64 (by decide) ?_
          refine lv_istore_n (lv' := [(3, .int 0), (2, .int v2_3), (0, .ref (a 36)), (1, .int (nI t_2))]) hx hb dX8_best_65 rfl hl (by decide) rfl (fun ls hl => ?_)
          have loop_6 : ∀ (k_6 : Nat) (v3_6 : Nat), v3_6 ≤ 40 → 40 + 1 - v3_6 < k_6 → ∀ (f_6 : FF) (u_6 : UU), IV f_6 → KK [36, 42, 47, 59, 60] f f_6 → (LWm f_6 v3_6) → ∀ (H : Heap) (locs : List Loc) (ls : Array Slot), Wd D a cI cZ s f_6 u_6 H locs → lv_has ls 4 [(3, .int (nI v3_6)), (2, .int v2_3), (0, .ref (a 36)), (1, .int (nI t_2))] → W p l e ({ frames := 21, cells := 0, slots := 0, locals := 784 } : Room) s m ([.ref (a 36), .int (nI t_2)] : List Value).toArray below meth c H locs 0 0 (MQ below (QI D a cI cZ (fun r f2 u2 => IV f2 ∧ KK [36, 42, 47, 59, 60] f f2)) ([.ref (a 36), .int (nI t_2)] : List Value).toArray s 0 0 (AA a)) (F0 m 66 ls []) := by
            intro k_6
            induction k_6 with
            | zero => intros; omega
            | succ k_6 ih_6 =>
              intro v3_6  hb0_6  hm_6 f_6 u_6 hi_6 kk_6 hlw H locs ls hw hl
              obtain ⟨w_7, hw_7, ew_7, hA_7, hB_7⟩ := hlw
              refine lv_iload_n hx hb dX8_best_66 rfl (lv_at hl 0 rfl) ?_
              refine lv_aload_n hx hb dX8_best_67 rfl (lv_at hl 2 rfl) ?_
              refine gf_X8_106 cx hw dX8_best_68 ?_
              obtain ⟨n_8, hn_8, en_8⟩ := IV.s_36_11 hi_6
              refine topc (y := (nI n_8)) en_8 ?_
              refine lv_icmp_ge (tgt := 124) hx hb dX8_best_71 (by decide) (fun c_9 => ?_) (fun c_9 => ?_)
              · have c_9 : n_8 ≤ v3_6 := (nI_leI (a := n_8) (b := v3_6) (by omega) (by omega)).mp c_9
                refine lv_aload_n hx hb dX8_best_124 rfl (lv_at hl 2 rfl) ?_
                refine gf_X8_221 cx hw dX8_best_125 ?_
                refine topc (y := (nI w_7)) ew_7 ?_
                refine lv_if_eq (tgt := 137) hx hb dX8_best_128 (by decide) (fun c_10 => ?_) (fun c_10 => ?_)
                · have c_10 : w_7 = 0 := (nI_eq (a := w_7) (b := 0) (by omega) (by omega)).mp c_10
                  refine lv_bipush (v := (-3)) hx hb dX8_best_137 (by decide) ?_
                  exact retI cx hw hr hk dX8_best_139 ⟨hi_6, kk_6⟩
                · have c_10 : ¬ w_7 = 0 := fun z => c_10 ((nI_eq (a := w_7) (b := 0) (by omega) (by omega)).mpr z)
                  refine lv_iload_n hx hb dX8_best_131 rfl (lv_at hl 1 rfl) ?_
                  refine lv_bipush (v := 10) hx hb dX8_best_132 (by decide) ?_
                  refine lv_icmp_le (tgt := 140) hx hb dX8_best_134 (by decide) (fun _ => ?_) (fun _ => ?_)
                  · refine lv_aload_n hx hb dX8_best_140 rfl (lv_at hl 2 rfl) ?_
                    refine lv_iconst (v := (-1)) hx hb dX8_best_141 (by decide) ?_
                    refine pf_X8_224 cx hw dX8_best_142 (fun H locs hw => ?_)
                    have hi_12 : IV (up f_6 36 (upd (f_6 36) 37 (-1))) := IV.u_36_37 hi_6
                    refine lv_aload_n hx hb dX8_best_145 rfl (lv_at hl 2 rfl) ?_
                    refine lv_iconst (v := 0) hx hb dX8_best_146 (by decide) ?_
                    refine lv_iload_n hx hb dX8_best_147 rfl (lv_at hl 3 rfl) ?_
                    refine goV hw (runVW (k := 36) (As := [.int 0, .int (nI t_2)]) (rest := []) cx hw (k_X8_tries l D a cI cZ 6 (up f_6 36 (upd (f_6 36) 37 (-1))) u_6 0 (nI t_2) w_7 hi_12 ⟨ew_7, by omega, by omega, hB_7, fun h => absurd rfl h, fun j h => absurd h (by omega)⟩ (by omega)) lk_X8_230 rfl rfl ⟨Nat.le_of_ble_eq_true rfl, Nat.le_of_ble_eq_true rfl⟩ ⟨rfl, rfl⟩ ⟨Nat.zero_le _, Nat.zero_le _⟩ rfl rfl hl.1 (Nat.le_of_ble_eq_true rfl) dX8_best_148) (fun f_13 u_13 H locs hp_13 hw => ?_)
                    obtain ⟨hi_13, kk_13, ex0_13⟩ := hp_13
                    refine lv_aload_n hx hb dX8_best_151 rfl (lv_at hl 2 rfl) ?_
                    refine gf_X8_224 cx hw dX8_best_152 ?_
                    refine lv_iconst (v := (-1)) hx hb dX8_best_155 (by decide) ?_
                    refine lv_icmp_ne (tgt := 162) hx hb dX8_best_156 (by decide) (fun c_14 => ?_) (fun c_14 => ?_)
                    · refine lv_iconst (v := 0) hx hb dX8_best_162 (by decide) ?_
                      refine lv_istore_n (lv' := [(3, .int 0), (2, .int v2_3), (0, .ref (a 36)), (1, .int (nI t_2))]) hx hb dX8_best_163 rfl hl (by decide) rfl (fun ls hl => ?_)
                      have loop_15 : ∀ (k_15 : Nat) (v3_15 : Nat), v3_15 ≤ 4 → 4 + 1 - v3_15 < k_15 → ∀ (f_15 : FF) (u_15 : UU), IV f_15 → KK [36, 42, 47, 59, 60] f f_15 → (f_15 36 35 = nI w_7) → (∀ j, j < w_7 → ∃ q, q < 32 ∧ f_15 60 j = nI q) → ∀ (H : Heap) (locs : List Loc) (ls : Array Slot), Wd D a cI cZ s f_15 u_15 H locs → lv_has ls 4 [(3, .int (nI v3_15)), (2, .int v2_3), (0, .ref (a 36)), (1, .int (nI t_2))] → W p l e ({ frames := 21, cells := 0, slots := 0, locals := 784 } : Room) s m ([.ref (a 36), .int (nI t_2)] : List Value).toArray below meth c H locs 0 0 (MQ below (QI D a cI cZ (fun r f2 u2 => IV f2 ∧ KK [36, 42, 47, 59, 60] f f2)) ([.ref (a 36), .int (nI t_2)] : List Value).toArray s 0 0 (AA a)) (F0 m 164 ls []) := by
                        intro k_15
                        induction k_15 with
                        | zero => intros; omega
                        | succ k_15 ih_15 =>
                          intro v3_15  hb0_15  hm_15 f_15 u_15 hi_15 kk_15 h84b hbp H locs ls hw hl
                          refine lv_iload_n hx hb dX8_best_164 rfl (lv_at hl 0 rfl) ?_
                          refine lv_aload_n hx hb dX8_best_165 rfl (lv_at hl 2 rfl) ?_
                          refine gf_X8_221 cx hw dX8_best_166 ?_
                          refine topc (y := (nI w_7)) h84b ?_
                          refine lv_icmp_ge (tgt := 194) hx hb dX8_best_169 (by decide) (fun c_16 => ?_) (fun c_16 => ?_)
                          · have c_16 : w_7 ≤ v3_15 := (nI_leI (a := w_7) (b := v3_15) (by omega) (by omega)).mp c_16
                            refine lv_aload_n hx hb dX8_best_194 rfl (lv_at hl 2 rfl) ?_
                            refine gf_X8_224 cx hw dX8_best_195 ?_
                            exact retI cx hw hr hk dX8_best_198 ⟨hi_15, kk_15⟩
                          · have c_16 : ¬ w_7 ≤ v3_15 := fun z => c_16 ((nI_leI (a := w_7) (b := v3_15) (by omega) (by omega)).mpr z)
                            obtain ⟨q_17, hq_17, eq_17⟩ := hbp v3_15 (by omega)
                            refine lv_aload_n hx hb dX8_best_172 rfl (lv_at hl 2 rfl) ?_
                            refine lv_aload_n hx hb dX8_best_173 rfl (lv_at hl 2 rfl) ?_
                            refine gf_X8_89 cx hw dX8_best_174 ?_
                            refine lv_iload_n hx hb dX8_best_177 rfl (lv_at hl 0 rfl) ?_
                            refine aldN 59 v3_15 cx hw rfl (by omega) (by decide) dX8_best_178 ?_
                            obtain ⟨n_18, hn_18, en_18⟩ := IV.a_59 hi_15 (i := v3_15) (by omega)
                            refine topc (y := (nI n_18)) en_18 ?_
                            refine lv_aload_n hx hb dX8_best_179 rfl (lv_at hl 2 rfl) ?_
                            refine gf_X8_92 cx hw dX8_best_180 ?_
                            refine lv_iload_n hx hb dX8_best_183 rfl (lv_at hl 0 rfl) ?_
                            refine aldN 60 v3_15 cx hw rfl (by omega) (by decide) dX8_best_184 ?_
                            refine topc (y := (nI q_17)) eq_17 ?_
                            refine goV hw (runVW (k := 36) (As := [.int (nI n_18), .int (nI q_17)]) (rest := []) cx hw (k_X8_put l D a cI cZ f_15 u_15 n_18 q_17  hi_15 (by omega) (by omega)) lk_X8_145 rfl rfl ⟨Nat.le_of_ble_eq_true rfl, Nat.le_of_ble_eq_true rfl⟩ ⟨rfl, rfl⟩ ⟨Nat.zero_le _, Nat.zero_le _⟩ rfl rfl hl.1 (Nat.le_of_ble_eq_true rfl) dX8_best_185) (fun f_19 u_19 H locs hp_19 hw => ?_)
                            have hi_20 : IV (putM f_15 n_18 q_17) := IV.wputM hi_15 (by omega) (by omega)
                            obtain ⟨rfl, rfl⟩ := hp_19
                            refine lv_iinc (v := (nI (v3_15 + 1))) (lv' := [(3, .int (nI (v3_15 + 1))), (2, .int v2_3), (0, .ref (a 36)), (1, .int (nI t_2))]) hx hb dX8_best_188 hl (k := 0) rfl (nI_add v3_15 1) (by decide) rfl (fun ls hl => ?_)
                            refine lv_goto (tgt := 164) hx hb dX8_best_191 (by decide) ?_
                            exact ih_15 (v3_15 + 1)  (by omega) (by omega) (putM f_15 n_18 q_17) u_15 hi_20 (KK.wputM (by decide) kk_15) h84b hbp _ _ _ hw (lv_sub hl [0, 1, 2, 3] rfl)
                      exact loop_15 _ 0  (by omega)  (Nat.lt_succ_self _) f_13 u_13 hi_13 (KK.tr (KK.um (by decide) (by decide) kk_6) (kk_13.mono (by decide))) (ex0_13.1.trans ew_7) (ex0_13.2.1 c_14) _ _ _ hw (lv_sub hl [0, 1, 2, 3] rfl)
                    · refine lv_bipush (v := (-5)) hx hb dX8_best_159 (by decide) ?_
                      exact retI cx hw hr hk dX8_best_161 ⟨hi_13, (KK.tr (KK.um (by decide) (by decide) kk_6) (kk_13.mono (by decide)))⟩
                  · refine lv_bipush (v := (-3)) hx hb dX8_best_137 (by decide) ?_
                    exact retI cx hw hr hk dX8_best_139 ⟨hi_6, kk_6⟩
              · have c_9 : ¬ n_8 ≤ v3_6 := fun z => c_9 ((nI_leI (a := n_8) (b := v3_6) (by omega) (by omega)).mpr z)
                refine lv_aload_n hx hb dX8_best_74 rfl (lv_at hl 2 rfl) ?_
                refine gf_X8_49 cx hw dX8_best_75 ?_
                refine lv_iload_n hx hb dX8_best_78 rfl (lv_at hl 0 rfl) ?_
                refine aldN 47 v3_6 cx hw rfl (by omega) (by decide) dX8_best_79 ?_
                rcases IV.a_47 hi_6 (i := v3_6) (by omega) with en_21 | ⟨n_21, hn_21, en_21⟩
                · refine topc (y := (-1)) en_21 ?_
                  refine lv_iconst (v := (-1)) hx hb dX8_best_80 (by decide) ?_
                  refine lv_icmp_eq (tgt := 87) hx hb dX8_best_81 (by decide) (fun _ => ?_) (fun q => absurd (by decide) q)
                  refine lv_aload_n hx hb dX8_best_87 rfl (lv_at hl 2 rfl) ?_
                  refine gf_X8_221 cx hw dX8_best_88 ?_
                  refine topc (y := (nI w_7)) ew_7 ?_
                  refine lv_iconst (v := 4) hx hb dX8_best_91 (by decide) ?_
                  refine lv_icmp_ne (tgt := 98) hx hb dX8_best_92 (by decide) (fun c_23 => ?_) (fun c_23 => ?_)
                  · have c_23 : ¬ w_7 = 4 := fun z => c_23 ((nI_eq (a := w_7) (b := 4) (by omega) (by omega)).mpr z)
                    refine lv_aload_n hx hb dX8_best_98 rfl (lv_at hl 2 rfl) ?_
                    refine gf_X8_89 cx hw dX8_best_99 ?_
                    refine lv_aload_n hx hb dX8_best_102 rfl (lv_at hl 2 rfl) ?_
                    refine gf_X8_221 cx hw dX8_best_103 ?_
                    refine topc (y := (nI w_7)) ew_7 ?_
                    refine lv_iload_n hx hb dX8_best_106 rfl (lv_at hl 0 rfl) ?_
                    refine astN 59 w_7 cx hw rfl ws_59 (by omega) (by decide) dX8_best_107 (fun H locs hw => ?_)
                    have hi_24 : IV (up f_6 59 (upd (f_6 59) w_7 (nI v3_6))) := IV.b_59 hi_6 (oki_n (j := v3_6) (by omega))
                    refine lv_aload_n hx hb dX8_best_108 rfl (lv_at hl 2 rfl) ?_
                    refine lv_dup hx hb dX8_best_109 rfl ?_
                    refine gf_X8_221 cx hw dX8_best_110 ?_
                    refine topc (y := (nI w_7)) ew_7 ?_
                    refine lv_iconst (v := 1) hx hb dX8_best_113 (by decide) ?_
                    refine lv_iadd hx hb dX8_best_114 ?_
                    refine topc (y := (nI (w_7 + 1))) (nI_add w_7 1) ?_
                    refine pf_X8_221 cx hw dX8_best_115 (fun H locs hw => ?_)
                    have hi_25 : IV (up (up f_6 59 (upd (f_6 59) w_7 (nI v3_6))) 36 (upd ((up f_6 59 (upd (f_6 59) w_7 (nI v3_6))) 36) 35 (nI (w_7 + 1)))) := IV.t_36_35 hi_24 (okc_n (j := (w_7 + 1)) (by omega))
                    refine lv_iinc (v := (nI (v3_6 + 1))) (lv' := [(3, .int (nI (v3_6 + 1))), (2, .int v2_3), (0, .ref (a 36)), (1, .int (nI t_2))]) hx hb dX8_best_118 hl (k := 0) rfl (nI_add v3_6 1) (by decide) rfl (fun ls hl => ?_)
                    refine lv_goto (tgt := 66) hx hb dX8_best_121 (by decide) ?_
                    exact ih_6 (v3_6 + 1)  (by omega) (by omega) (up (up f_6 59 (upd (f_6 59) w_7 (nI v3_6))) 36 (upd ((up f_6 59 (upd (f_6 59) w_7 (nI v3_6))) 36) 35 (nI (w_7 + 1)))) u_6 hi_25 (KK.um (by decide) (by decide) (KK.wr (by decide) (by decide) kk_6)) (LWm_put (by omega) (by omega) hA_7 hB_7 rfl rfl) _ _ _ hw (lv_sub hl [0, 1, 2, 3] rfl)
                  · have c_23 : w_7 = 4 := (nI_eq (a := w_7) (b := 4) (by omega) (by omega)).mp c_23
                    refine lv_bipush (v := (-3)) hx hb dX8_best_95 (by decide) ?_
                    exact retI cx hw hr hk dX8_best_97 ⟨hi_6, kk_6⟩
                · refine topc (y := (nI n_21)) en_21 ?_
                  refine lv_iconst (v := (-1)) hx hb dX8_best_80 (by decide) ?_
                  refine lv_icmp_eq (tgt := 87) hx hb dX8_best_81 (by decide) (fun q => absurd q (nI_m1 (by omega))) (fun _ => ?_)
                  refine lv_goto (tgt := 118) hx hb dX8_best_84 (by decide) ?_
                  refine lv_iinc (v := (nI (v3_6 + 1))) (lv' := [(3, .int (nI (v3_6 + 1))), (2, .int v2_3), (0, .ref (a 36)), (1, .int (nI t_2))]) hx hb dX8_best_118 hl (k := 0) rfl (nI_add v3_6 1) (by decide) rfl (fun ls hl => ?_)
                  refine lv_goto (tgt := 66) hx hb dX8_best_121 (by decide) ?_
                  exact ih_6 (v3_6 + 1)  (by omega) (by omega) f_6 u_6 hi_6 kk_6 (LWm_skip ⟨w_7, hw_7, ew_7, hA_7, hB_7⟩) _ _ _ hw (lv_sub hl [0, 1, 2, 3] rfl)
          exact loop_6 _ 0  (by omega)  (Nat.lt_succ_self _) (up f 36 (upd (f 36) 35 0)) u hi_5 (KK.um (by decide) (by decide) KK.rf) ⟨0, by omega, rfl, fun i h => absurd h (by omega), fun i j _ h => absurd h (by omega)⟩ _ _ _ hw (lv_sub hl [0, 1, 2, 3] rfl)
        · have c_4 : ¬ 32 ≤ v3_3 := fun z => c_4 ((nI_leI (a := 32) (b := v3_3) (by omega) (by omega)).mpr z)
          refine lv_iload_n hx hb dX8_best_20 rfl (lv_at hl 1 rfl) ?_
          refine lv_aload_n hx hb dX8_best_21 rfl (lv_at hl 2 rfl) ?_
          refine lv_iload_n hx hb dX8_best_22 rfl (lv_at hl 0 rfl) ?_
          refine lv_bipush (v := 8) hx hb dX8_best_23 (by decide) ?_
          refine lv_idiv hx hb dX8_best_25 (by decide) ?_
          refine topc (y := (nI (v3_3 / 8))) (pk_div (a := v3_3) (d := 8) (by omega) (by decide) (by decide)) ?_
          refine lv_iload_n hx hb dX8_best_26 rfl (lv_at hl 0 rfl) ?_
          refine lv_bipush (v := 8) hx hb dX8_best_27 (by decide) ?_
          refine lv_irem hx hb dX8_best_29 (by decide) ?_
          refine topc (y := (nI (v3_3 % 8))) (pk_rem (a := v3_3) (d := 8) (by omega) (by decide) (by decide)) ?_
          refine goI hw (runVW (k := 36) (As := [.int (nI (v3_3 / 8)), .int (nI (v3_3 % 8))]) (rest := [.int v2_3]) cx hw (k_X8_isSlot l D a cI cZ f u (nI (v3_3 / 8)) (nI (v3_3 % 8))  hi) lk_X8_133 rfl rfl ⟨Nat.le_of_ble_eq_true rfl, Nat.le_of_ble_eq_true rfl⟩ ⟨rfl, rfl⟩ ⟨Nat.zero_le _, Nat.zero_le _⟩ rfl rfl hl.1 (Nat.le_of_ble_eq_true rfl) dX8_best_30) (fun r_27 f_27 u_27 H locs hp_27 hw => ?_)
          obtain ⟨rfl, rfl, ha_27⟩ := hp_27
          rcases ha_27 with er_27 | ⟨er_27, b1_27_j, b1_27_k1, b1_27_c, b1_27_d, q1_27_0, q1_27_1, q1_27_2, q1_27_3, q1_27_4, q1_27_5, q1_27_6, q1_27_7⟩
          · subst er_27
            refine lv_if_eq (tgt := 50) hx hb dX8_best_33 (by decide) (fun _ => ?_) (fun q => absurd (by decide) q)
            refine lv_iconst (v := 0) hx hb dX8_best_50 (by decide) ?_
            refine lv_iadd hx hb dX8_best_51 ?_
            refine lv_topi (fun x_29 _ => ?_)
            refine lv_istore_n (lv' := [(2, .int x_29), (3, .int (nI v3_3)), (0, .ref (a 36)), (1, .int (nI t_2))]) hx hb dX8_best_52 rfl hl (by decide) rfl (fun ls hl => ?_)
            refine lv_iinc (v := (nI (v3_3 + 1))) (lv' := [(3, .int (nI (v3_3 + 1))), (2, .int x_29), (0, .ref (a 36)), (1, .int (nI t_2))]) hx hb dX8_best_53 hl (k := 1) rfl (nI_add v3_3 1) (by decide) rfl (fun ls hl => ?_)
            refine lv_goto (tgt := 14) hx hb dX8_best_56 (by decide) ?_
            exact ih_3 (v3_3 + 1) x_29  (by omega) (by omega) _ _ _ hw (lv_sub hl [0, 1, 2, 3] rfl)
          · subst er_27
            have q1_27_6 := nI_inj (by omega) (by omega) q1_27_6
            subst q1_27_6
            have q1_27_7 := nI_inj (by omega) (by omega) q1_27_7
            subst q1_27_7
            refine lv_if_eq (tgt := 50) hx hb dX8_best_33 (by decide) (fun q => absurd q (by decide)) (fun _ => ?_)
            refine lv_aload_n hx hb dX8_best_36 rfl (lv_at hl 2 rfl) ?_
            refine gf_X8_34 cx hw dX8_best_37 ?_
            refine lv_iload_n hx hb dX8_best_40 rfl (lv_at hl 0 rfl) ?_
            refine aldN 42 v3_3 cx hw rfl (by omega) (by decide) dX8_best_41 ?_
            rcases IV.a_42 hi (i := v3_3) (by omega) with en_31 | ⟨n_31, hn_31, en_31⟩
            · refine topc (y := (-1)) en_31 ?_
              refine lv_iconst (v := (-1)) hx hb dX8_best_42 (by decide) ?_
              refine lv_icmp_ne (tgt := 50) hx hb dX8_best_43 (by decide) (fun q => absurd (by decide) q) (fun _ => ?_)
              refine lv_iconst (v := 1) hx hb dX8_best_46 (by decide) ?_
              refine lv_goto (tgt := 51) hx hb dX8_best_47 (by decide) ?_
              refine lv_iadd hx hb dX8_best_51 ?_
              refine lv_topi (fun x_33 _ => ?_)
              refine lv_istore_n (lv' := [(2, .int x_33), (3, .int (nI v3_3)), (0, .ref (a 36)), (1, .int (nI t_2))]) hx hb dX8_best_52 rfl hl (by decide) rfl (fun ls hl => ?_)
              refine lv_iinc (v := (nI (v3_3 + 1))) (lv' := [(3, .int (nI (v3_3 + 1))), (2, .int x_33), (0, .ref (a 36)), (1, .int (nI t_2))]) hx hb dX8_best_53 hl (k := 1) rfl (nI_add v3_3 1) (by decide) rfl (fun ls hl => ?_)
              refine lv_goto (tgt := 14) hx hb dX8_best_56 (by decide) ?_
              exact ih_3 (v3_3 + 1) x_33  (by omega) (by omega) _ _ _ hw (lv_sub hl [0, 1, 2, 3] rfl)
            · refine topc (y := (nI n_31)) en_31 ?_
              refine lv_iconst (v := (-1)) hx hb dX8_best_42 (by decide) ?_
              refine lv_icmp_ne (tgt := 50) hx hb dX8_best_43 (by decide) (fun _ => ?_) (fun q => absurd q (nI_m1 (by omega)))
              refine lv_iconst (v := 0) hx hb dX8_best_50 (by decide) ?_
              refine lv_iadd hx hb dX8_best_51 ?_
              refine lv_topi (fun x_35 _ => ?_)
              refine lv_istore_n (lv' := [(2, .int x_35), (3, .int (nI v3_3)), (0, .ref (a 36)), (1, .int (nI t_2))]) hx hb dX8_best_52 rfl hl (by decide) rfl (fun ls hl => ?_)
              refine lv_iinc (v := (nI (v3_3 + 1))) (lv' := [(3, .int (nI (v3_3 + 1))), (2, .int x_35), (0, .ref (a 36)), (1, .int (nI t_2))]) hx hb dX8_best_53 hl (k := 1) rfl (nI_add v3_3 1) (by decide) rfl (fun ls hl => ?_)
              refine lv_goto (tgt := 14) hx hb dX8_best_56 (by decide) ?_
              exact ih_3 (v3_3 + 1) x_35  (by omega) (by omega) _ _ _ hw (lv_sub hl [0, 1, 2, 3] rfl)
    exact loop_3 _ 0 0  (by omega)  (Nat.lt_succ_self _) _ _ _ hw (lv_sub hl [0, 1, 2, 3] rfl)
  · refine lv_bipush (v := (-2)) hx hb dX8_best_7 (by decide) ?_
    exact retI cx hw hr hk dX8_best_9 ⟨hi, KK.rf⟩

set_option maxHeartbeats 4000000 in
set_option maxRecDepth 100000 in
theorem k_X8_late (l : Launch) (D : va_G) (a : Nat → Nat) (cI cZ : ClassId) (f : FF) (u : UU) (n : Int32) (ar : Int32) (hi : IV f)  : KI l yX8_late cX8_late 9 (some .int) ({ frames := 4, cells := 0, slots := 0, locals := 78 } : Room) D a cI cZ [.ref (a 36), .int n, .int ar] f u (fun r f2 u2 => IV f2 ∧ KK [36, 50] f f2) := by
  refine KX.of (by decide) (Nat.le_of_ble_eq_true rfl) ?_
  intro p e s m below meth c cx hw hr hk ls hl
  have cx : Cx p s m _ c cX8_late RX8 9 D cI cZ := cx
  have hl : lv_has ls 9 [(0, .ref (a 36)), (1, .int n), (2, .int ar)] := hl
  have hx := cx.1.1
  have hb := cx.1.2.1
  refine lv_iload_n hx hb dX8_late_0 rfl (lv_at hl 1 rfl) ?_
  refine lv_iconst (v := 0) hx hb dX8_late_1 (by decide) ?_
  refine lv_bipush (v := 80) hx hb dX8_late_2 (by decide) ?_
  refine goI hw (runSW (As := [.int n, .int 0, .int 80]) (rest := []) cx hw (c_X8_isIn l D a cI cZ f u n 0 80  ) lk_X8_95 ⟨Nat.le_of_ble_eq_true rfl, Nat.le_of_ble_eq_true rfl⟩ ⟨rfl, rfl⟩ ⟨Nat.zero_le _, Nat.zero_le _⟩ rfl rfl hl.1 (Nat.le_of_ble_eq_true rfl) dX8_late_4) (fun r_1 f_1 u_1 H locs hp_1 hw => ?_)
  obtain ⟨rfl, rfl, e_1⟩ := hp_1
  refine topc e_1 ?_
  refine lv_if_eq (tgt := 17) hx hb dX8_late_7 (by decide) (fun c_2 => ?_) (fun c_2 => ?_)
  · refine lv_bipush (v := (-2)) hx hb dX8_late_17 (by decide) ?_
    exact retI cx hw hr hk dX8_late_19 ⟨hi, KK.rf⟩
  · obtain ⟨t_2, ht_2, et_2⟩ := rg_nat (n := 80) rfl c_2
    subst et_2
    refine lv_iload_n hx hb dX8_late_10 rfl (lv_at hl 2 rfl) ?_
    refine goI hw (runSW (As := [.int ar]) (rest := []) cx hw (c_X8_isArm l D a cI cZ f u ar  ) lk_X8_110 ⟨Nat.le_of_ble_eq_true rfl, Nat.le_of_ble_eq_true rfl⟩ ⟨rfl, rfl⟩ ⟨Nat.zero_le _, Nat.zero_le _⟩ rfl rfl hl.1 (Nat.le_of_ble_eq_true rfl) dX8_late_11) (fun r_3 f_3 u_3 H locs hp_3 hw => ?_)
    obtain ⟨rfl, rfl, e_3⟩ := hp_3
    refine topc e_3 ?_
    refine lv_if_ne (tgt := 20) hx hb dX8_late_14 (by decide) (fun c_4 => ?_) (fun c_4 => ?_)
    · obtain ⟨t_4, ht_4, et_4⟩ := rg_nat (n := 5000) rfl c_4
      subst et_4
      refine lv_iconst (v := 0) hx hb dX8_late_20 (by decide) ?_
      refine lv_istore_n (lv' := [(3, .int 0), (0, .ref (a 36)), (1, .int (nI t_2)), (2, .int (nI t_4))]) hx hb dX8_late_21 rfl hl (by decide) rfl (fun ls hl => ?_)
      refine lv_iconst (v := 0) hx hb dX8_late_22 (by decide) ?_
      refine lv_istore (lv' := [(4, .int 0), (3, .int 0), (0, .ref (a 36)), (1, .int (nI t_2)), (2, .int (nI t_4))]) hx hb dX8_late_23 hl (by decide) rfl (fun ls hl => ?_)
      have loop_5 : ∀ (k_5 : Nat) (v4_5 : Nat) (v3_5 : Int32), v4_5 ≤ t_2 → t_2 + 1 - v4_5 < k_5 → ∀ (f_5 : FF) (u_5 : UU), IV f_5 → KK [36, 50] f f_5 → ∀ (H : Heap) (locs : List Loc) (ls : Array Slot), Wd D a cI cZ s f_5 u_5 H locs → lv_has ls 9 [(4, .int (nI v4_5)), (3, .int v3_5), (0, .ref (a 36)), (1, .int (nI t_2)), (2, .int (nI t_4))] → W p l e ({ frames := 4, cells := 0, slots := 0, locals := 78 } : Room) s m ([.ref (a 36), .int (nI t_2), .int (nI t_4)] : List Value).toArray below meth c H locs 0 0 (MQ below (QI D a cI cZ (fun r f2 u2 => IV f2 ∧ KK [36, 50] f f2)) ([.ref (a 36), .int (nI t_2), .int (nI t_4)] : List Value).toArray s 0 0 (AA a)) (F0 m 25 ls []) := by
        intro k_5
        induction k_5 with
        | zero => intros; omega
        | succ k_5 ih_5 =>
          intro v4_5 v3_5  hb0_5  hm_5 f_5 u_5 hi_5 kk_5  H locs ls hw hl
          refine lv_iload hx hb dX8_late_25 (lv_at hl 0 rfl) ?_
          refine lv_iload_n hx hb dX8_late_27 rfl (lv_at hl 3 rfl) ?_
          refine lv_icmp_ge (tgt := 165) hx hb dX8_late_28 (by decide) (fun c_6 => ?_) (fun c_6 => ?_)
          · have c_6 : t_2 ≤ v4_5 := (nI_leI (a := t_2) (b := v4_5) (by omega) (by omega)).mp c_6
            refine lv_iload_n hx hb dX8_late_165 rfl (lv_at hl 1 rfl) ?_
            exact retI cx hw hr hk dX8_late_166 ⟨hi_5, kk_5⟩
          · have c_6 : ¬ t_2 ≤ v4_5 := fun z => c_6 ((nI_leI (a := t_2) (b := v4_5) (by omega) (by omega)).mpr z)
            refine lv_iconst (v := (-1)) hx hb dX8_late_31 (by decide) ?_
            refine lv_istore (lv' := [(5, .int (-1)), (4, .int (nI v4_5)), (3, .int v3_5), (0, .ref (a 36)), (1, .int (nI t_2)), (2, .int (nI t_4))]) hx hb dX8_late_32 hl (by decide) rfl (fun ls hl => ?_)
            refine lv_lconst (v := 0) hx hb dX8_late_34 (by decide) ?_
            refine lv_lstore (lv' := [(6, .long 0), (5, .int (-1)), (4, .int (nI v4_5)), (3, .int v3_5), (0, .ref (a 36)), (1, .int (nI t_2)), (2, .int (nI t_4))]) hx hb dX8_late_35 hl (by decide) rfl (fun ls hl => ?_)
            refine lv_iconst (v := 0) hx hb dX8_late_37 (by decide) ?_
            refine lv_istore (lv' := [(8, .int 0), (6, .long 0), (5, .int (-1)), (4, .int (nI v4_5)), (3, .int v3_5), (0, .ref (a 36)), (1, .int (nI t_2)), (2, .int (nI t_4))]) hx hb dX8_late_38 hl (by decide) rfl (fun ls hl => ?_)
            have loop_7 : ∀ (k_7 : Nat) (v8_7 : Nat) (v6_7 : Int64) (v5_7 : Int32), okx 10 v5_7 → v8_7 ≤ 10 → 10 + 1 - v8_7 < k_7 → ∀ (f_7 : FF) (u_7 : UU), IV f_7 → KK [36, 50] f f_7 → ∀ (H : Heap) (locs : List Loc) (ls : Array Slot), Wd D a cI cZ s f_7 u_7 H locs → lv_has ls 9 [(8, .int (nI v8_7)), (6, .long v6_7), (5, .int v5_7), (4, .int (nI v4_5)), (3, .int v3_5), (0, .ref (a 36)), (1, .int (nI t_2)), (2, .int (nI t_4))] → W p l e ({ frames := 4, cells := 0, slots := 0, locals := 78 } : Room) s m ([.ref (a 36), .int (nI t_2), .int (nI t_4)] : List Value).toArray below meth c H locs 0 0 (MQ below (QI D a cI cZ (fun r f2 u2 => IV f2 ∧ KK [36, 50] f f2)) ([.ref (a 36), .int (nI t_2), .int (nI t_4)] : List Value).toArray s 0 0 (AA a)) (F0 m 40 ls []) := by
              intro k_7
              induction k_7 with
              | zero => intros; omega
              | succ k_7 ih_7 =>
                intro v8_7 v6_7 v5_7 hx_v5_7 hb0_7  hm_7 f_7 u_7 hi_7 kk_7  H locs ls hw hl
                rcases hx_v5_7 with ex_8 | ⟨n_8, hn_8, ex_8⟩
                · subst ex_8
                  refine lv_iload hx hb dX8_late_40 (lv_at hl 0 rfl) ?_
                  refine lv_aload_n hx hb dX8_late_42 rfl (lv_at hl 5 rfl) ?_
                  refine gf_X8_116 cx hw dX8_late_43 ?_
                  obtain ⟨n_9, hn_9, en_9⟩ := IV.s_36_16 hi_7
                  refine topc (y := (nI n_9)) en_9 ?_
                  refine lv_icmp_ge (tgt := 137) hx hb dX8_late_46 (by decide) (fun c_10 => ?_) (fun c_10 => ?_)
                  · have c_10 : n_9 ≤ v8_7 := (nI_leI (a := n_9) (b := v8_7) (by omega) (by omega)).mp c_10
                    refine lv_iload hx hb dX8_late_137 (lv_at hl 2 rfl) ?_
                    refine lv_iconst (v := (-1)) hx hb dX8_late_139 (by decide) ?_
                    refine lv_icmp_ne (tgt := 145) hx hb dX8_late_140 (by decide) (fun q => absurd (by decide) q) (fun _ => ?_)
                    refine lv_iload_n hx hb dX8_late_143 rfl (lv_at hl 4 rfl) ?_
                    exact retI cx hw hr hk dX8_late_144 ⟨hi_7, kk_7⟩
                  · have c_10 : ¬ n_9 ≤ v8_7 := fun z => c_10 ((nI_leI (a := n_9) (b := v8_7) (by omega) (by omega)).mpr z)
                    refine lv_aload_n hx hb dX8_late_49 rfl (lv_at hl 5 rfl) ?_
                    refine gf_X8_58 cx hw dX8_late_50 ?_
                    refine lv_iload hx hb dX8_late_53 (lv_at hl 0 rfl) ?_
                    refine aldN 50 v8_7 cx hw rfl (by omega) (by decide) dX8_late_55 ?_
                    refine lv_topi (fun x_12 _ => ?_)
                    refine lv_aload_n hx hb dX8_late_56 rfl (lv_at hl 5 rfl) ?_
                    refine gf_X8_55 cx hw dX8_late_57 ?_
                    refine lv_iload hx hb dX8_late_60 (lv_at hl 0 rfl) ?_
                    refine aldN 49 v8_7 cx hw rfl (by omega) (by decide) dX8_late_62 ?_
                    refine lv_topi (fun x_13 _ => ?_)
                    refine lv_icmp_ne (tgt := 69) hx hb dX8_late_63 (by decide) (fun _ => ?_) (fun _ => ?_)
                    · refine lv_aload_n hx hb dX8_late_69 rfl (lv_at hl 5 rfl) ?_
                      refine lv_iload_n hx hb dX8_late_70 rfl (lv_at hl 7 rfl) ?_
                      refine lv_aload_n hx hb dX8_late_71 rfl (lv_at hl 5 rfl) ?_
                      refine goI hw (runVW (k := 36) (As := []) (rest := [.int (nI t_4), .ref (a 36)]) cx hw (k_X8_dryWeight l D a cI cZ f_7 u_7   hi_7) lk_X8_153 rfl rfl ⟨Nat.le_of_ble_eq_true rfl, Nat.le_of_ble_eq_true rfl⟩ ⟨rfl, rfl⟩ ⟨Nat.zero_le _, Nat.zero_le _⟩ rfl rfl hl.1 (Nat.le_of_ble_eq_true rfl) dX8_late_72) (fun r_15 f_15 u_15 H locs hp_15 hw => ?_)
                      obtain ⟨rfl, rfl⟩ := hp_15
                      refine lv_aload_n hx hb dX8_late_75 rfl (lv_at hl 5 rfl) ?_
                      refine gf_X8_70 cx hw dX8_late_76 ?_
                      refine lv_topi (fun x_16 _ => ?_)
                      refine lv_iadd hx hb dX8_late_79 ?_
                      refine lv_topi (fun x_17 _ => ?_)
                      refine lv_aload_n hx hb dX8_late_80 rfl (lv_at hl 5 rfl) ?_
                      refine goL hw (runVW (k := 36) (As := []) (rest := [.int x_17, .int (nI t_4), .ref (a 36)]) cx hw (k_X8_dryMoment l D a cI cZ f_7 u_7   hi_7) lk_X8_160 rfl rfl ⟨Nat.le_of_ble_eq_true rfl, Nat.le_of_ble_eq_true rfl⟩ ⟨rfl, rfl⟩ ⟨Nat.zero_le _, Nat.zero_le _⟩ rfl rfl hl.1 (Nat.le_of_ble_eq_true rfl) dX8_late_81) (fun r_18 f_18 u_18 H locs hp_18 hw => ?_)
                      obtain ⟨rfl, rfl⟩ := hp_18
                      refine lv_aload_n hx hb dX8_late_84 rfl (lv_at hl 5 rfl) ?_
                      refine gf_X8_70 cx hw dX8_late_85 ?_
                      refine lv_topi (fun x_19 _ => ?_)
                      refine lv_i2l hx hb dX8_late_88 rfl ?_
                      refine lv_topl (fun y_20 _ => ?_)
                      refine lv_aload_n hx hb dX8_late_89 rfl (lv_at hl 5 rfl) ?_
                      refine gf_X8_52 cx hw dX8_late_90 ?_
                      refine lv_iload hx hb dX8_late_93 (lv_at hl 0 rfl) ?_
                      refine aldN 48 v8_7 cx hw rfl (by omega) (by decide) dX8_late_95 ?_
                      refine lv_topi (fun x_21 _ => ?_)
                      refine lv_i2l hx hb dX8_late_96 rfl ?_
                      refine lv_topl (fun y_22 _ => ?_)
                      refine lv_lmul hx hb dX8_late_97 ?_
                      refine lv_topl (fun y_23 _ => ?_)
                      refine lv_ladd hx hb dX8_late_98 ?_
                      refine lv_topl (fun y_24 _ => ?_)
                      refine goV hw (runVW (k := 36) (As := [.int (nI t_4), .int x_17, .long y_24]) (rest := []) cx hw (k_X8_far l D a cI cZ f_7 u_7 (nI t_4) x_17 y_24  hi_7) lk_X8_192 rfl rfl ⟨Nat.le_of_ble_eq_true rfl, Nat.le_of_ble_eq_true rfl⟩ ⟨rfl, rfl⟩ ⟨Nat.zero_le _, Nat.zero_le _⟩ rfl rfl hl.1 (Nat.le_of_ble_eq_true rfl) dX8_late_99) (fun f_25 u_25 H locs hp_25 hw => ?_)
                      have hi_26 : IV (up f_7 36 (upd (f_7 36) 30 x_17)) := IV.u_36_30 hi_7
                      subst hp_25
                      refine lv_iload hx hb dX8_late_102 (lv_at hl 2 rfl) ?_
                      refine lv_iconst (v := (-1)) hx hb dX8_late_104 (by decide) ?_
                      refine lv_icmp_eq (tgt := 121) hx hb dX8_late_105 (by decide) (fun _ => ?_) (fun q => absurd (by decide) q)
                      refine lv_iload hx hb dX8_late_121 (lv_at hl 0 rfl) ?_
                      refine lv_istore (lv' := [(5, .int (nI v8_7)), (8, .int (nI v8_7)), (6, .long v6_7), (4, .int (nI v4_5)), (3, .int v3_5), (0, .ref (a 36)), (1, .int (nI t_2)), (2, .int (nI t_4))]) hx hb dX8_late_123 hl (by decide) rfl (fun ls hl => ?_)
                      refine lv_aload_n hx hb dX8_late_125 rfl (lv_at hl 5 rfl) ?_
                      refine gf_X8_188 cx hw dX8_late_126 ?_
                      refine lv_topl (fun y_28 _ => ?_)
                      refine lv_lstore (lv' := [(6, .long y_28), (5, .int (nI v8_7)), (8, .int (nI v8_7)), (4, .int (nI v4_5)), (3, .int v3_5), (0, .ref (a 36)), (1, .int (nI t_2)), (2, .int (nI t_4))]) hx hb dX8_late_129 hl (by decide) rfl (fun ls hl => ?_)
                      refine lv_iinc (v := (nI (v8_7 + 1))) (lv' := [(8, .int (nI (v8_7 + 1))), (6, .long y_28), (5, .int (nI v8_7)), (4, .int (nI v4_5)), (3, .int v3_5), (0, .ref (a 36)), (1, .int (nI t_2)), (2, .int (nI t_4))]) hx hb dX8_late_131 hl (k := 2) rfl (nI_add v8_7 1) (by decide) rfl (fun ls hl => ?_)
                      refine lv_goto (tgt := 40) hx hb dX8_late_134 (by decide) ?_
                      exact ih_7 (v8_7 + 1) y_28 (nI v8_7) ((okx_n (j := v8_7) (by omega))) (by omega) (by omega) (up f_7 36 (upd (f_7 36) 30 x_17)) u_25 hi_26 (KK.um (by decide) (by decide) kk_7)  _ _ _ hw (lv_sub hl [0, 1, 2, 3, 4, 5, 6, 7] rfl)
                    · refine lv_goto (tgt := 131) hx hb dX8_late_66 (by decide) ?_
                      refine lv_iinc (v := (nI (v8_7 + 1))) (lv' := [(8, .int (nI (v8_7 + 1))), (6, .long v6_7), (5, .int (-1)), (4, .int (nI v4_5)), (3, .int v3_5), (0, .ref (a 36)), (1, .int (nI t_2)), (2, .int (nI t_4))]) hx hb dX8_late_131 hl (k := 0) rfl (nI_add v8_7 1) (by decide) rfl (fun ls hl => ?_)
                      refine lv_goto (tgt := 40) hx hb dX8_late_134 (by decide) ?_
                      exact ih_7 (v8_7 + 1) v6_7 (-1) (okx_m) (by omega) (by omega) f_7 u_7 hi_7 kk_7  _ _ _ hw (lv_sub hl [0, 1, 2, 3, 4, 5, 6, 7] rfl)
                · subst ex_8
                  refine lv_iload hx hb dX8_late_40 (lv_at hl 0 rfl) ?_
                  refine lv_aload_n hx hb dX8_late_42 rfl (lv_at hl 5 rfl) ?_
                  refine gf_X8_116 cx hw dX8_late_43 ?_
                  obtain ⟨n_29, hn_29, en_29⟩ := IV.s_36_16 hi_7
                  refine topc (y := (nI n_29)) en_29 ?_
                  refine lv_icmp_ge (tgt := 137) hx hb dX8_late_46 (by decide) (fun c_30 => ?_) (fun c_30 => ?_)
                  · have c_30 : n_29 ≤ v8_7 := (nI_leI (a := n_29) (b := v8_7) (by omega) (by omega)).mp c_30
                    refine lv_iload hx hb dX8_late_137 (lv_at hl 2 rfl) ?_
                    refine lv_iconst (v := (-1)) hx hb dX8_late_139 (by decide) ?_
                    refine lv_icmp_ne (tgt := 145) hx hb dX8_late_140 (by decide) (fun _ => ?_) (fun q => absurd q (nI_m1 (by omega)))
                    refine lv_aload_n hx hb dX8_late_145 rfl (lv_at hl 5 rfl) ?_
                    refine gf_X8_58 cx hw dX8_late_146 ?_
                    refine lv_iload hx hb dX8_late_149 (lv_at hl 2 rfl) ?_
                    refine lv_dup2_11 hx hb dX8_late_151 rfl rfl ?_
                    refine aldN 50 n_8 cx hw rfl (by omega) (by decide) dX8_late_152 ?_
                    refine lv_topi (fun x_32 _ => ?_)
                    refine lv_iconst (v := 1) hx hb dX8_late_153 (by decide) ?_
                    refine lv_iadd hx hb dX8_late_154 ?_
                    refine lv_topi (fun x_33 _ => ?_)
                    refine astN 50 n_8 cx hw rfl ws_50 (by omega) (by decide) dX8_late_155 (fun H locs hw => ?_)
                    have hi_34 : IV (up f_7 50 (upd (f_7 50) n_8 x_33)) := IV.wr hi_7 50 trivial
                    refine lv_iinc (v := (v3_5 + 1)) (lv' := [(3, .int (v3_5 + 1)), (8, .int (nI v8_7)), (6, .long v6_7), (5, .int (nI n_8)), (4, .int (nI v4_5)), (0, .ref (a 36)), (1, .int (nI t_2)), (2, .int (nI t_4))]) hx hb dX8_late_156 hl (k := 4) rfl rfl (by decide) rfl (fun ls hl => ?_)
                    refine lv_iinc (v := (nI (v4_5 + 1))) (lv' := [(4, .int (nI (v4_5 + 1))), (3, .int (v3_5 + 1)), (8, .int (nI v8_7)), (6, .long v6_7), (5, .int (nI n_8)), (0, .ref (a 36)), (1, .int (nI t_2)), (2, .int (nI t_4))]) hx hb dX8_late_159 hl (k := 4) rfl (nI_add v4_5 1) (by decide) rfl (fun ls hl => ?_)
                    refine lv_goto (tgt := 25) hx hb dX8_late_162 (by decide) ?_
                    exact ih_5 (v4_5 + 1) (v3_5 + 1)  (by omega) (by omega) (up f_7 50 (upd (f_7 50) n_8 x_33)) u_7 hi_34 (KK.wr (by decide) (by decide) kk_7)  _ _ _ hw (lv_sub hl [0, 1, 5, 6, 7] rfl)
                  · have c_30 : ¬ n_29 ≤ v8_7 := fun z => c_30 ((nI_leI (a := n_29) (b := v8_7) (by omega) (by omega)).mpr z)
                    refine lv_aload_n hx hb dX8_late_49 rfl (lv_at hl 5 rfl) ?_
                    refine gf_X8_58 cx hw dX8_late_50 ?_
                    refine lv_iload hx hb dX8_late_53 (lv_at hl 0 rfl) ?_
                    refine aldN 50 v8_7 cx hw rfl (by omega) (by decide) dX8_late_55 ?_
                    refine lv_topi (fun x_35 _ => ?_)
                    refine lv_aload_n hx hb dX8_late_56 rfl (lv_at hl 5 rfl) ?_
                    refine gf_X8_55 cx hw dX8_late_57 ?_
                    refine lv_iload hx hb dX8_late_60 (lv_at hl 0 rfl) ?_
                    refine aldN 49 v8_7 cx hw rfl (by omega) (by decide) dX8_late_62 ?_
                    refine lv_topi (fun x_36 _ => ?_)
                    refine lv_icmp_ne (tgt := 69) hx hb dX8_late_63 (by decide) (fun _ => ?_) (fun _ => ?_)
                    · refine lv_aload_n hx hb dX8_late_69 rfl (lv_at hl 5 rfl) ?_
                      refine lv_iload_n hx hb dX8_late_70 rfl (lv_at hl 7 rfl) ?_
                      refine lv_aload_n hx hb dX8_late_71 rfl (lv_at hl 5 rfl) ?_
                      refine goI hw (runVW (k := 36) (As := []) (rest := [.int (nI t_4), .ref (a 36)]) cx hw (k_X8_dryWeight l D a cI cZ f_7 u_7   hi_7) lk_X8_153 rfl rfl ⟨Nat.le_of_ble_eq_true rfl, Nat.le_of_ble_eq_true rfl⟩ ⟨rfl, rfl⟩ ⟨Nat.zero_le _, Nat.zero_le _⟩ rfl rfl hl.1 (Nat.le_of_ble_eq_true rfl) dX8_late_72) (fun r_38 f_38 u_38 H locs hp_38 hw => ?_)
                      obtain ⟨rfl, rfl⟩ := hp_38
                      refine lv_aload_n hx hb dX8_late_75 rfl (lv_at hl 5 rfl) ?_
                      refine gf_X8_70 cx hw dX8_late_76 ?_
                      refine lv_topi (fun x_39 _ => ?_)
                      refine lv_iadd hx hb dX8_late_79 ?_
                      refine lv_topi (fun x_40 _ => ?_)
                      refine lv_aload_n hx hb dX8_late_80 rfl (lv_at hl 5 rfl) ?_
                      refine goL hw (runVW (k := 36) (As := []) (rest := [.int x_40, .int (nI t_4), .ref (a 36)]) cx hw (k_X8_dryMoment l D a cI cZ f_7 u_7   hi_7) lk_X8_160 rfl rfl ⟨Nat.le_of_ble_eq_true rfl, Nat.le_of_ble_eq_true rfl⟩ ⟨rfl, rfl⟩ ⟨Nat.zero_le _, Nat.zero_le _⟩ rfl rfl hl.1 (Nat.le_of_ble_eq_true rfl) dX8_late_81) (fun r_41 f_41 u_41 H locs hp_41 hw => ?_)
                      obtain ⟨rfl, rfl⟩ := hp_41
                      refine lv_aload_n hx hb dX8_late_84 rfl (lv_at hl 5 rfl) ?_
                      refine gf_X8_70 cx hw dX8_late_85 ?_
                      refine lv_topi (fun x_42 _ => ?_)
                      refine lv_i2l hx hb dX8_late_88 rfl ?_
                      refine lv_topl (fun y_43 _ => ?_)
                      refine lv_aload_n hx hb dX8_late_89 rfl (lv_at hl 5 rfl) ?_
                      refine gf_X8_52 cx hw dX8_late_90 ?_
                      refine lv_iload hx hb dX8_late_93 (lv_at hl 0 rfl) ?_
                      refine aldN 48 v8_7 cx hw rfl (by omega) (by decide) dX8_late_95 ?_
                      refine lv_topi (fun x_44 _ => ?_)
                      refine lv_i2l hx hb dX8_late_96 rfl ?_
                      refine lv_topl (fun y_45 _ => ?_)
                      refine lv_lmul hx hb dX8_late_97 ?_
                      refine lv_topl (fun y_46 _ => ?_)
                      refine lv_ladd hx hb dX8_late_98 ?_
                      refine lv_topl (fun y_47 _ => ?_)
                      refine goV hw (runVW (k := 36) (As := [.int (nI t_4), .int x_40, .long y_47]) (rest := []) cx hw (k_X8_far l D a cI cZ f_7 u_7 (nI t_4) x_40 y_47  hi_7) lk_X8_192 rfl rfl ⟨Nat.le_of_ble_eq_true rfl, Nat.le_of_ble_eq_true rfl⟩ ⟨rfl, rfl⟩ ⟨Nat.zero_le _, Nat.zero_le _⟩ rfl rfl hl.1 (Nat.le_of_ble_eq_true rfl) dX8_late_99) (fun f_48 u_48 H locs hp_48 hw => ?_)
                      have hi_49 : IV (up f_7 36 (upd (f_7 36) 30 x_40)) := IV.u_36_30 hi_7
                      subst hp_48
                      refine lv_iload hx hb dX8_late_102 (lv_at hl 2 rfl) ?_
                      refine lv_iconst (v := (-1)) hx hb dX8_late_104 (by decide) ?_
                      refine lv_icmp_eq (tgt := 121) hx hb dX8_late_105 (by decide) (fun q => absurd q (nI_m1 (by omega))) (fun _ => ?_)
                      refine lv_aload_n hx hb dX8_late_108 rfl (lv_at hl 5 rfl) ?_
                      refine gf_X8_188 cx hw dX8_late_109 ?_
                      refine lv_topl (fun y_51 _ => ?_)
                      refine lv_lload hx hb dX8_late_112 (lv_at hl 1 rfl) ?_
                      refine W.lcmp hx hb dX8_late_114 ?_
                      refine lv_topi (fun x_52 _ => ?_)
                      refine lv_if_lt (tgt := 121) hx hb dX8_late_115 (by decide) (fun c_53 => ?_) (fun c_53 => ?_)
                      · refine lv_iload hx hb dX8_late_121 (lv_at hl 0 rfl) ?_
                        refine lv_istore (lv' := [(5, .int (nI v8_7)), (8, .int (nI v8_7)), (6, .long v6_7), (4, .int (nI v4_5)), (3, .int v3_5), (0, .ref (a 36)), (1, .int (nI t_2)), (2, .int (nI t_4))]) hx hb dX8_late_123 hl (by decide) rfl (fun ls hl => ?_)
                        refine lv_aload_n hx hb dX8_late_125 rfl (lv_at hl 5 rfl) ?_
                        refine gf_X8_188 cx hw dX8_late_126 ?_
                        refine lv_topl (fun y_54 _ => ?_)
                        refine lv_lstore (lv' := [(6, .long y_54), (5, .int (nI v8_7)), (8, .int (nI v8_7)), (4, .int (nI v4_5)), (3, .int v3_5), (0, .ref (a 36)), (1, .int (nI t_2)), (2, .int (nI t_4))]) hx hb dX8_late_129 hl (by decide) rfl (fun ls hl => ?_)
                        refine lv_iinc (v := (nI (v8_7 + 1))) (lv' := [(8, .int (nI (v8_7 + 1))), (6, .long y_54), (5, .int (nI v8_7)), (4, .int (nI v4_5)), (3, .int v3_5), (0, .ref (a 36)), (1, .int (nI t_2)), (2, .int (nI t_4))]) hx hb dX8_late_131 hl (k := 2) rfl (nI_add v8_7 1) (by decide) rfl (fun ls hl => ?_)
                        refine lv_goto (tgt := 40) hx hb dX8_late_134 (by decide) ?_
                        exact ih_7 (v8_7 + 1) y_54 (nI v8_7) ((okx_n (j := v8_7) (by omega))) (by omega) (by omega) (up f_7 36 (upd (f_7 36) 30 x_40)) u_48 hi_49 (KK.um (by decide) (by decide) kk_7)  _ _ _ hw (lv_sub hl [0, 1, 2, 3, 4, 5, 6, 7] rfl)
                      · refine lv_goto (tgt := 131) hx hb dX8_late_118 (by decide) ?_
                        refine lv_iinc (v := (nI (v8_7 + 1))) (lv' := [(8, .int (nI (v8_7 + 1))), (6, .long v6_7), (5, .int (nI n_8)), (4, .int (nI v4_5)), (3, .int v3_5), (0, .ref (a 36)), (1, .int (nI t_2)), (2, .int (nI t_4))]) hx hb dX8_late_131 hl (k := 0) rfl (nI_add v8_7 1) (by decide) rfl (fun ls hl => ?_)
                        refine lv_goto (tgt := 40) hx hb dX8_late_134 (by decide) ?_
                        exact ih_7 (v8_7 + 1) v6_7 (nI n_8) ((okx_n (j := n_8) (by omega))) (by omega) (by omega) (up f_7 36 (upd (f_7 36) 30 x_40)) u_48 hi_49 (KK.um (by decide) (by decide) kk_7)  _ _ _ hw (lv_sub hl [0, 1, 2, 3, 4, 5, 6, 7] rfl)
                    · refine lv_goto (tgt := 131) hx hb dX8_late_66 (by decide) ?_
                      refine lv_iinc (v := (nI (v8_7 + 1))) (lv' := [(8, .int (nI (v8_7 + 1))), (6, .long v6_7), (5, .int (nI n_8)), (4, .int (nI v4_5)), (3, .int v3_5), (0, .ref (a 36)), (1, .int (nI t_2)), (2, .int (nI t_4))]) hx hb dX8_late_131 hl (k := 0) rfl (nI_add v8_7 1) (by decide) rfl (fun ls hl => ?_)
                      refine lv_goto (tgt := 40) hx hb dX8_late_134 (by decide) ?_
                      exact ih_7 (v8_7 + 1) v6_7 (nI n_8) ((okx_n (j := n_8) (by omega))) (by omega) (by omega) f_7 u_7 hi_7 kk_7  _ _ _ hw (lv_sub hl [0, 1, 2, 3, 4, 5, 6, 7] rfl)
            exact loop_7 _ 0 0 (-1) (okx_m) (by omega)  (Nat.lt_succ_self _) f_5 u_5 hi_5 kk_5  _ _ _ hw (lv_sub hl [0, 1, 2, 3, 4, 5, 6, 7] rfl)
      exact loop_5 _ 0 0  (by omega)  (Nat.lt_succ_self _) f u hi KK.rf  _ _ _ hw (lv_sub hl [0, 1, 2, 3, 4] rfl)
    · refine lv_bipush (v := (-2)) hx hb dX8_late_17 (by decide) ?_
      exact retI cx hw hr hk dX8_late_19 ⟨hi, KK.rf⟩

set_option maxHeartbeats 4000000 in
set_option maxRecDepth 100000 in
theorem k_X8_count (l : Launch) (D : va_G) (a : Nat → Nat) (cI cZ : ClassId) (f : FF) (u : UU) (wh : Int32) (hi : IV f)  : KI l yX8_count cX8_count 4 (some .int) ({ frames := 1, cells := 0, slots := 0, locals := 12 } : Room) D a cI cZ [.ref (a 36), .int wh] f u (fun r f2 u2 => f = f2 ∧ u = u2) := by
  refine KX.of (by decide) (Nat.le_of_ble_eq_true rfl) ?_
  intro p e s m below meth c cx hw hr hk ls hl
  have cx : Cx p s m _ c cX8_count RX8 4 D cI cZ := cx
  have hl : lv_has ls 4 [(0, .ref (a 36)), (1, .int wh)] := hl
  have hx := cx.1.1
  have hb := cx.1.2.1
  refine lv_iconst (v := 0) hx hb dX8_count_0 (by decide) ?_
  refine lv_istore_n (lv' := [(2, .int 0), (0, .ref (a 36)), (1, .int wh)]) hx hb dX8_count_1 rfl hl (by decide) rfl (fun ls hl => ?_)
  refine lv_iload_n hx hb dX8_count_2 rfl (lv_at hl 2 rfl) ?_
  rcases Decidable.em (wh = 0) with c_1 | c_1
  · refine lv_tableIn (off := 45) (tgt := 48) hx hb dX8_count_3 (by rw [c_1]; decide) (by rw [c_1]; decide) (by rw [c_1]; rfl) (by decide) ?_
    refine lv_aload_n hx hb dX8_count_48 rfl (lv_at hl 1 rfl) ?_
    refine gf_X8_99 cx hw dX8_count_49 ?_
    obtain ⟨n_2, hn_2, en_2⟩ := IV.s_36_3 hi
    refine topc (y := (nI n_2)) en_2 ?_
    exact retI cx hw hr hk dX8_count_52 ⟨rfl, rfl⟩
  rcases Decidable.em (wh = 1) with c_3 | c_3
  · refine lv_tableIn (off := 50) (tgt := 53) hx hb dX8_count_3 (by rw [c_3]; decide) (by rw [c_3]; decide) (by rw [c_3]; rfl) (by decide) ?_
    refine lv_iconst (v := 0) hx hb dX8_count_53 (by decide) ?_
    refine lv_istore_n (lv' := [(3, .int 0), (2, .int 0), (0, .ref (a 36)), (1, .int wh)]) hx hb dX8_count_54 rfl hl (by decide) rfl (fun ls hl => ?_)
    have loop_4 : ∀ (k_4 : Nat) (v3_4 : Nat) (v2_4 : Int32), v3_4 ≤ 4 → 4 + 1 - v3_4 < k_4 → ∀ (H : Heap) (locs : List Loc) (ls : Array Slot), Wd D a cI cZ s f u H locs → lv_has ls 4 [(3, .int (nI v3_4)), (2, .int v2_4), (0, .ref (a 36)), (1, .int wh)] → W p l e ({ frames := 1, cells := 0, slots := 0, locals := 12 } : Room) s m ([.ref (a 36), .int wh] : List Value).toArray below meth c H locs 0 0 (MQ below (QI D a cI cZ (fun r f2 u2 => f = f2 ∧ u = u2)) ([.ref (a 36), .int wh] : List Value).toArray s 0 0 (AA a)) (F0 m 55 ls []) := by
      intro k_4
      induction k_4 with
      | zero => intros; omega
      | succ k_4 ih_4 =>
        intro v3_4 v2_4  hb0_4  hm_4  H locs ls hw hl
        refine lv_iload_n hx hb dX8_count_55 rfl (lv_at hl 0 rfl) ?_
        refine lv_aload_n hx hb dX8_count_56 rfl (lv_at hl 2 rfl) ?_
        refine gf_X8_99 cx hw dX8_count_57 ?_
        obtain ⟨n_5, hn_5, en_5⟩ := IV.s_36_3 hi
        refine topc (y := (nI n_5)) en_5 ?_
        refine lv_icmp_ge (tgt := 78) hx hb dX8_count_60 (by decide) (fun c_6 => ?_) (fun c_6 => ?_)
        · have c_6 : n_5 ≤ v3_4 := (nI_leI (a := n_5) (b := v3_4) (by omega) (by omega)).mp c_6
          refine lv_iload_n hx hb dX8_count_78 rfl (lv_at hl 1 rfl) ?_
          exact retI cx hw hr hk dX8_count_79 ⟨rfl, rfl⟩
        · have c_6 : ¬ n_5 ≤ v3_4 := fun z => c_6 ((nI_leI (a := n_5) (b := v3_4) (by omega) (by omega)).mpr z)
          refine lv_iload_n hx hb dX8_count_63 rfl (lv_at hl 1 rfl) ?_
          refine lv_aload_n hx hb dX8_count_64 rfl (lv_at hl 2 rfl) ?_
          refine gf_X8_25 cx hw dX8_count_65 ?_
          refine lv_iload_n hx hb dX8_count_68 rfl (lv_at hl 0 rfl) ?_
          refine aldN 39 v3_4 cx hw rfl (by omega) (by decide) dX8_count_69 ?_
          obtain ⟨n_7, hn_7, en_7⟩ := IV.a_39 hi (i := v3_4) (by omega)
          refine topc (y := (nI n_7)) en_7 ?_
          refine lv_iadd hx hb dX8_count_70 ?_
          refine lv_topi (fun x_8 _ => ?_)
          refine lv_istore_n (lv' := [(2, .int x_8), (3, .int (nI v3_4)), (0, .ref (a 36)), (1, .int wh)]) hx hb dX8_count_71 rfl hl (by decide) rfl (fun ls hl => ?_)
          refine lv_iinc (v := (nI (v3_4 + 1))) (lv' := [(3, .int (nI (v3_4 + 1))), (2, .int x_8), (0, .ref (a 36)), (1, .int wh)]) hx hb dX8_count_72 hl (k := 1) rfl (nI_add v3_4 1) (by decide) rfl (fun ls hl => ?_)
          refine lv_goto (tgt := 55) hx hb dX8_count_75 (by decide) ?_
          exact ih_4 (v3_4 + 1) x_8  (by omega) (by omega) _ _ _ hw (lv_sub hl [0, 1, 2, 3] rfl)
    exact loop_4 _ 0 0  (by omega)  (Nat.lt_succ_self _) _ _ _ hw (lv_sub hl [0, 1, 2, 3] rfl)
  rcases Decidable.em (wh = 2) with c_9 | c_9
  · refine lv_tableIn (off := 77) (tgt := 80) hx hb dX8_count_3 (by rw [c_9]; decide) (by rw [c_9]; decide) (by rw [c_9]; rfl) (by decide) ?_
    refine lv_aload_n hx hb dX8_count_80 rfl (lv_at hl 1 rfl) ?_
    refine gf_X8_106 cx hw dX8_count_81 ?_
    obtain ⟨n_10, hn_10, en_10⟩ := IV.s_36_11 hi
    refine topc (y := (nI n_10)) en_10 ?_
    exact retI cx hw hr hk dX8_count_84 ⟨rfl, rfl⟩
  rcases Decidable.em (wh = 3) with c_11 | c_11
  · refine lv_tableIn (off := 82) (tgt := 85) hx hb dX8_count_3 (by rw [c_11]; decide) (by rw [c_11]; decide) (by rw [c_11]; rfl) (by decide) ?_
    refine lv_iconst (v := 0) hx hb dX8_count_85 (by decide) ?_
    refine lv_istore_n (lv' := [(3, .int 0), (2, .int 0), (0, .ref (a 36)), (1, .int wh)]) hx hb dX8_count_86 rfl hl (by decide) rfl (fun ls hl => ?_)
    have loop_12 : ∀ (k_12 : Nat) (v3_12 : Nat) (v2_12 : Int32), v3_12 ≤ 40 → 40 + 1 - v3_12 < k_12 → ∀ (H : Heap) (locs : List Loc) (ls : Array Slot), Wd D a cI cZ s f u H locs → lv_has ls 4 [(3, .int (nI v3_12)), (2, .int v2_12), (0, .ref (a 36)), (1, .int wh)] → W p l e ({ frames := 1, cells := 0, slots := 0, locals := 12 } : Room) s m ([.ref (a 36), .int wh] : List Value).toArray below meth c H locs 0 0 (MQ below (QI D a cI cZ (fun r f2 u2 => f = f2 ∧ u = u2)) ([.ref (a 36), .int wh] : List Value).toArray s 0 0 (AA a)) (F0 m 87 ls []) := by
      intro k_12
      induction k_12 with
      | zero => intros; omega
      | succ k_12 ih_12 =>
        intro v3_12 v2_12  hb0_12  hm_12  H locs ls hw hl
        refine lv_iload_n hx hb dX8_count_87 rfl (lv_at hl 0 rfl) ?_
        refine lv_aload_n hx hb dX8_count_88 rfl (lv_at hl 2 rfl) ?_
        refine gf_X8_106 cx hw dX8_count_89 ?_
        obtain ⟨n_13, hn_13, en_13⟩ := IV.s_36_11 hi
        refine topc (y := (nI n_13)) en_13 ?_
        refine lv_icmp_ge (tgt := 119) hx hb dX8_count_92 (by decide) (fun c_14 => ?_) (fun c_14 => ?_)
        · have c_14 : n_13 ≤ v3_12 := (nI_leI (a := n_13) (b := v3_12) (by omega) (by omega)).mp c_14
          refine lv_iload_n hx hb dX8_count_119 rfl (lv_at hl 1 rfl) ?_
          exact retI cx hw hr hk dX8_count_120 ⟨rfl, rfl⟩
        · have c_14 : ¬ n_13 ≤ v3_12 := fun z => c_14 ((nI_leI (a := n_13) (b := v3_12) (by omega) (by omega)).mpr z)
          refine lv_iload_n hx hb dX8_count_95 rfl (lv_at hl 1 rfl) ?_
          refine lv_aload_n hx hb dX8_count_96 rfl (lv_at hl 2 rfl) ?_
          refine gf_X8_49 cx hw dX8_count_97 ?_
          refine lv_iload_n hx hb dX8_count_100 rfl (lv_at hl 0 rfl) ?_
          refine aldN 47 v3_12 cx hw rfl (by omega) (by decide) dX8_count_101 ?_
          rcases IV.a_47 hi (i := v3_12) (by omega) with en_15 | ⟨n_15, hn_15, en_15⟩
          · refine topc (y := (-1)) en_15 ?_
            refine lv_iconst (v := (-1)) hx hb dX8_count_102 (by decide) ?_
            refine lv_icmp_ne (tgt := 110) hx hb dX8_count_103 (by decide) (fun q => absurd (by decide) q) (fun _ => ?_)
            refine lv_iconst (v := 0) hx hb dX8_count_106 (by decide) ?_
            refine lv_goto (tgt := 111) hx hb dX8_count_107 (by decide) ?_
            refine lv_iadd hx hb dX8_count_111 ?_
            refine lv_topi (fun x_17 _ => ?_)
            refine lv_istore_n (lv' := [(2, .int x_17), (3, .int (nI v3_12)), (0, .ref (a 36)), (1, .int wh)]) hx hb dX8_count_112 rfl hl (by decide) rfl (fun ls hl => ?_)
            refine lv_iinc (v := (nI (v3_12 + 1))) (lv' := [(3, .int (nI (v3_12 + 1))), (2, .int x_17), (0, .ref (a 36)), (1, .int wh)]) hx hb dX8_count_113 hl (k := 1) rfl (nI_add v3_12 1) (by decide) rfl (fun ls hl => ?_)
            refine lv_goto (tgt := 87) hx hb dX8_count_116 (by decide) ?_
            exact ih_12 (v3_12 + 1) x_17  (by omega) (by omega) _ _ _ hw (lv_sub hl [0, 1, 2, 3] rfl)
          · refine topc (y := (nI n_15)) en_15 ?_
            refine lv_iconst (v := (-1)) hx hb dX8_count_102 (by decide) ?_
            refine lv_icmp_ne (tgt := 110) hx hb dX8_count_103 (by decide) (fun _ => ?_) (fun q => absurd q (nI_m1 (by omega)))
            refine lv_iconst (v := 1) hx hb dX8_count_110 (by decide) ?_
            refine lv_iadd hx hb dX8_count_111 ?_
            refine lv_topi (fun x_19 _ => ?_)
            refine lv_istore_n (lv' := [(2, .int x_19), (3, .int (nI v3_12)), (0, .ref (a 36)), (1, .int wh)]) hx hb dX8_count_112 rfl hl (by decide) rfl (fun ls hl => ?_)
            refine lv_iinc (v := (nI (v3_12 + 1))) (lv' := [(3, .int (nI (v3_12 + 1))), (2, .int x_19), (0, .ref (a 36)), (1, .int wh)]) hx hb dX8_count_113 hl (k := 1) rfl (nI_add v3_12 1) (by decide) rfl (fun ls hl => ?_)
            refine lv_goto (tgt := 87) hx hb dX8_count_116 (by decide) ?_
            exact ih_12 (v3_12 + 1) x_19  (by omega) (by omega) _ _ _ hw (lv_sub hl [0, 1, 2, 3] rfl)
    exact loop_12 _ 0 0  (by omega)  (Nat.lt_succ_self _) _ _ _ hw (lv_sub hl [0, 1, 2, 3] rfl)
  rcases Decidable.em (wh = 4) with c_20 | c_20
  · refine lv_tableIn (off := 118) (tgt := 121) hx hb dX8_count_3 (by rw [c_20]; decide) (by rw [c_20]; decide) (by rw [c_20]; rfl) (by decide) ?_
    refine lv_aload_n hx hb dX8_count_121 rfl (lv_at hl 1 rfl) ?_
    refine gf_X8_116 cx hw dX8_count_122 ?_
    obtain ⟨n_21, hn_21, en_21⟩ := IV.s_36_16 hi
    refine topc (y := (nI n_21)) en_21 ?_
    exact retI cx hw hr hk dX8_count_125 ⟨rfl, rfl⟩
  rcases Decidable.em (wh = 5) with c_22 | c_22
  · refine lv_tableIn (off := 123) (tgt := 126) hx hb dX8_count_3 (by rw [c_22]; decide) (by rw [c_22]; decide) (by rw [c_22]; rfl) (by decide) ?_
    refine lv_iconst (v := 0) hx hb dX8_count_126 (by decide) ?_
    refine lv_istore_n (lv' := [(3, .int 0), (2, .int 0), (0, .ref (a 36)), (1, .int wh)]) hx hb dX8_count_127 rfl hl (by decide) rfl (fun ls hl => ?_)
    have loop_23 : ∀ (k_23 : Nat) (v3_23 : Nat) (v2_23 : Int32), v3_23 ≤ 10 → 10 + 1 - v3_23 < k_23 → ∀ (H : Heap) (locs : List Loc) (ls : Array Slot), Wd D a cI cZ s f u H locs → lv_has ls 4 [(3, .int (nI v3_23)), (2, .int v2_23), (0, .ref (a 36)), (1, .int wh)] → W p l e ({ frames := 1, cells := 0, slots := 0, locals := 12 } : Room) s m ([.ref (a 36), .int wh] : List Value).toArray below meth c H locs 0 0 (MQ below (QI D a cI cZ (fun r f2 u2 => f = f2 ∧ u = u2)) ([.ref (a 36), .int wh] : List Value).toArray s 0 0 (AA a)) (F0 m 128 ls []) := by
      intro k_23
      induction k_23 with
      | zero => intros; omega
      | succ k_23 ih_23 =>
        intro v3_23 v2_23  hb0_23  hm_23  H locs ls hw hl
        refine lv_iload_n hx hb dX8_count_128 rfl (lv_at hl 0 rfl) ?_
        refine lv_aload_n hx hb dX8_count_129 rfl (lv_at hl 2 rfl) ?_
        refine gf_X8_116 cx hw dX8_count_130 ?_
        obtain ⟨n_24, hn_24, en_24⟩ := IV.s_36_16 hi
        refine topc (y := (nI n_24)) en_24 ?_
        refine lv_icmp_ge (tgt := 151) hx hb dX8_count_133 (by decide) (fun c_25 => ?_) (fun c_25 => ?_)
        · have c_25 : n_24 ≤ v3_23 := (nI_leI (a := n_24) (b := v3_23) (by omega) (by omega)).mp c_25
          refine lv_iload_n hx hb dX8_count_151 rfl (lv_at hl 1 rfl) ?_
          exact retI cx hw hr hk dX8_count_152 ⟨rfl, rfl⟩
        · have c_25 : ¬ n_24 ≤ v3_23 := fun z => c_25 ((nI_leI (a := n_24) (b := v3_23) (by omega) (by omega)).mpr z)
          refine lv_iload_n hx hb dX8_count_136 rfl (lv_at hl 1 rfl) ?_
          refine lv_aload_n hx hb dX8_count_137 rfl (lv_at hl 2 rfl) ?_
          refine gf_X8_58 cx hw dX8_count_138 ?_
          refine lv_iload_n hx hb dX8_count_141 rfl (lv_at hl 0 rfl) ?_
          refine aldN 50 v3_23 cx hw rfl (by omega) (by decide) dX8_count_142 ?_
          refine lv_topi (fun x_26 _ => ?_)
          refine lv_iadd hx hb dX8_count_143 ?_
          refine lv_topi (fun x_27 _ => ?_)
          refine lv_istore_n (lv' := [(2, .int x_27), (3, .int (nI v3_23)), (0, .ref (a 36)), (1, .int wh)]) hx hb dX8_count_144 rfl hl (by decide) rfl (fun ls hl => ?_)
          refine lv_iinc (v := (nI (v3_23 + 1))) (lv' := [(3, .int (nI (v3_23 + 1))), (2, .int x_27), (0, .ref (a 36)), (1, .int wh)]) hx hb dX8_count_145 hl (k := 1) rfl (nI_add v3_23 1) (by decide) rfl (fun ls hl => ?_)
          refine lv_goto (tgt := 128) hx hb dX8_count_148 (by decide) ?_
          exact ih_23 (v3_23 + 1) x_27  (by omega) (by omega) _ _ _ hw (lv_sub hl [0, 1, 2, 3] rfl)
    exact loop_23 _ 0 0  (by omega)  (Nat.lt_succ_self _) _ _ _ hw (lv_sub hl [0, 1, 2, 3] rfl)
  rcases Decidable.em (wh = 6) with c_28 | c_28
  · refine lv_tableIn (off := 150) (tgt := 153) hx hb dX8_count_3 (by rw [c_28]; decide) (by rw [c_28]; decide) (by rw [c_28]; rfl) (by decide) ?_
    refine lv_aload_n hx hb dX8_count_153 rfl (lv_at hl 1 rfl) ?_
    refine gf_X8_119 cx hw dX8_count_154 ?_
    obtain ⟨n_29, hn_29, en_29⟩ := IV.s_36_20 hi
    refine topc (y := (nI n_29)) en_29 ?_
    exact retI cx hw hr hk dX8_count_157 ⟨rfl, rfl⟩
  rcases Decidable.em (wh = 7) with c_30 | c_30
  · refine lv_tableIn (off := 155) (tgt := 158) hx hb dX8_count_3 (by rw [c_30]; decide) (by rw [c_30]; decide) (by rw [c_30]; rfl) (by decide) ?_
    refine lv_aload_n hx hb dX8_count_158 rfl (lv_at hl 1 rfl) ?_
    refine gf_X8_70 cx hw dX8_count_159 ?_
    refine lv_topi (fun x_31 _ => ?_)
    exact retI cx hw hr hk dX8_count_162 ⟨rfl, rfl⟩
  refine lv_tableOut (tgt := 163) hx hb dX8_count_3 (by have z0 := lv_neT (a := 0) c_1 rfl; have z1 := lv_neT (a := 1) c_3 rfl; have z2 := lv_neT (a := 2) c_9 rfl; have z3 := lv_neT (a := 3) c_11 rfl; have z4 := lv_neT (a := 4) c_20 rfl; have z5 := lv_neT (a := 5) c_22 rfl; have z6 := lv_neT (a := 6) c_28 rfl; have z7 := lv_neT (a := 7) c_30 rfl; omega) (by decide) ?_
  refine lv_iconst (v := (-1)) hx hb dX8_count_163 (by decide) ?_
  exact retI cx hw hr hk dX8_count_164 ⟨rfl, rfl⟩
