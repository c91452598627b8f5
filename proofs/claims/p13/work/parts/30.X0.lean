set_option maxHeartbeats 4000000 in
set_option maxRecDepth 100000 in
theorem k_X0_addRow (l : Launch) (D : va_G) (a : Nat → Nat) (cI cZ : ClassId) (f : FF) (u : UU) (ar : Int32) (se : Int32) (hi : IV f)  : KI l yX0_addRow cX0_addRow 3 (some .int) ({ frames := 1, cells := 0, slots := 0, locals := 12 } : Room) D a cI cZ [.ref (a 2), .int ar, .int se] f u (fun r f2 u2 => IV f2 ∧ (r, vC f2) = S_cnt 2 10 (vC f) ∧ KP f f2) := by
  refine KX.of (by decide) (Nat.le_of_ble_eq_true rfl) ?_
  intro p e s m below meth c cx hw hr hk ls hl
  have cx : Cx p s m _ c cX0_addRow RX0 3 D cI cZ := cx
  have hl : lv_has ls 3 [(0, .ref (a 2)), (1, .int ar), (2, .int se)] := hl
  have hx := cx.1.1
  have hb := cx.1.2.1
  refine lv_aload_n hx hb dX0_addRow_0 rfl (lv_at hl 0 rfl) ?_
  refine gf_X0_21 cx hw dX0_addRow_1 ?_
  obtain ⟨n_1, hn_1, en_1⟩ := IV.s_2_3 hi
  refine topc (y := (nI n_1)) en_1 ?_
  refine lv_bipush (v := 10) hx hb dX0_addRow_4 (by decide) ?_
  refine lv_icmp_lt (tgt := 12) hx hb dX0_addRow_6 (by decide) (fun c_2 => ?_) (fun c_2 => ?_)
  · have c_2 : n_1 < 10 := (nI_ltI (a := n_1) (b := 10) (by omega) (by omega)).mp c_2
    refine lv_aload_n hx hb dX0_addRow_12 rfl (lv_at hl 0 rfl) ?_
    refine gf_X0_11 cx hw dX0_addRow_13 ?_
    refine lv_aload_n hx hb dX0_addRow_16 rfl (lv_at hl 0 rfl) ?_
    refine gf_X0_21 cx hw dX0_addRow_17 ?_
    refine topc (y := (nI n_1)) en_1 ?_
    refine lv_iload_n hx hb dX0_addRow_20 rfl (lv_at hl 1 rfl) ?_
    refine astN 21 n_1 cx hw rfl ws_21 (by omega) (by decide) dX0_addRow_21 (fun H locs hw => ?_)
    have hi_3 : IV (up f 21 (upd (f 21) n_1 ar)) := IV.wr hi 21 trivial
    refine lv_aload_n hx hb dX0_addRow_22 rfl (lv_at hl 0 rfl) ?_
    refine gf_X0_15 cx hw dX0_addRow_23 ?_
    refine lv_aload_n hx hb dX0_addRow_26 rfl (lv_at hl 0 rfl) ?_
    refine gf_X0_21 cx hw dX0_addRow_27 ?_
    refine topc (y := (nI n_1)) en_1 ?_
    refine lv_iload_n hx hb dX0_addRow_30 rfl (lv_at hl 2 rfl) ?_
    refine astN 22 n_1 cx hw rfl ws_22 (by omega) (by decide) dX0_addRow_31 (fun H locs hw => ?_)
    have hi_4 : IV (up (up f 21 (upd (f 21) n_1 ar)) 22 (upd ((up f 21 (upd (f 21) n_1 ar)) 22) n_1 se)) := IV.wr hi_3 22 trivial
    refine lv_aload_n hx hb dX0_addRow_32 rfl (lv_at hl 0 rfl) ?_
    refine lv_dup hx hb dX0_addRow_33 rfl ?_
    refine gf_X0_21 cx hw dX0_addRow_34 ?_
    refine topc (y := (nI n_1)) en_1 ?_
    refine lv_dup_x1 hx hb dX0_addRow_37 rfl rfl ?_
    refine lv_iconst (v := 1) hx hb dX0_addRow_38 (by decide) ?_
    refine lv_iadd hx hb dX0_addRow_39 ?_
    refine topc (y := (nI (n_1 + 1))) (nI_add n_1 1) ?_
    refine pf_X0_21 cx hw dX0_addRow_40 (fun H locs hw => ?_)
    have hi_5 : IV (up (up (up f 21 (upd (f 21) n_1 ar)) 22 (upd ((up f 21 (upd (f 21) n_1 ar)) 22) n_1 se)) 2 (upd ((up (up f 21 (upd (f 21) n_1 ar)) 22 (upd ((up f 21 (upd (f 21) n_1 ar)) 22) n_1 se)) 2) 3 (nI (n_1 + 1)))) := IV.t_2_3 hi_4 (okc_n (j := (n_1 + 1)) (by omega))
    have vp_6 : vC (up (up (up f 21 (upd (f 21) n_1 ar)) 22 (upd ((up f 21 (upd (f 21) n_1 ar)) 22) n_1 se)) 2 (upd ((up (up f 21 (upd (f 21) n_1 ar)) 22 (upd ((up f 21 (upd (f 21) n_1 ar)) 22) n_1 se)) 2) 3 (nI (n_1 + 1)))) = (up (vC f) 0 (upd ((vC f) 0) 2 (nI (n_1 + 1)))) := (vC_s_2_3).trans (congrArg (fun z : FF => up z 0 (upd (z 0) 2 (nI (n_1 + 1)))) (rfl : vC (up (up f 21 (upd (f 21) n_1 ar)) 22 (upd ((up f 21 (upd (f 21) n_1 ar)) 22) n_1 se)) = (vC f)))
    exact retI cx hw hr hk dX0_addRow_43 ⟨hi_5, ((congrArg (Prod.mk (nI n_1)) (vp_6 : vC (up (up (up f 21 (upd (f 21) n_1 ar)) 22 (upd ((up f 21 (upd (f 21) n_1 ar)) 22) n_1 se)) 2 (upd ((up (up f 21 (upd (f 21) n_1 ar)) 22 (upd ((up f 21 (upd (f 21) n_1 ar)) 22) n_1 se)) 2) 3 (nI (n_1 + 1)))) = (up (vC f) 0 (upd ((vC f) 0) 2 (nI (n_1 + 1)))))).trans (show _ = S_cnt 2 10 (vC f) from (S_cnt_n (k := n_1) (n := 10) en_1 (by omega) (by omega) rfl (by omega)).symm)), (KP.up (by decide) (KP.up (by decide) (KP.up (by decide) KP.rf)))⟩
  · have c_2 : ¬ n_1 < 10 := fun z => c_2 ((nI_ltI (a := n_1) (b := 10) (by omega) (by omega)).mpr z)
    refine lv_bipush (v := (-4)) hx hb dX0_addRow_9 (by decide) ?_
    exact retI cx hw hr hk dX0_addRow_11 ⟨hi, ((congrArg (Prod.mk (-4)) (rfl : vC f = (vC f))).trans (show _ = S_cnt 2 10 (vC f) from (S_cnt_f (k := n_1) (n := 10) en_1 (by omega) rfl (by omega)).symm)), KP.rf⟩

set_option maxHeartbeats 4000000 in
set_option maxRecDepth 100000 in
theorem k_X0_passengers (l : Launch) (D : va_G) (a : Nat → Nat) (cI cZ : ClassId) (f : FF) (u : UU)  (hi : IV f)  : KI l yX0_passengers cX0_passengers 3 (some .int) ({ frames := 1, cells := 0, slots := 0, locals := 12 } : Room) D a cI cZ [.ref (a 2)] f u (fun r f2 u2 => f = f2 ∧ u = u2) := by
  refine KX.of (by decide) (Nat.le_of_ble_eq_true rfl) ?_
  intro p e s m below meth c cx hw hr hk ls hl
  have cx : Cx p s m _ c cX0_passengers RX0 3 D cI cZ := cx
  have hl : lv_has ls 3 [(0, .ref (a 2))] := hl
  have hx := cx.1.1
  have hb := cx.1.2.1
  refine lv_iconst (v := 0) hx hb dX0_passengers_0 (by decide) ?_
  refine lv_istore_n (lv' := [(1, .int 0), (0, .ref (a 2))]) hx hb dX0_passengers_1 rfl hl (by decide) rfl (fun ls hl => ?_)
  refine lv_iconst (v := 0) hx hb dX0_passengers_2 (by decide) ?_
  refine lv_istore_n (lv' := [(2, .int 0), (1, .int 0), (0, .ref (a 2))]) hx hb dX0_passengers_3 rfl hl (by decide) rfl (fun ls hl => ?_)
  have loop_1 : ∀ (k_1 : Nat) (v2_1 : Nat) (v1_1 : Int32), v2_1 ≤ 10 → 10 + 1 - v2_1 < k_1 → ∀ (H : Heap) (locs : List Loc) (ls : Array Slot), Wd D a cI cZ s f u H locs → lv_has ls 3 [(2, .int (nI v2_1)), (1, .int v1_1), (0, .ref (a 2))] → W p l e ({ frames := 1, cells := 0, slots := 0, locals := 12 } : Room) s m ([.ref (a 2)] : List Value).toArray below meth c H locs 0 0 (MQ below (QI D a cI cZ (fun r f2 u2 => f = f2 ∧ u = u2)) ([.ref (a 2)] : List Value).toArray s 0 0 (AA a)) (F0 m 4 ls []) := by
    intro k_1
    induction k_1 with
    | zero => intros; omega
    | succ k_1 ih_1 =>
      intro v2_1 v1_1  hb0_1  hm_1  H locs ls hw hl
      refine lv_iload_n hx hb dX0_passengers_4 rfl (lv_at hl 0 rfl) ?_
      refine lv_aload_n hx hb dX0_passengers_5 rfl (lv_at hl 2 rfl) ?_
      refine gf_X0_21 cx hw dX0_passengers_6 ?_
      obtain ⟨n_2, hn_2, en_2⟩ := IV.s_2_3 hi
      refine topc (y := (nI n_2)) en_2 ?_
      refine lv_icmp_ge (tgt := 27) hx hb dX0_passengers_9 (by decide) (fun c_3 => ?_) (fun c_3 => ?_)
      · have c_3 : n_2 ≤ v2_1 := (nI_leI (a := n_2) (b := v2_1) (by omega) (by omega)).mp c_3
        refine lv_iload_n hx hb dX0_passengers_27 rfl (lv_at hl 1 rfl) ?_
        exact retI cx hw hr hk dX0_passengers_28 ⟨rfl, rfl⟩
      · have c_3 : ¬ n_2 ≤ v2_1 := fun z => c_3 ((nI_leI (a := n_2) (b := v2_1) (by omega) (by omega)).mpr z)
        refine lv_iload_n hx hb dX0_passengers_12 rfl (lv_at hl 1 rfl) ?_
        refine lv_aload_n hx hb dX0_passengers_13 rfl (lv_at hl 2 rfl) ?_
        refine gf_X0_18 cx hw dX0_passengers_14 ?_
        refine lv_iload_n hx hb dX0_passengers_17 rfl (lv_at hl 0 rfl) ?_
        refine aldN 23 v2_1 cx hw rfl (by omega) (by decide) dX0_passengers_18 ?_
        refine lv_topi (fun x_4 _ => ?_)
        refine lv_iadd hx hb dX0_passengers_19 ?_
        refine lv_topi (fun x_5 _ => ?_)
        refine lv_istore_n (lv' := [(1, .int x_5), (2, .int (nI v2_1)), (0, .ref (a 2))]) hx hb dX0_passengers_20 rfl hl (by decide) rfl (fun ls hl => ?_)
        refine lv_iinc (v := (nI (v2_1 + 1))) (lv' := [(2, .int (nI (v2_1 + 1))), (1, .int x_5), (0, .ref (a 2))]) hx hb dX0_passengers_21 hl (k := 1) rfl (nI_add v2_1 1) (by decide) rfl (fun ls hl => ?_)
        refine lv_goto (tgt := 4) hx hb dX0_passengers_24 (by decide) ?_
        exact ih_1 (v2_1 + 1) x_5  (by omega) (by omega) _ _ _ hw (lv_sub hl [0, 1, 2] rfl)
  exact loop_1 _ 0 0  (by omega)  (Nat.lt_succ_self _) _ _ _ hw (lv_sub hl [0, 1, 2] rfl)

set_option maxHeartbeats 4000000 in
set_option maxRecDepth 100000 in
theorem k_X0_takenWeight (l : Launch) (D : va_G) (a : Nat → Nat) (cI cZ : ClassId) (f : FF) (u : UU)  (hi : IV f)  : KI l yX0_takenWeight cX0_takenWeight 1 (some .int) ({ frames := 2, cells := 0, slots := 0, locals := 34 } : Room) D a cI cZ [.ref (a 2)] f u (fun r f2 u2 => f = f2 ∧ u = u2) := by
  refine KX.of (by decide) (Nat.le_of_ble_eq_true rfl) ?_
  intro p e s m below meth c cx hw hr hk ls hl
  have cx : Cx p s m _ c cX0_takenWeight RX0 1 D cI cZ := cx
  have hl : lv_has ls 1 [(0, .ref (a 2))] := hl
  have hx := cx.1.1
  have hb := cx.1.2.1
  refine lv_aload_n hx hb dX0_takenWeight_0 rfl (lv_at hl 0 rfl) ?_
  refine goI hw (runVW (k := 2) (As := []) (rest := []) cx hw (k_X0_passengers l D a cI cZ f u   hi) lk_X0_28 rfl rfl ⟨Nat.le_of_ble_eq_true rfl, Nat.le_of_ble_eq_true rfl⟩ ⟨rfl, rfl⟩ ⟨Nat.zero_le _, Nat.zero_le _⟩ rfl rfl hl.1 (Nat.le_of_ble_eq_true rfl) dX0_takenWeight_1) (fun r_1 f_1 u_1 H locs hp_1 hw => ?_)
  obtain ⟨rfl, rfl⟩ := hp_1
  refine lv_aload_n hx hb dX0_takenWeight_4 rfl (lv_at hl 0 rfl) ?_
  refine gf_X0_25 cx hw dX0_takenWeight_5 ?_
  refine lv_topi (fun x_2 _ => ?_)
  refine lv_imul hx hb dX0_takenWeight_8 ?_
  refine lv_topi (fun x_3 _ => ?_)
  exact retI cx hw hr hk dX0_takenWeight_9 ⟨rfl, rfl⟩

set_option maxHeartbeats 4000000 in
set_option maxRecDepth 100000 in
theorem k_X0_leanIn (l : Launch) (D : va_G) (a : Nat → Nat) (cI cZ : ClassId) (f : FF) (u : UU) (r0 : Nat) (ar : Int32) (hi : IV f) (h_r : r0 < 10) : KL l yX0_leanIn cX0_leanIn 3 (some .long) ({ frames := 1, cells := 0, slots := 0, locals := 12 } : Room) D a cI cZ [.ref (a 2), .int (nI r0), .int ar] f u (fun r f2 u2 => f = f2 ∧ u = u2) := by
  refine KX.of (by decide) (Nat.le_of_ble_eq_true rfl) ?_
  intro p e s m below meth c cx hw hr hk ls hl
  have cx : Cx p s m _ c cX0_leanIn RX0 3 D cI cZ := cx
  have hl : lv_has ls 3 [(0, .ref (a 2)), (1, .int (nI r0)), (2, .int ar)] := hl
  have hx := cx.1.1
  have hb := cx.1.2.1
  refine lv_aload_n hx hb dX0_leanIn_0 rfl (lv_at hl 0 rfl) ?_
  refine gf_X0_25 cx hw dX0_leanIn_1 ?_
  refine lv_topi (fun x_1 _ => ?_)
  refine lv_i2l hx hb dX0_leanIn_4 rfl ?_
  refine lv_topl (fun y_2 _ => ?_)
  refine lv_aload_n hx hb dX0_leanIn_5 rfl (lv_at hl 0 rfl) ?_
  refine gf_X0_11 cx hw dX0_leanIn_6 ?_
  refine lv_iload_n hx hb dX0_leanIn_9 rfl (lv_at hl 1 rfl) ?_
  refine aldN 21 r0 cx hw rfl (by omega) (by decide) dX0_leanIn_10 ?_
  refine lv_topi (fun x_3 _ => ?_)
  refine lv_iload_n hx hb dX0_leanIn_11 rfl (lv_at hl 2 rfl) ?_
  refine lv_isub hx hb dX0_leanIn_12 ?_
  refine lv_topi (fun x_4 _ => ?_)
  refine lv_i2l hx hb dX0_leanIn_13 rfl ?_
  refine lv_topl (fun y_5 _ => ?_)
  refine lv_lmul hx hb dX0_leanIn_14 ?_
  refine lv_topl (fun y_6 _ => ?_)
  exact retL cx hw hr hk dX0_leanIn_15 ⟨rfl, rfl⟩

set_option maxHeartbeats 4000000 in
set_option maxRecDepth 100000 in
theorem k_X0_takenMoment (l : Launch) (D : va_G) (a : Nat → Nat) (cI cZ : ClassId) (f : FF) (u : UU)  (hi : IV f)  : KL l yX0_takenMoment cX0_takenMoment 4 (some .long) ({ frames := 2, cells := 0, slots := 0, locals := 34 } : Room) D a cI cZ [.ref (a 2)] f u (fun r f2 u2 => f = f2 ∧ u = u2) := by
  refine KX.of (by decide) (Nat.le_of_ble_eq_true rfl) ?_
  intro p e s m below meth c cx hw hr hk ls hl
  have cx : Cx p s m _ c cX0_takenMoment RX0 4 D cI cZ := cx
  have hl : lv_has ls 4 [(0, .ref (a 2))] := hl
  have hx := cx.1.1
  have hb := cx.1.2.1
  refine lv_lconst (v := 0) hx hb dX0_takenMoment_0 (by decide) ?_
  refine lv_lstore_n (lv' := [(1, .long 0), (0, .ref (a 2))]) hx hb dX0_takenMoment_1 rfl hl (by decide) rfl (fun ls hl => ?_)
  refine lv_iconst (v := 0) hx hb dX0_takenMoment_2 (by decide) ?_
  refine lv_istore_n (lv' := [(3, .int 0), (1, .long 0), (0, .ref (a 2))]) hx hb dX0_takenMoment_3 rfl hl (by decide) rfl (fun ls hl => ?_)
  have loop_1 : ∀ (k_1 : Nat) (v3_1 : Nat) (v1_1 : Int64), v3_1 ≤ 10 → 10 + 1 - v3_1 < k_1 → ∀ (H : Heap) (locs : List Loc) (ls : Array Slot), Wd D a cI cZ s f u H locs → lv_has ls 4 [(3, .int (nI v3_1)), (1, .long v1_1), (0, .ref (a 2))] → W p l e ({ frames := 2, cells := 0, slots := 0, locals := 34 } : Room) s m ([.ref (a 2)] : List Value).toArray below meth c H locs 0 0 (MQ below (QL D a cI cZ (fun r f2 u2 => f = f2 ∧ u = u2)) ([.ref (a 2)] : List Value).toArray s 0 0 (AA a)) (F0 m 4 ls []) := by
    intro k_1
    induction k_1 with
    | zero => intros; omega
    | succ k_1 ih_1 =>
      intro v3_1 v1_1  hb0_1  hm_1  H locs ls hw hl
      refine lv_iload_n hx hb dX0_takenMoment_4 rfl (lv_at hl 0 rfl) ?_
      refine lv_aload_n hx hb dX0_takenMoment_5 rfl (lv_at hl 2 rfl) ?_
      refine gf_X0_21 cx hw dX0_takenMoment_6 ?_
      obtain ⟨n_2, hn_2, en_2⟩ := IV.s_2_3 hi
      refine topc (y := (nI n_2)) en_2 ?_
      refine lv_icmp_ge (tgt := 35) hx hb dX0_takenMoment_9 (by decide) (fun c_3 => ?_) (fun c_3 => ?_)
      · have c_3 : n_2 ≤ v3_1 := (nI_leI (a := n_2) (b := v3_1) (by omega) (by omega)).mp c_3
        refine lv_lload_n hx hb dX0_takenMoment_35 rfl (lv_at hl 1 rfl) ?_
        exact retL cx hw hr hk dX0_takenMoment_36 ⟨rfl, rfl⟩
      · have c_3 : ¬ n_2 ≤ v3_1 := fun z => c_3 ((nI_leI (a := n_2) (b := v3_1) (by omega) (by omega)).mpr z)
        refine lv_lload_n hx hb dX0_takenMoment_12 rfl (lv_at hl 1 rfl) ?_
        refine lv_aload_n hx hb dX0_takenMoment_13 rfl (lv_at hl 2 rfl) ?_
        refine gf_X0_18 cx hw dX0_takenMoment_14 ?_
        refine lv_iload_n hx hb dX0_takenMoment_17 rfl (lv_at hl 0 rfl) ?_
        refine aldN 23 v3_1 cx hw rfl (by omega) (by decide) dX0_takenMoment_18 ?_
        refine lv_topi (fun x_4 _ => ?_)
        refine lv_i2l hx hb dX0_takenMoment_19 rfl ?_
        refine lv_topl (fun y_5 _ => ?_)
        refine lv_aload_n hx hb dX0_takenMoment_20 rfl (lv_at hl 2 rfl) ?_
        refine lv_iload_n hx hb dX0_takenMoment_21 rfl (lv_at hl 0 rfl) ?_
        refine lv_iconst (v := 0) hx hb dX0_takenMoment_22 (by decide) ?_
        refine goL hw (runVW (k := 2) (As := [.int (nI v3_1), .int 0]) (rest := [.long y_5, .long v1_1]) cx hw (k_X0_leanIn l D a cI cZ f u v3_1 0  hi (by omega)) lk_X0_32 rfl rfl ⟨Nat.le_of_ble_eq_true rfl, Nat.le_of_ble_eq_true rfl⟩ ⟨rfl, rfl⟩ ⟨Nat.zero_le _, Nat.zero_le _⟩ rfl rfl hl.1 (Nat.le_of_ble_eq_true rfl) dX0_takenMoment_23) (fun r_6 f_6 u_6 H locs hp_6 hw => ?_)
        obtain ⟨rfl, rfl⟩ := hp_6
        refine lv_lmul hx hb dX0_takenMoment_26 ?_
        refine lv_topl (fun y_7 _ => ?_)
        refine lv_ladd hx hb dX0_takenMoment_27 ?_
        refine lv_topl (fun y_8 _ => ?_)
        refine lv_lstore_n (lv' := [(1, .long y_8), (3, .int (nI v3_1)), (0, .ref (a 2))]) hx hb dX0_takenMoment_28 rfl hl (by decide) rfl (fun ls hl => ?_)
        refine lv_iinc (v := (nI (v3_1 + 1))) (lv' := [(3, .int (nI (v3_1 + 1))), (1, .long y_8), (0, .ref (a 2))]) hx hb dX0_takenMoment_29 hl (k := 1) rfl (nI_add v3_1 1) (by decide) rfl (fun ls hl => ?_)
        refine lv_goto (tgt := 4) hx hb dX0_takenMoment_32 (by decide) ?_
        exact ih_1 (v3_1 + 1) y_8  (by omega) (by omega) _ _ _ hw (lv_sub hl [0, 1, 2] rfl)
  exact loop_1 _ 0 0  (by omega)  (Nat.lt_succ_self _) _ _ _ hw (lv_sub hl [0, 1, 2] rfl)

set_option maxHeartbeats 4000000 in
set_option maxRecDepth 100000 in
theorem k_X0_nearestRow (l : Launch) (D : va_G) (a : Nat → Nat) (cI cZ : ClassId) (f : FF) (u : UU) (ar : Int32) (le : Int64) (hi : IV f)  : KI l yX0_nearestRow cX0_nearestRow 10 (some .int) ({ frames := 2, cells := 0, slots := 0, locals := 34 } : Room) D a cI cZ [.ref (a 2), .int ar, .long le] f u (fun r f2 u2 => f = f2 ∧ u = u2 ∧ ((r = (-1)) ∨ (∃ j, j < 10 ∧ r = nI j))) := by
  refine KX.of (by decide) (Nat.le_of_ble_eq_true rfl) ?_
  intro p e s m below meth c cx hw hr hk ls hl
  have cx : Cx p s m _ c cX0_nearestRow RX0 10 D cI cZ := cx
  have hl : lv_has ls 10 [(0, .ref (a 2)), (1, .int ar), (2, .long le)] := hl
  have hx := cx.1.1
  have hb := cx.1.2.1
  refine lv_iconst (v := (-1)) hx hb dX0_nearestRow_0 (by decide) ?_
  refine lv_istore (lv' := [(4, .int (-1)), (0, .ref (a 2)), (1, .int ar), (2, .long le)]) hx hb dX0_nearestRow_1 hl (by decide) rfl (fun ls hl => ?_)
  refine lv_lconst (v := 0) hx hb dX0_nearestRow_3 (by decide) ?_
  refine lv_lstore (lv' := [(5, .long 0), (4, .int (-1)), (0, .ref (a 2)), (1, .int ar), (2, .long le)]) hx hb dX0_nearestRow_4 hl (by decide) rfl (fun ls hl => ?_)
  refine lv_iconst (v := 0) hx hb dX0_nearestRow_6 (by decide) ?_
  refine lv_istore (lv' := [(7, .int 0), (5, .long 0), (4, .int (-1)), (0, .ref (a 2)), (1, .int ar), (2, .long le)]) hx hb dX0_nearestRow_7 hl (by decide) rfl (fun ls hl => ?_)
  have loop_1 : ∀ (k_1 : Nat) (v7_1 : Nat) (v5_1 : Int64) (v4_1 : Int32), okx 10 v4_1 → v7_1 ≤ 10 → 10 + 1 - v7_1 < k_1 → ∀ (H : Heap) (locs : List Loc) (ls : Array Slot), Wd D a cI cZ s f u H locs → lv_has ls 10 [(7, .int (nI v7_1)), (5, .long v5_1), (4, .int v4_1), (0, .ref (a 2)), (1, .int ar), (2, .long le)] → W p l e ({ frames := 2, cells := 0, slots := 0, locals := 34 } : Room) s m ([.ref (a 2), .int ar, .long le] : List Value).toArray below meth c H locs 0 0 (MQ below (QI D a cI cZ (fun r f2 u2 => f = f2 ∧ u = u2 ∧ ((r = (-1)) ∨ (∃ j, j < 10 ∧ r = nI j)))) ([.ref (a 2), .int ar, .long le] : List Value).toArray s 0 0 (AA a)) (F0 m 9 ls []) := by
    intro k_1
    induction k_1 with
    | zero => intros; omega
    | succ k_1 ih_1 =>
      intro v7_1 v5_1 v4_1 hx_v4_1 hb0_1  hm_1  H locs ls hw hl
      rcases hx_v4_1 with ex_2 | ⟨n_2, hn_2, ex_2⟩
      · subst ex_2
        refine lv_iload hx hb dX0_nearestRow_9 (lv_at hl 0 rfl) ?_
        refine lv_aload_n hx hb dX0_nearestRow_11 rfl (lv_at hl 3 rfl) ?_
        refine gf_X0_21 cx hw dX0_nearestRow_12 ?_
        obtain ⟨n_3, hn_3, en_3⟩ := IV.s_2_3 hi
        refine topc (y := (nI n_3)) en_3 ?_
        refine lv_icmp_ge (tgt := 77) hx hb dX0_nearestRow_15 (by decide) (fun c_4 => ?_) (fun c_4 => ?_)
        · have c_4 : n_3 ≤ v7_1 := (nI_leI (a := n_3) (b := v7_1) (by omega) (by omega)).mp c_4
          refine lv_iload hx hb dX0_nearestRow_77 (lv_at hl 2 rfl) ?_
          exact retI cx hw hr hk dX0_nearestRow_79 ⟨rfl, rfl, Or.inl rfl⟩
        · have c_4 : ¬ n_3 ≤ v7_1 := fun z => c_4 ((nI_leI (a := n_3) (b := v7_1) (by omega) (by omega)).mpr z)
          refine lv_lload_n hx hb dX0_nearestRow_18 rfl (lv_at hl 5 rfl) ?_
          refine lv_aload_n hx hb dX0_nearestRow_19 rfl (lv_at hl 3 rfl) ?_
          refine lv_iload hx hb dX0_nearestRow_20 (lv_at hl 0 rfl) ?_
          refine lv_iload_n hx hb dX0_nearestRow_22 rfl (lv_at hl 4 rfl) ?_
          refine goL hw (runVW (k := 2) (As := [.int (nI v7_1), .int ar]) (rest := [.long le]) cx hw (k_X0_leanIn l D a cI cZ f u v7_1 ar  hi (by omega)) lk_X0_32 rfl rfl ⟨Nat.le_of_ble_eq_true rfl, Nat.le_of_ble_eq_true rfl⟩ ⟨rfl, rfl⟩ ⟨Nat.zero_le _, Nat.zero_le _⟩ rfl rfl hl.1 (Nat.le_of_ble_eq_true rfl) dX0_nearestRow_23) (fun r_5 f_5 u_5 H locs hp_5 hw => ?_)
          obtain ⟨rfl, rfl⟩ := hp_5
          refine lv_ladd hx hb dX0_nearestRow_26 ?_
          refine lv_topl (fun y_6 _ => ?_)
          refine jAbsL (rest := []) cx hl.1 mm_4_4 (Nat.le_of_ble_eq_true rfl) (Nat.le_of_ble_eq_true rfl) ⟨Nat.zero_le _, Nat.zero_le _⟩ dX0_nearestRow_27 (fun y_7 => ?_)
          refine lv_lstore (lv' := [(8, .long y_7), (7, .int (nI v7_1)), (5, .long v5_1), (4, .int (-1)), (0, .ref (a 2)), (1, .int ar), (2, .long le)]) hx hb dX0_nearestRow_30 hl (by decide) rfl (fun ls hl => ?_)
          refine lv_aload_n hx hb dX0_nearestRow_32 rfl (lv_at hl 4 rfl) ?_
          refine gf_X0_18 cx hw dX0_nearestRow_33 ?_
          refine lv_iload hx hb dX0_nearestRow_36 (lv_at hl 1 rfl) ?_
          refine aldN 23 v7_1 cx hw rfl (by omega) (by decide) dX0_nearestRow_38 ?_
          refine lv_topi (fun x_8 _ => ?_)
          refine lv_aload_n hx hb dX0_nearestRow_39 rfl (lv_at hl 4 rfl) ?_
          refine gf_X0_15 cx hw dX0_nearestRow_40 ?_
          refine lv_iload hx hb dX0_nearestRow_43 (lv_at hl 1 rfl) ?_
          refine aldN 22 v7_1 cx hw rfl (by omega) (by decide) dX0_nearestRow_45 ?_
          refine lv_topi (fun x_9 _ => ?_)
          refine lv_icmp_ge (tgt := 71) hx hb dX0_nearestRow_46 (by decide) (fun _ => ?_) (fun _ => ?_)
          · refine lv_iinc (v := (nI (v7_1 + 1))) (lv' := [(7, .int (nI (v7_1 + 1))), (8, .long y_7), (5, .long v5_1), (4, .int (-1)), (0, .ref (a 2)), (1, .int ar), (2, .long le)]) hx hb dX0_nearestRow_71 hl (k := 1) rfl (nI_add v7_1 1) (by decide) rfl (fun ls hl => ?_)
            refine lv_goto (tgt := 9) hx hb dX0_nearestRow_74 (by decide) ?_
            exact ih_1 (v7_1 + 1) v5_1 (-1) (okx_m) (by omega) (by omega) _ _ _ hw (lv_sub hl [0, 2, 3, 4, 5, 6] rfl)
          · refine lv_iload hx hb dX0_nearestRow_49 (lv_at hl 3 rfl) ?_
            refine lv_iconst (v := (-1)) hx hb dX0_nearestRow_51 (by decide) ?_
            refine lv_icmp_eq (tgt := 63) hx hb dX0_nearestRow_52 (by decide) (fun _ => ?_) (fun q => absurd (by decide) q)
            refine lv_iload hx hb dX0_nearestRow_63 (lv_at hl 1 rfl) ?_
            refine lv_istore (lv' := [(4, .int (nI v7_1)), (8, .long y_7), (7, .int (nI v7_1)), (5, .long v5_1), (0, .ref (a 2)), (1, .int ar), (2, .long le)]) hx hb dX0_nearestRow_65 hl (by decide) rfl (fun ls hl => ?_)
            refine lv_lload hx hb dX0_nearestRow_67 (lv_at hl 1 rfl) ?_
            refine lv_lstore (lv' := [(5, .long y_7), (4, .int (nI v7_1)), (8, .long y_7), (7, .int (nI v7_1)), (0, .ref (a 2)), (1, .int ar), (2, .long le)]) hx hb dX0_nearestRow_69 hl (by decide) rfl (fun ls hl => ?_)
            refine lv_iinc (v := (nI (v7_1 + 1))) (lv' := [(7, .int (nI (v7_1 + 1))), (5, .long y_7), (4, .int (nI v7_1)), (8, .long y_7), (0, .ref (a 2)), (1, .int ar), (2, .long le)]) hx hb dX0_nearestRow_71 hl (k := 3) rfl (nI_add v7_1 1) (by decide) rfl (fun ls hl => ?_)
            refine lv_goto (tgt := 9) hx hb dX0_nearestRow_74 (by decide) ?_
            exact ih_1 (v7_1 + 1) y_7 (nI v7_1) ((okx_n (j := v7_1) (by omega))) (by omega) (by omega) _ _ _ hw (lv_sub hl [0, 1, 2, 4, 5, 6] rfl)
      · subst ex_2
        refine lv_iload hx hb dX0_nearestRow_9 (lv_at hl 0 rfl) ?_
        refine lv_aload_n hx hb dX0_nearestRow_11 rfl (lv_at hl 3 rfl) ?_
        refine gf_X0_21 cx hw dX0_nearestRow_12 ?_
        obtain ⟨n_12, hn_12, en_12⟩ := IV.s_2_3 hi
        refine topc (y := (nI n_12)) en_12 ?_
        refine lv_icmp_ge (tgt := 77) hx hb dX0_nearestRow_15 (by decide) (fun c_13 => ?_) (fun c_13 => ?_)
        · have c_13 : n_12 ≤ v7_1 := (nI_leI (a := n_12) (b := v7_1) (by omega) (by omega)).mp c_13
          refine lv_iload hx hb dX0_nearestRow_77 (lv_at hl 2 rfl) ?_
          exact retI cx hw hr hk dX0_nearestRow_79 ⟨rfl, rfl, Or.inr ⟨n_2, by omega, rfl⟩⟩
        · have c_13 : ¬ n_12 ≤ v7_1 := fun z => c_13 ((nI_leI (a := n_12) (b := v7_1) (by omega) (by omega)).mpr z)
          refine lv_lload_n hx hb dX0_nearestRow_18 rfl (lv_at hl 5 rfl) ?_
          refine lv_aload_n hx hb dX0_nearestRow_19 rfl (lv_at hl 3 rfl) ?_
          refine lv_iload hx hb dX0_nearestRow_20 (lv_at hl 0 rfl) ?_
          refine lv_iload_n hx hb dX0_nearestRow_22 rfl (lv_at hl 4 rfl) ?_
          refine goL hw (runVW (k := 2) (As := [.int (nI v7_1), .int ar]) (rest := [.long le]) cx hw (k_X0_leanIn l D a cI cZ f u v7_1 ar  hi (by omega)) lk_X0_32 rfl rfl ⟨Nat.le_of_ble_eq_true rfl, Nat.le_of_ble_eq_true rfl⟩ ⟨rfl, rfl⟩ ⟨Nat.zero_le _, Nat.zero_le _⟩ rfl rfl hl.1 (Nat.le_of_ble_eq_true rfl) dX0_nearestRow_23) (fun r_14 f_14 u_14 H locs hp_14 hw => ?_)
          obtain ⟨rfl, rfl⟩ := hp_14
          refine lv_ladd hx hb dX0_nearestRow_26 ?_
          refine lv_topl (fun y_15 _ => ?_)
          refine jAbsL (rest := []) cx hl.1 mm_4_4 (Nat.le_of_ble_eq_true rfl) (Nat.le_of_ble_eq_true rfl) ⟨Nat.zero_le _, Nat.zero_le _⟩ dX0_nearestRow_27 (fun y_16 => ?_)
          refine lv_lstore (lv' := [(8, .long y_16), (7, .int (nI v7_1)), (5, .long v5_1), (4, .int (nI n_2)), (0, .ref (a 2)), (1, .int ar), (2, .long le)]) hx hb dX0_nearestRow_30 hl (by decide) rfl (fun ls hl => ?_)
          refine lv_aload_n hx hb dX0_nearestRow_32 rfl (lv_at hl 4 rfl) ?_
          refine gf_X0_18 cx hw dX0_nearestRow_33 ?_
          refine lv_iload hx hb dX0_nearestRow_36 (lv_at hl 1 rfl) ?_
          refine aldN 23 v7_1 cx hw rfl (by omega) (by decide) dX0_nearestRow_38 ?_
          refine lv_topi (fun x_17 _ => ?_)
          refine lv_aload_n hx hb dX0_nearestRow_39 rfl (lv_at hl 4 rfl) ?_
          refine gf_X0_15 cx hw dX0_nearestRow_40 ?_
          refine lv_iload hx hb dX0_nearestRow_43 (lv_at hl 1 rfl) ?_
          refine aldN 22 v7_1 cx hw rfl (by omega) (by decide) dX0_nearestRow_45 ?_
          refine lv_topi (fun x_18 _ => ?_)
          refine lv_icmp_ge (tgt := 71) hx hb dX0_nearestRow_46 (by decide) (fun _ => ?_) (fun _ => ?_)
          · refine lv_iinc (v := (nI (v7_1 + 1))) (lv' := [(7, .int (nI (v7_1 + 1))), (8, .long y_16), (5, .long v5_1), (4, .int (nI n_2)), (0, .ref (a 2)), (1, .int ar), (2, .long le)]) hx hb dX0_nearestRow_71 hl (k := 1) rfl (nI_add v7_1 1) (by decide) rfl (fun ls hl => ?_)
            refine lv_goto (tgt := 9) hx hb dX0_nearestRow_74 (by decide) ?_
            exact ih_1 (v7_1 + 1) v5_1 (nI n_2) ((okx_n (j := n_2) (by omega))) (by omega) (by omega) _ _ _ hw (lv_sub hl [0, 2, 3, 4, 5, 6] rfl)
          · refine lv_iload hx hb dX0_nearestRow_49 (lv_at hl 3 rfl) ?_
            refine lv_iconst (v := (-1)) hx hb dX0_nearestRow_51 (by decide) ?_
            refine lv_icmp_eq (tgt := 63) hx hb dX0_nearestRow_52 (by decide) (fun q => absurd q (nI_m1 (by omega))) (fun _ => ?_)
            refine lv_lload hx hb dX0_nearestRow_55 (lv_at hl 0 rfl) ?_
            refine lv_lload hx hb dX0_nearestRow_57 (lv_at hl 2 rfl) ?_
            refine W.lcmp hx hb dX0_nearestRow_59 ?_
            refine lv_topi (fun x_21 _ => ?_)
            refine lv_if_ge (tgt := 71) hx hb dX0_nearestRow_60 (by decide) (fun c_22 => ?_) (fun c_22 => ?_)
            · refine lv_iinc (v := (nI (v7_1 + 1))) (lv' := [(7, .int (nI (v7_1 + 1))), (8, .long y_16), (5, .long v5_1), (4, .int (nI n_2)), (0, .ref (a 2)), (1, .int ar), (2, .long le)]) hx hb dX0_nearestRow_71 hl (k := 1) rfl (nI_add v7_1 1) (by decide) rfl (fun ls hl => ?_)
              refine lv_goto (tgt := 9) hx hb dX0_nearestRow_74 (by decide) ?_
              exact ih_1 (v7_1 + 1) v5_1 (nI n_2) ((okx_n (j := n_2) (by omega))) (by omega) (by omega) _ _ _ hw (lv_sub hl [0, 2, 3, 4, 5, 6] rfl)
            · refine lv_iload hx hb dX0_nearestRow_63 (lv_at hl 1 rfl) ?_
              refine lv_istore (lv' := [(4, .int (nI v7_1)), (8, .long y_16), (7, .int (nI v7_1)), (5, .long v5_1), (0, .ref (a 2)), (1, .int ar), (2, .long le)]) hx hb dX0_nearestRow_65 hl (by decide) rfl (fun ls hl => ?_)
              refine lv_lload hx hb dX0_nearestRow_67 (lv_at hl 1 rfl) ?_
              refine lv_lstore (lv' := [(5, .long y_16), (4, .int (nI v7_1)), (8, .long y_16), (7, .int (nI v7_1)), (0, .ref (a 2)), (1, .int ar), (2, .long le)]) hx hb dX0_nearestRow_69 hl (by decide) rfl (fun ls hl => ?_)
              refine lv_iinc (v := (nI (v7_1 + 1))) (lv' := [(7, .int (nI (v7_1 + 1))), (5, .long y_16), (4, .int (nI v7_1)), (8, .long y_16), (0, .ref (a 2)), (1, .int ar), (2, .long le)]) hx hb dX0_nearestRow_71 hl (k := 3) rfl (nI_add v7_1 1) (by decide) rfl (fun ls hl => ?_)
              refine lv_goto (tgt := 9) hx hb dX0_nearestRow_74 (by decide) ?_
              exact ih_1 (v7_1 + 1) y_16 (nI v7_1) ((okx_n (j := v7_1) (by omega))) (by omega) (by omega) _ _ _ hw (lv_sub hl [0, 1, 2, 4, 5, 6] rfl)
  exact loop_1 _ 0 0 (-1) (okx_m) (by omega)  (Nat.lt_succ_self _) _ _ _ hw (lv_sub hl [0, 1, 2, 3, 4, 5] rfl)

set_option maxHeartbeats 4000000 in
set_option maxRecDepth 100000 in
theorem k_X0_seatLate (l : Launch) (D : va_G) (a : Nat → Nat) (cI cZ : ClassId) (f : FF) (u : UU) (n : Nat) (ar : Int32) (le : Int64) (hi : IV f) (h_n : n < 2 ^ 31) : KI l yX0_seatLate cX0_seatLate 9 (some .int) ({ frames := 3, cells := 0, slots := 0, locals := 63 } : Room) D a cI cZ [.ref (a 2), .int (nI n), .int ar, .long le] f u (fun r f2 u2 => IV f2 ∧ KK [23] f f2) := by
  refine KX.of (by decide) (Nat.le_of_ble_eq_true rfl) ?_
  intro p e s m below meth c cx hw hr hk ls hl
  have cx : Cx p s m _ c cX0_seatLate RX0 9 D cI cZ := cx
  have hl : lv_has ls 9 [(0, .ref (a 2)), (1, .int (nI n)), (2, .int ar), (3, .long le)] := hl
  have hx := cx.1.1
  have hb := cx.1.2.1
  refine lv_lload_n hx hb dX0_seatLate_0 rfl (lv_at hl 3 rfl) ?_
  refine lv_lstore (lv' := [(5, .long le), (0, .ref (a 2)), (1, .int (nI n)), (2, .int ar), (3, .long le)]) hx hb dX0_seatLate_1 hl (by decide) rfl (fun ls hl => ?_)
  refine lv_iconst (v := 0) hx hb dX0_seatLate_3 (by decide) ?_
  refine lv_istore (lv' := [(7, .int 0), (5, .long le), (0, .ref (a 2)), (1, .int (nI n)), (2, .int ar), (3, .long le)]) hx hb dX0_seatLate_4 hl (by decide) rfl (fun ls hl => ?_)
  have loop_1 : ∀ (k_1 : Nat) (v7_1 : Nat) (v5_1 : Int64), v7_1 ≤ n → n + 1 - v7_1 < k_1 → ∀ (f_1 : FF) (u_1 : UU), IV f_1 → KK [23] f f_1 → ∀ (H : Heap) (locs : List Loc) (ls : Array Slot), Wd D a cI cZ s f_1 u_1 H locs → lv_has ls 9 [(7, .int (nI v7_1)), (5, .long v5_1), (0, .ref (a 2)), (1, .int (nI n)), (2, .int ar), (3, .long le)] → W p l e ({ frames := 3, cells := 0, slots := 0, locals := 63 } : Room) s m ([.ref (a 2), .int (nI n), .int ar, .long le] : List Value).toArray below meth c H locs 0 0 (MQ below (QI D a cI cZ (fun r f2 u2 => IV f2 ∧ KK [23] f f2)) ([.ref (a 2), .int (nI n), .int ar, .long le] : List Value).toArray s 0 0 (AA a)) (F0 m 6 ls []) := by
    intro k_1
    induction k_1 with
    | zero => intros; omega
    | succ k_1 ih_1 =>
      intro v7_1 v5_1  hb0_1  hm_1 f_1 u_1 hi_1 kk_1  H locs ls hw hl
      refine lv_iload hx hb dX0_seatLate_6 (lv_at hl 0 rfl) ?_
      refine lv_iload_n hx hb dX0_seatLate_8 rfl (lv_at hl 3 rfl) ?_
      refine lv_icmp_ge (tgt := 59) hx hb dX0_seatLate_9 (by decide) (fun c_2 => ?_) (fun c_2 => ?_)
      · have c_2 : n ≤ v7_1 := (nI_leI (a := n) (b := v7_1) (by omega) (by omega)).mp c_2
        refine lv_iload_n hx hb dX0_seatLate_59 rfl (lv_at hl 3 rfl) ?_
        exact retI cx hw hr hk dX0_seatLate_60 ⟨hi_1, kk_1⟩
      · have c_2 : ¬ n ≤ v7_1 := fun z => c_2 ((nI_leI (a := n) (b := v7_1) (by omega) (by omega)).mpr z)
        refine lv_aload_n hx hb dX0_seatLate_12 rfl (lv_at hl 2 rfl) ?_
        refine lv_iload_n hx hb dX0_seatLate_13 rfl (lv_at hl 4 rfl) ?_
        refine lv_lload hx hb dX0_seatLate_14 (lv_at hl 1 rfl) ?_
        refine goI hw (runVW (k := 2) (As := [.int ar, .long v5_1]) (rest := []) cx hw (k_X0_nearestRow l D a cI cZ f_1 u_1 ar v5_1  hi_1) lk_X0_36 rfl rfl ⟨Nat.le_of_ble_eq_true rfl, Nat.le_of_ble_eq_true rfl⟩ ⟨rfl, rfl⟩ ⟨Nat.zero_le _, Nat.zero_le _⟩ rfl rfl hl.1 (Nat.le_of_ble_eq_true rfl) dX0_seatLate_16) (fun r_3 f_3 u_3 H locs hp_3 hw => ?_)
        obtain ⟨rfl, rfl, ha_3⟩ := hp_3
        rcases ha_3 with er_3 | ⟨b1_3_j, q1_3_0, q1_3_1⟩
        · subst er_3
          refine lv_istore (lv' := [(8, .int (-1)), (7, .int (nI v7_1)), (5, .long v5_1), (0, .ref (a 2)), (1, .int (nI n)), (2, .int ar), (3, .long le)]) hx hb dX0_seatLate_19 hl (by decide) rfl (fun ls hl => ?_)
          refine lv_iload hx hb dX0_seatLate_21 (lv_at hl 0 rfl) ?_
          refine lv_iconst (v := (-1)) hx hb dX0_seatLate_23 (by decide) ?_
          refine lv_icmp_ne (tgt := 30) hx hb dX0_seatLate_24 (by decide) (fun q => absurd (by decide) q) (fun _ => ?_)
          refine lv_iload hx hb dX0_seatLate_27 (lv_at hl 1 rfl) ?_
          exact retI cx hw hr hk dX0_seatLate_29 ⟨hi_1, kk_1⟩
        · subst q1_3_1
          refine lv_istore (lv' := [(8, .int (nI b1_3_j)), (7, .int (nI v7_1)), (5, .long v5_1), (0, .ref (a 2)), (1, .int (nI n)), (2, .int ar), (3, .long le)]) hx hb dX0_seatLate_19 hl (by decide) rfl (fun ls hl => ?_)
          refine lv_iload hx hb dX0_seatLate_21 (lv_at hl 0 rfl) ?_
          refine lv_iconst (v := (-1)) hx hb dX0_seatLate_23 (by decide) ?_
          refine lv_icmp_ne (tgt := 30) hx hb dX0_seatLate_24 (by decide) (fun _ => ?_) (fun q => absurd q (nI_m1 (by omega)))
          refine lv_aload_n hx hb dX0_seatLate_30 rfl (lv_at hl 3 rfl) ?_
          refine gf_X0_18 cx hw dX0_seatLate_31 ?_
          refine lv_iload hx hb dX0_seatLate_34 (lv_at hl 0 rfl) ?_
          refine lv_dup2_11 hx hb dX0_seatLate_36 rfl rfl ?_
          refine aldN 23 b1_3_j cx hw rfl (by omega) (by decide) dX0_seatLate_37 ?_
          refine lv_topi (fun x_6 _ => ?_)
          refine lv_iconst (v := 1) hx hb dX0_seatLate_38 (by decide) ?_
          refine lv_iadd hx hb dX0_seatLate_39 ?_
          refine lv_topi (fun x_7 _ => ?_)
          refine astN 23 b1_3_j cx hw rfl ws_23 (by omega) (by decide) dX0_seatLate_40 (fun H locs hw => ?_)
          have hi_8 : IV (up f_1 23 (upd (f_1 23) b1_3_j x_7)) := IV.wr hi_1 23 trivial
          refine lv_lload hx hb dX0_seatLate_41 (lv_at hl 2 rfl) ?_
          refine lv_aload_n hx hb dX0_seatLate_43 rfl (lv_at hl 3 rfl) ?_
          refine lv_iload hx hb dX0_seatLate_44 (lv_at hl 0 rfl) ?_
          refine lv_iload_n hx hb dX0_seatLate_46 rfl (lv_at hl 5 rfl) ?_
          refine goL hw (runVW (k := 2) (As := [.int (nI b1_3_j), .int ar]) (rest := [.long v5_1]) cx hw (k_X0_leanIn l D a cI cZ (up f_1 23 (upd (f_1 23) b1_3_j x_7)) u_1 b1_3_j ar  hi_8 (by omega)) lk_X0_32 rfl rfl ⟨Nat.le_of_ble_eq_true rfl, Nat.le_of_ble_eq_true rfl⟩ ⟨rfl, rfl⟩ ⟨Nat.zero_le _, Nat.zero_le _⟩ rfl rfl hl.1 (Nat.le_of_ble_eq_true rfl) dX0_seatLate_47) (fun r_9 f_9 u_9 H locs hp_9 hw => ?_)
          obtain ⟨rfl, rfl⟩ := hp_9
          refine lv_ladd hx hb dX0_seatLate_50 ?_
          refine lv_topl (fun y_10 _ => ?_)
          refine lv_lstore (lv' := [(5, .long y_10), (8, .int (nI b1_3_j)), (7, .int (nI v7_1)), (0, .ref (a 2)), (1, .int (nI n)), (2, .int ar), (3, .long le)]) hx hb dX0_seatLate_51 hl (by decide) rfl (fun ls hl => ?_)
          refine lv_iinc (v := (nI (v7_1 + 1))) (lv' := [(7, .int (nI (v7_1 + 1))), (5, .long y_10), (8, .int (nI b1_3_j)), (0, .ref (a 2)), (1, .int (nI n)), (2, .int ar), (3, .long le)]) hx hb dX0_seatLate_53 hl (k := 2) rfl (nI_add v7_1 1) (by decide) rfl (fun ls hl => ?_)
          refine lv_goto (tgt := 6) hx hb dX0_seatLate_56 (by decide) ?_
          exact ih_1 (v7_1 + 1) y_10  (by omega) (by omega) (up f_1 23 (upd (f_1 23) b1_3_j x_7)) u_1 hi_8 (KK.wr (by decide) (by decide) kk_1)  _ _ _ hw (lv_sub hl [0, 1, 3, 4, 5, 6] rfl)
  exact loop_1 _ 0 le  (by omega)  (Nat.lt_succ_self _) f u hi KK.rf  _ _ _ hw (lv_sub hl [0, 1, 2, 3, 4, 5] rfl)
