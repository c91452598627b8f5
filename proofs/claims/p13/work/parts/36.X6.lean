set_option maxHeartbeats 4000000 in
set_option maxRecDepth 100000 in
theorem k_X6_addTank (l : Launch) (D : va_G) (a : Nat → Nat) (cI cZ : ClassId) (f : FF) (u : UU) (ar : Int32) (mo : Int32) (hi : IV f)  : KI l yX6_addTank cX6_addTank 3 (some .int) ({ frames := 1, cells := 0, slots := 0, locals := 12 } : Room) D a cI cZ [.ref (a 3), .int ar, .int mo] f u (fun r f2 u2 => IV f2 ∧ (r, vC f2) = S_tk mo (vC f) ∧ KP f f2) := by
  refine KX.of (by decide) (Nat.le_of_ble_eq_true rfl) ?_
  intro p e s m below meth c cx hw hr hk ls hl
  have cx : Cx p s m _ c cX6_addTank RX6 3 D cI cZ := cx
  have hl : lv_has ls 3 [(0, .ref (a 3)), (1, .int ar), (2, .int mo)] := hl
  have hx := cx.1.1
  have hb := cx.1.2.1
  refine lv_aload_n hx hb dX6_addTank_0 rfl (lv_at hl 0 rfl) ?_
  refine gf_X6_21 cx hw dX6_addTank_1 ?_
  obtain ⟨n_1, hn_1, en_1⟩ := IV.s_3_3 hi
  refine topc (y := (nI n_1)) en_1 ?_
  refine lv_iconst (v := 4) hx hb dX6_addTank_4 (by decide) ?_
  refine lv_icmp_lt (tgt := 11) hx hb dX6_addTank_5 (by decide) (fun c_2 => ?_) (fun c_2 => ?_)
  · have c_2 : n_1 < 4 := (nI_ltI (a := n_1) (b := 4) (by omega) (by omega)).mp c_2
    refine lv_aload_n hx hb dX6_addTank_11 rfl (lv_at hl 0 rfl) ?_
    refine gf_X6_11 cx hw dX6_addTank_12 ?_
    refine lv_aload_n hx hb dX6_addTank_15 rfl (lv_at hl 0 rfl) ?_
    refine gf_X6_21 cx hw dX6_addTank_16 ?_
    refine topc (y := (nI n_1)) en_1 ?_
    refine lv_iload_n hx hb dX6_addTank_19 rfl (lv_at hl 1 rfl) ?_
    refine astN 24 n_1 cx hw rfl ws_24 (by omega) (by decide) dX6_addTank_20 (fun H locs hw => ?_)
    have hi_3 : IV (up f 24 (upd (f 24) n_1 ar)) := IV.wr hi 24 trivial
    refine lv_aload_n hx hb dX6_addTank_21 rfl (lv_at hl 0 rfl) ?_
    refine gf_X6_15 cx hw dX6_addTank_22 ?_
    refine lv_aload_n hx hb dX6_addTank_25 rfl (lv_at hl 0 rfl) ?_
    refine gf_X6_21 cx hw dX6_addTank_26 ?_
    refine topc (y := (nI n_1)) en_1 ?_
    refine lv_iload_n hx hb dX6_addTank_29 rfl (lv_at hl 2 rfl) ?_
    refine astN 25 n_1 cx hw rfl ws_25 (by omega) (by decide) dX6_addTank_30 (fun H locs hw => ?_)
    have hi_4 : IV (up (up f 24 (upd (f 24) n_1 ar)) 25 (upd ((up f 24 (upd (f 24) n_1 ar)) 25) n_1 mo)) := IV.wr hi_3 25 trivial
    have vp_5 : vC (up (up f 24 (upd (f 24) n_1 ar)) 25 (upd ((up f 24 (upd (f 24) n_1 ar)) 25) n_1 mo)) = (up (vC f) 2 (upd ((vC f) 2) n_1 mo)) := (vC_a_25).trans (congrArg (fun z : FF => up z 2 (upd (z 2) n_1 mo)) (rfl : vC (up f 24 (upd (f 24) n_1 ar)) = (vC f)))
    refine lv_aload_n hx hb dX6_addTank_31 rfl (lv_at hl 0 rfl) ?_
    refine lv_dup hx hb dX6_addTank_32 rfl ?_
    refine gf_X6_21 cx hw dX6_addTank_33 ?_
    refine topc (y := (nI n_1)) en_1 ?_
    refine lv_dup_x1 hx hb dX6_addTank_36 rfl rfl ?_
    refine lv_iconst (v := 1) hx hb dX6_addTank_37 (by decide) ?_
    refine lv_iadd hx hb dX6_addTank_38 ?_
    refine topc (y := (nI (n_1 + 1))) (nI_add n_1 1) ?_
    refine pf_X6_21 cx hw dX6_addTank_39 (fun H locs hw => ?_)
    have hi_6 : IV (up (up (up f 24 (upd (f 24) n_1 ar)) 25 (upd ((up f 24 (upd (f 24) n_1 ar)) 25) n_1 mo)) 3 (upd ((up (up f 24 (upd (f 24) n_1 ar)) 25 (upd ((up f 24 (upd (f 24) n_1 ar)) 25) n_1 mo)) 3) 3 (nI (n_1 + 1)))) := IV.t_3_3 hi_4 (okc_n (j := (n_1 + 1)) (by omega))
    have vp_7 : vC (up (up (up f 24 (upd (f 24) n_1 ar)) 25 (upd ((up f 24 (upd (f 24) n_1 ar)) 25) n_1 mo)) 3 (upd ((up (up f 24 (upd (f 24) n_1 ar)) 25 (upd ((up f 24 (upd (f 24) n_1 ar)) 25) n_1 mo)) 3) 3 (nI (n_1 + 1)))) = (up (up (vC f) 2 (upd ((vC f) 2) n_1 mo)) 0 (upd ((up (vC f) 2 (upd ((vC f) 2) n_1 mo)) 0) 3 (nI (n_1 + 1)))) := (vC_s_3_3).trans (congrArg (fun z : FF => up z 0 (upd (z 0) 3 (nI (n_1 + 1)))) (vp_5 : vC (up (up f 24 (upd (f 24) n_1 ar)) 25 (upd ((up f 24 (upd (f 24) n_1 ar)) 25) n_1 mo)) = (up (vC f) 2 (upd ((vC f) 2) n_1 mo))))
    exact retI cx hw hr hk dX6_addTank_42 ⟨hi_6, ((congrArg (Prod.mk (nI n_1)) (vp_7 : vC (up (up (up f 24 (upd (f 24) n_1 ar)) 25 (upd ((up f 24 (upd (f 24) n_1 ar)) 25) n_1 mo)) 3 (upd ((up (up f 24 (upd (f 24) n_1 ar)) 25 (upd ((up f 24 (upd (f 24) n_1 ar)) 25) n_1 mo)) 3) 3 (nI (n_1 + 1)))) = (up (up (vC f) 2 (upd ((vC f) 2) n_1 mo)) 0 (upd ((up (vC f) 2 (upd ((vC f) 2) n_1 mo)) 0) 3 (nI (n_1 + 1)))))).trans (show _ = S_tk mo (vC f) from (S_tk_n (k := n_1) en_1 (by omega) (by omega)).symm)), (KP.up (by decide) (KP.up (by decide) (KP.up (by decide) KP.rf)))⟩
  · have c_2 : ¬ n_1 < 4 := fun z => c_2 ((nI_ltI (a := n_1) (b := 4) (by omega) (by omega)).mpr z)
    refine lv_bipush (v := (-4)) hx hb dX6_addTank_8 (by decide) ?_
    exact retI cx hw hr hk dX6_addTank_10 ⟨hi, ((congrArg (Prod.mk (-4)) (rfl : vC f = (vC f))).trans (show _ = S_tk mo (vC f) from (S_tk_f (k := n_1) en_1 (by omega)).symm)), KP.rf⟩

set_option maxHeartbeats 4000000 in
set_option maxRecDepth 100000 in
theorem k_X6_totalAmount (l : Launch) (D : va_G) (a : Nat → Nat) (cI cZ : ClassId) (f : FF) (u : UU)  (hi : IV f)  : KI l yX6_totalAmount cX6_totalAmount 3 (some .int) ({ frames := 1, cells := 0, slots := 0, locals := 12 } : Room) D a cI cZ [.ref (a 3)] f u (fun r f2 u2 => f = f2 ∧ u = u2) := by
  refine KX.of (by decide) (Nat.le_of_ble_eq_true rfl) ?_
  intro p e s m below meth c cx hw hr hk ls hl
  have cx : Cx p s m _ c cX6_totalAmount RX6 3 D cI cZ := cx
  have hl : lv_has ls 3 [(0, .ref (a 3))] := hl
  have hx := cx.1.1
  have hb := cx.1.2.1
  refine lv_iconst (v := 0) hx hb dX6_totalAmount_0 (by decide) ?_
  refine lv_istore_n (lv' := [(1, .int 0), (0, .ref (a 3))]) hx hb dX6_totalAmount_1 rfl hl (by decide) rfl (fun ls hl => ?_)
  refine lv_iconst (v := 0) hx hb dX6_totalAmount_2 (by decide) ?_
  refine lv_istore_n (lv' := [(2, .int 0), (1, .int 0), (0, .ref (a 3))]) hx hb dX6_totalAmount_3 rfl hl (by decide) rfl (fun ls hl => ?_)
  have loop_1 : ∀ (k_1 : Nat) (v2_1 : Nat) (v1_1 : Int32), v2_1 ≤ 4 → 4 + 1 - v2_1 < k_1 → ∀ (H : Heap) (locs : List Loc) (ls : Array Slot), Wd D a cI cZ s f u H locs → lv_has ls 3 [(2, .int (nI v2_1)), (1, .int v1_1), (0, .ref (a 3))] → W p l e ({ frames := 1, cells := 0, slots := 0, locals := 12 } : Room) s m ([.ref (a 3)] : List Value).toArray below meth c H locs 0 0 (MQ below (QI D a cI cZ (fun r f2 u2 => f = f2 ∧ u = u2)) ([.ref (a 3)] : List Value).toArray s 0 0 (AA a)) (F0 m 4 ls []) := by
    intro k_1
    induction k_1 with
    | zero => intros; omega
    | succ k_1 ih_1 =>
      intro v2_1 v1_1  hb0_1  hm_1  H locs ls hw hl
      refine lv_iload_n hx hb dX6_totalAmount_4 rfl (lv_at hl 0 rfl) ?_
      refine lv_aload_n hx hb dX6_totalAmount_5 rfl (lv_at hl 2 rfl) ?_
      refine gf_X6_21 cx hw dX6_totalAmount_6 ?_
      obtain ⟨n_2, hn_2, en_2⟩ := IV.s_3_3 hi
      refine topc (y := (nI n_2)) en_2 ?_
      refine lv_icmp_ge (tgt := 27) hx hb dX6_totalAmount_9 (by decide) (fun c_3 => ?_) (fun c_3 => ?_)
      · have c_3 : n_2 ≤ v2_1 := (nI_leI (a := n_2) (b := v2_1) (by omega) (by omega)).mp c_3
        refine lv_iload_n hx hb dX6_totalAmount_27 rfl (lv_at hl 1 rfl) ?_
        exact retI cx hw hr hk dX6_totalAmount_28 ⟨rfl, rfl⟩
      · have c_3 : ¬ n_2 ≤ v2_1 := fun z => c_3 ((nI_leI (a := n_2) (b := v2_1) (by omega) (by omega)).mpr z)
        refine lv_iload_n hx hb dX6_totalAmount_12 rfl (lv_at hl 1 rfl) ?_
        refine lv_aload_n hx hb dX6_totalAmount_13 rfl (lv_at hl 2 rfl) ?_
        refine gf_X6_18 cx hw dX6_totalAmount_14 ?_
        refine lv_iload_n hx hb dX6_totalAmount_17 rfl (lv_at hl 0 rfl) ?_
        refine aldN 26 v2_1 cx hw rfl (by omega) (by decide) dX6_totalAmount_18 ?_
        refine lv_topi (fun x_4 _ => ?_)
        refine lv_iadd hx hb dX6_totalAmount_19 ?_
        refine lv_topi (fun x_5 _ => ?_)
        refine lv_istore_n (lv' := [(1, .int x_5), (2, .int (nI v2_1)), (0, .ref (a 3))]) hx hb dX6_totalAmount_20 rfl hl (by decide) rfl (fun ls hl => ?_)
        refine lv_iinc (v := (nI (v2_1 + 1))) (lv' := [(2, .int (nI (v2_1 + 1))), (1, .int x_5), (0, .ref (a 3))]) hx hb dX6_totalAmount_21 hl (k := 1) rfl (nI_add v2_1 1) (by decide) rfl (fun ls hl => ?_)
        refine lv_goto (tgt := 4) hx hb dX6_totalAmount_24 (by decide) ?_
        exact ih_1 (v2_1 + 1) x_5  (by omega) (by omega) _ _ _ hw (lv_sub hl [0, 1, 2] rfl)
  exact loop_1 _ 0 0  (by omega)  (Nat.lt_succ_self _) _ _ _ hw (lv_sub hl [0, 1, 2] rfl)

set_option maxHeartbeats 4000000 in
set_option maxRecDepth 100000 in
theorem k_X6_momentLeft (l : Launch) (D : va_G) (a : Nat → Nat) (cI cZ : ClassId) (f : FF) (u : UU) (b : Int32) (hi : IV f)  : KL l yX6_momentLeft cX6_momentLeft 7 (some .long) ({ frames := 1, cells := 0, slots := 0, locals := 25 } : Room) D a cI cZ [.ref (a 3), .int b] f u (fun r f2 u2 => f = f2 ∧ u = u2) := by
  refine KX.of (by decide) (Nat.le_of_ble_eq_true rfl) ?_
  intro p e s m below meth c cx hw hr hk ls hl
  have cx : Cx p s m _ c cX6_momentLeft RX6 7 D cI cZ := cx
  have hl : lv_has ls 7 [(0, .ref (a 3)), (1, .int b)] := hl
  have hx := cx.1.1
  have hb := cx.1.2.1
  refine lv_lconst (v := 0) hx hb dX6_momentLeft_0 (by decide) ?_
  refine lv_lstore_n (lv' := [(2, .long 0), (0, .ref (a 3)), (1, .int b)]) hx hb dX6_momentLeft_1 rfl hl (by decide) rfl (fun ls hl => ?_)
  refine lv_iload_n hx hb dX6_momentLeft_2 rfl (lv_at hl 2 rfl) ?_
  refine lv_istore (lv' := [(4, .int b), (2, .long 0), (0, .ref (a 3)), (1, .int b)]) hx hb dX6_momentLeft_3 hl (by decide) rfl (fun ls hl => ?_)
  refine lv_aload_n hx hb dX6_momentLeft_5 rfl (lv_at hl 2 rfl) ?_
  refine gf_X6_21 cx hw dX6_momentLeft_6 ?_
  obtain ⟨n_1, hn_1, en_1⟩ := IV.s_3_3 hi
  refine topc (y := (nI n_1)) en_1 ?_
  refine lv_iconst (v := 1) hx hb dX6_momentLeft_9 (by decide) ?_
  refine lv_isub hx hb dX6_momentLeft_10 ?_
  refine lv_istore (lv' := [(5, .int (nI n_1 - 1)), (4, .int b), (2, .long 0), (0, .ref (a 3)), (1, .int b)]) hx hb dX6_momentLeft_11 hl (by decide) rfl (fun ls hl => ?_)
  have loop_2 : ∀ (k_2 : Nat) (v5_2 : Nat) (v4_2 : Int32) (v2_2 : Int64), v5_2 ≤ 4 → v5_2 < k_2 → ∀ (H : Heap) (locs : List Loc) (ls : Array Slot), Wd D a cI cZ s f u H locs → lv_has ls 7 [(5, .int (nI v5_2 - 1)), (4, .int v4_2), (2, .long v2_2), (0, .ref (a 3)), (1, .int b)] → W p l e ({ frames := 1, cells := 0, slots := 0, locals := 25 } : Room) s m ([.ref (a 3), .int b] : List Value).toArray below meth c H locs 0 0 (MQ below (QL D a cI cZ (fun r f2 u2 => f = f2 ∧ u = u2)) ([.ref (a 3), .int b] : List Value).toArray s 0 0 (AA a)) (F0 m 13 ls []) := by
    intro k_2
    induction k_2 with
    | zero => intros; omega
    | succ k_2 ih_2 =>
      intro v5_2 v4_2 v2_2  hb0_2  hm_2  H locs ls hw hl
      refine lv_iload hx hb dX6_momentLeft_13 (lv_at hl 0 rfl) ?_
      rcases nat_01 v5_2 with z_3 | ⟨t_3, z_3⟩
      · subst z_3
        have hl := hl
        refine topc (y := (-1)) nI_0m1 ?_
        rw [nI_0m1] at hl
        refine lv_if_lt (tgt := 68) hx hb dX6_momentLeft_15 (by decide) (fun _ => ?_) (fun q => absurd (by decide) q)
        refine lv_lload_n hx hb dX6_momentLeft_68 rfl (lv_at hl 2 rfl) ?_
        exact retL cx hw hr hk dX6_momentLeft_69 ⟨rfl, rfl⟩
      · subst z_3
        have hl := hl
        refine topc (y := (nI t_3)) (nI_pred t_3) ?_
        rw [nI_pred t_3] at hl
        refine lv_if_lt (tgt := 68) hx hb dX6_momentLeft_15 (by decide) (fun q => absurd q (nI_pos (by omega))) (fun _ => ?_)
        refine lv_iload hx hb dX6_momentLeft_18 (lv_at hl 1 rfl) ?_
        refine lv_aload_n hx hb dX6_momentLeft_20 rfl (lv_at hl 3 rfl) ?_
        refine gf_X6_18 cx hw dX6_momentLeft_21 ?_
        refine lv_iload hx hb dX6_momentLeft_24 (lv_at hl 0 rfl) ?_
        refine aldN 26 t_3 cx hw rfl (by omega) (by decide) dX6_momentLeft_26 ?_
        refine lv_topi (fun x_4 _ => ?_)
        refine jMin (rest := []) cx hl.1 mm_3_31 (Nat.le_of_ble_eq_true rfl) (Nat.le_of_ble_eq_true rfl) ⟨Nat.zero_le _, Nat.zero_le _⟩ dX6_momentLeft_27 (fun x_5 => ?_)
        refine lv_istore (lv' := [(6, .int x_5), (5, .int (nI t_3)), (4, .int v4_2), (2, .long v2_2), (0, .ref (a 3)), (1, .int b)]) hx hb dX6_momentLeft_30 hl (by decide) rfl (fun ls hl => ?_)
        refine lv_iload hx hb dX6_momentLeft_32 (lv_at hl 2 rfl) ?_
        refine lv_iload hx hb dX6_momentLeft_34 (lv_at hl 0 rfl) ?_
        refine lv_isub hx hb dX6_momentLeft_36 ?_
        refine lv_topi (fun x_6 _ => ?_)
        refine lv_istore (lv' := [(4, .int x_6), (6, .int x_5), (5, .int (nI t_3)), (2, .long v2_2), (0, .ref (a 3)), (1, .int b)]) hx hb dX6_momentLeft_37 hl (by decide) rfl (fun ls hl => ?_)
        refine lv_lload_n hx hb dX6_momentLeft_39 rfl (lv_at hl 3 rfl) ?_
        refine lv_aload_n hx hb dX6_momentLeft_40 rfl (lv_at hl 4 rfl) ?_
        refine gf_X6_18 cx hw dX6_momentLeft_41 ?_
        refine lv_iload hx hb dX6_momentLeft_44 (lv_at hl 2 rfl) ?_
        refine aldN 26 t_3 cx hw rfl (by omega) (by decide) dX6_momentLeft_46 ?_
        refine lv_topi (fun x_7 _ => ?_)
        refine lv_iload hx hb dX6_momentLeft_47 (lv_at hl 1 rfl) ?_
        refine lv_isub hx hb dX6_momentLeft_49 ?_
        refine lv_topi (fun x_8 _ => ?_)
        refine lv_i2l hx hb dX6_momentLeft_50 rfl ?_
        refine lv_topl (fun y_9 _ => ?_)
        refine lv_aload_n hx hb dX6_momentLeft_51 rfl (lv_at hl 4 rfl) ?_
        refine gf_X6_11 cx hw dX6_momentLeft_52 ?_
        refine lv_iload hx hb dX6_momentLeft_55 (lv_at hl 2 rfl) ?_
        refine aldN 24 t_3 cx hw rfl (by omega) (by decide) dX6_momentLeft_57 ?_
        refine lv_topi (fun x_10 _ => ?_)
        refine lv_i2l hx hb dX6_momentLeft_58 rfl ?_
        refine lv_topl (fun y_11 _ => ?_)
        refine lv_lmul hx hb dX6_momentLeft_59 ?_
        refine lv_topl (fun y_12 _ => ?_)
        refine lv_ladd hx hb dX6_momentLeft_60 ?_
        refine lv_topl (fun y_13 _ => ?_)
        refine lv_lstore_n (lv' := [(2, .long y_13), (4, .int x_6), (6, .int x_5), (5, .int (nI t_3)), (0, .ref (a 3)), (1, .int b)]) hx hb dX6_momentLeft_61 rfl hl (by decide) rfl (fun ls hl => ?_)
        refine lv_iinc (v := (nI t_3 - 1)) (lv' := [(5, .int (nI t_3 - 1)), (2, .long y_13), (4, .int x_6), (6, .int x_5), (0, .ref (a 3)), (1, .int b)]) hx hb dX6_momentLeft_62 hl (k := 3) rfl (nI_dec t_3) (by decide) rfl (fun ls hl => ?_)
        refine lv_goto (tgt := 13) hx hb dX6_momentLeft_65 (by decide) ?_
        exact ih_2 t_3 x_6 y_13  (by omega) (by omega) _ _ _ hw (lv_sub hl [0, 2, 1, 4, 5] rfl)
  exact loop_2 _ n_1 b 0  (by omega)  (Nat.lt_succ_self _) _ _ _ hw (lv_sub hl [0, 1, 2, 3, 4] rfl)

set_option maxHeartbeats 4000000 in
set_option maxRecDepth 100000 in
theorem k_X6_nextDryMoment (l : Launch) (D : va_G) (a : Nat → Nat) (cI cZ : ClassId) (f : FF) (u : UU) (b : Int32) (hi : IV f)  : KI l yX6_nextDryMoment cX6_nextDryMoment 4 (some .int) ({ frames := 1, cells := 0, slots := 0, locals := 12 } : Room) D a cI cZ [.ref (a 3), .int b] f u (fun r f2 u2 => f = f2 ∧ u = u2) := by
  refine KX.of (by decide) (Nat.le_of_ble_eq_true rfl) ?_
  intro p e s m below meth c cx hw hr hk ls hl
  have cx : Cx p s m _ c cX6_nextDryMoment RX6 4 D cI cZ := cx
  have hl : lv_has ls 4 [(0, .ref (a 3)), (1, .int b)] := hl
  have hx := cx.1.1
  have hb := cx.1.2.1
  refine lv_iconst (v := 0) hx hb dX6_nextDryMoment_0 (by decide) ?_
  refine lv_istore_n (lv' := [(2, .int 0), (0, .ref (a 3)), (1, .int b)]) hx hb dX6_nextDryMoment_1 rfl hl (by decide) rfl (fun ls hl => ?_)
  refine lv_aload_n hx hb dX6_nextDryMoment_2 rfl (lv_at hl 1 rfl) ?_
  refine gf_X6_21 cx hw dX6_nextDryMoment_3 ?_
  obtain ⟨n_1, hn_1, en_1⟩ := IV.s_3_3 hi
  refine topc (y := (nI n_1)) en_1 ?_
  refine lv_iconst (v := 1) hx hb dX6_nextDryMoment_6 (by decide) ?_
  refine lv_isub hx hb dX6_nextDryMoment_7 ?_
  refine lv_istore_n (lv' := [(3, .int (nI n_1 - 1)), (2, .int 0), (0, .ref (a 3)), (1, .int b)]) hx hb dX6_nextDryMoment_8 rfl hl (by decide) rfl (fun ls hl => ?_)
  have loop_2 : ∀ (k_2 : Nat) (v3_2 : Nat) (v2_2 : Int32), v3_2 ≤ 4 → v3_2 < k_2 → ∀ (H : Heap) (locs : List Loc) (ls : Array Slot), Wd D a cI cZ s f u H locs → lv_has ls 4 [(3, .int (nI v3_2 - 1)), (2, .int v2_2), (0, .ref (a 3)), (1, .int b)] → W p l e ({ frames := 1, cells := 0, slots := 0, locals := 12 } : Room) s m ([.ref (a 3), .int b] : List Value).toArray below meth c H locs 0 0 (MQ below (QI D a cI cZ (fun r f2 u2 => f = f2 ∧ u = u2)) ([.ref (a 3), .int b] : List Value).toArray s 0 0 (AA a)) (F0 m 9 ls []) := by
    intro k_2
    induction k_2 with
    | zero => intros; omega
    | succ k_2 ih_2 =>
      intro v3_2 v2_2  hb0_2  hm_2  H locs ls hw hl
      refine lv_iload_n hx hb dX6_nextDryMoment_9 rfl (lv_at hl 0 rfl) ?_
      rcases nat_01 v3_2 with z_3 | ⟨t_3, z_3⟩
      · subst z_3
        have hl := hl
        refine topc (y := (-1)) nI_0m1 ?_
        rw [nI_0m1] at hl
        refine lv_if_lt (tgt := 35) hx hb dX6_nextDryMoment_10 (by decide) (fun _ => ?_) (fun q => absurd (by decide) q)
        refine lv_iload_n hx hb dX6_nextDryMoment_35 rfl (lv_at hl 3 rfl) ?_
        exact retI cx hw hr hk dX6_nextDryMoment_36 ⟨rfl, rfl⟩
      · subst z_3
        have hl := hl
        refine topc (y := (nI t_3)) (nI_pred t_3) ?_
        rw [nI_pred t_3] at hl
        refine lv_if_lt (tgt := 35) hx hb dX6_nextDryMoment_10 (by decide) (fun q => absurd q (nI_pos (by omega))) (fun _ => ?_)
        refine lv_iload_n hx hb dX6_nextDryMoment_13 rfl (lv_at hl 1 rfl) ?_
        refine lv_aload_n hx hb dX6_nextDryMoment_14 rfl (lv_at hl 2 rfl) ?_
        refine gf_X6_18 cx hw dX6_nextDryMoment_15 ?_
        refine lv_iload_n hx hb dX6_nextDryMoment_18 rfl (lv_at hl 0 rfl) ?_
        refine aldN 26 t_3 cx hw rfl (by omega) (by decide) dX6_nextDryMoment_19 ?_
        refine lv_topi (fun x_4 _ => ?_)
        refine lv_iadd hx hb dX6_nextDryMoment_20 ?_
        refine lv_topi (fun x_5 _ => ?_)
        refine lv_istore_n (lv' := [(2, .int x_5), (3, .int (nI t_3)), (0, .ref (a 3)), (1, .int b)]) hx hb dX6_nextDryMoment_21 rfl hl (by decide) rfl (fun ls hl => ?_)
        refine lv_iload_n hx hb dX6_nextDryMoment_22 rfl (lv_at hl 0 rfl) ?_
        refine lv_iload_n hx hb dX6_nextDryMoment_23 rfl (lv_at hl 3 rfl) ?_
        refine lv_icmp_lt (tgt := 29) hx hb dX6_nextDryMoment_24 (by decide) (fun _ => ?_) (fun _ => ?_)
        · refine lv_iinc (v := (nI t_3 - 1)) (lv' := [(3, .int (nI t_3 - 1)), (2, .int x_5), (0, .ref (a 3)), (1, .int b)]) hx hb dX6_nextDryMoment_29 hl (k := 1) rfl (nI_dec t_3) (by decide) rfl (fun ls hl => ?_)
          refine lv_goto (tgt := 9) hx hb dX6_nextDryMoment_32 (by decide) ?_
          exact ih_2 t_3 x_5  (by omega) (by omega) _ _ _ hw (lv_sub hl [0, 1, 2, 3] rfl)
        · refine lv_iload_n hx hb dX6_nextDryMoment_27 rfl (lv_at hl 0 rfl) ?_
          exact retI cx hw hr hk dX6_nextDryMoment_28 ⟨rfl, rfl⟩
  exact loop_2 _ n_1 0  (by omega)  (Nat.lt_succ_self _) _ _ _ hw (lv_sub hl [0, 1, 2, 3] rfl)
