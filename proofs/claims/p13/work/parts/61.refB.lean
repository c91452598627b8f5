set_option maxHeartbeats 4000000 in
set_option maxRecDepth 100000 in
theorem k_X8_dryWeight (l : Launch) (D : va_G) (a : Nat → Nat) (cI cZ : ClassId) (f : FF) (u : UU)  (hi : IV f)  : KI l yX8_dryWeight cX8_dryWeight 3 (some .int) ({ frames := 3, cells := 0, slots := 0, locals := 56 } : Room) D a cI cZ [.ref (a 36)] f u (fun r f2 u2 => f = f2 ∧ u = u2) := by
  refine KX.of (by decide) (Nat.le_of_ble_eq_true rfl) ?_
  intro p e s m below meth c cx hw hr hk ls hl
  have cx : Cx p s m _ c cX8_dryWeight RX8 3 D cI cZ := cx
  have hl : lv_has ls 3 [(0, .ref (a 36))] := hl
  have hx := cx.1.1
  have hb := cx.1.2.1
  refine lv_aload_n hx hb dX8_dryWeight_0 rfl (lv_at hl 0 rfl) ?_
  refine gf_X8_15 cx hw dX8_dryWeight_1 ?_
  refine lv_topi (fun x_1 _ => ?_)
  refine lv_istore_n (lv' := [(1, .int x_1), (0, .ref (a 36))]) hx hb dX8_dryWeight_4 rfl hl (by decide) rfl (fun ls hl => ?_)
  refine lv_iconst (v := 0) hx hb dX8_dryWeight_5 (by decide) ?_
  refine lv_istore_n (lv' := [(2, .int 0), (1, .int x_1), (0, .ref (a 36))]) hx hb dX8_dryWeight_6 rfl hl (by decide) rfl (fun ls hl => ?_)
  have loop_2 : ∀ (k_2 : Nat) (v2_2 : Nat) (v1_2 : Int32), v2_2 ≤ 4 → 4 + 1 - v2_2 < k_2 → ∀ (H : Heap) (locs : List Loc) (ls : Array Slot), Wd D a cI cZ s f u H locs → lv_has ls 3 [(2, .int (nI v2_2)), (1, .int v1_2), (0, .ref (a 36))] → W p l e ({ frames := 3, cells := 0, slots := 0, locals := 56 } : Room) s m ([.ref (a 36)] : List Value).toArray below meth c H locs 0 0 (MQ below (QI D a cI cZ (fun r f2 u2 => f = f2 ∧ u = u2)) ([.ref (a 36)] : List Value).toArray s 0 0 (AA a)) (F0 m 7 ls []) := by
    intro k_2
    induction k_2 with
    | zero => intros; omega
    | succ k_2 ih_2 =>
      intro v2_2 v1_2  hb0_2  hm_2  H locs ls hw hl
      refine lv_iload_n hx hb dX8_dryWeight_7 rfl (lv_at hl 0 rfl) ?_
      refine lv_aload_n hx hb dX8_dryWeight_8 rfl (lv_at hl 2 rfl) ?_
      refine gf_X8_99 cx hw dX8_dryWeight_9 ?_
      obtain ⟨n_3, hn_3, en_3⟩ := IV.s_36_3 hi
      refine topc (y := (nI n_3)) en_3 ?_
      refine lv_icmp_ge (tgt := 29) hx hb dX8_dryWeight_12 (by decide) (fun c_4 => ?_) (fun c_4 => ?_)
      · have c_4 : n_3 ≤ v2_2 := (nI_leI (a := n_3) (b := v2_2) (by omega) (by omega)).mp c_4
        refine lv_iconst (v := 0) hx hb dX8_dryWeight_29 (by decide) ?_
        refine lv_istore_n (lv' := [(2, .int 0), (1, .int v1_2), (0, .ref (a 36))]) hx hb dX8_dryWeight_30 rfl hl (by decide) rfl (fun ls hl => ?_)
        have loop_5 : ∀ (k_5 : Nat) (v2_5 : Nat) (v1_5 : Int32), v2_5 ≤ 10 → 10 + 1 - v2_5 < k_5 → ∀ (H : Heap) (locs : List Loc) (ls : Array Slot), Wd D a cI cZ s f u H locs → lv_has ls 3 [(2, .int (nI v2_5)), (1, .int v1_5), (0, .ref (a 36))] → W p l e ({ frames := 3, cells := 0, slots := 0, locals := 56 } : Room) s m ([.ref (a 36)] : List Value).toArray below meth c H locs 0 0 (MQ below (QI D a cI cZ (fun r f2 u2 => f = f2 ∧ u = u2)) ([.ref (a 36)] : List Value).toArray s 0 0 (AA a)) (F0 m 31 ls []) := by
          intro k_5
          induction k_5 with
          | zero => intros; omega
          | succ k_5 ih_5 =>
            intro v2_5 v1_5  hb0_5  hm_5  H locs ls hw hl
            refine lv_iload_n hx hb dX8_dryWeight_31 rfl (lv_at hl 0 rfl) ?_
            refine lv_aload_n hx hb dX8_dryWeight_32 rfl (lv_at hl 2 rfl) ?_
            refine gf_X8_116 cx hw dX8_dryWeight_33 ?_
            obtain ⟨n_6, hn_6, en_6⟩ := IV.s_36_16 hi
            refine topc (y := (nI n_6)) en_6 ?_
            refine lv_icmp_ge (tgt := 59) hx hb dX8_dryWeight_36 (by decide) (fun c_7 => ?_) (fun c_7 => ?_)
            · have c_7 : n_6 ≤ v2_5 := (nI_leI (a := n_6) (b := v2_5) (by omega) (by omega)).mp c_7
              refine lv_iload_n hx hb dX8_dryWeight_59 rfl (lv_at hl 1 rfl) ?_
              exact retI cx hw hr hk dX8_dryWeight_60 ⟨rfl, rfl⟩
            · have c_7 : ¬ n_6 ≤ v2_5 := fun z => c_7 ((nI_leI (a := n_6) (b := v2_5) (by omega) (by omega)).mpr z)
              refine lv_iload_n hx hb dX8_dryWeight_39 rfl (lv_at hl 1 rfl) ?_
              refine lv_aload_n hx hb dX8_dryWeight_40 rfl (lv_at hl 2 rfl) ?_
              refine gf_X8_58 cx hw dX8_dryWeight_41 ?_
              refine lv_iload_n hx hb dX8_dryWeight_44 rfl (lv_at hl 0 rfl) ?_
              refine aldN 50 v2_5 cx hw rfl (by omega) (by decide) dX8_dryWeight_45 ?_
              refine lv_topi (fun x_8 _ => ?_)
              refine lv_aload_n hx hb dX8_dryWeight_46 rfl (lv_at hl 2 rfl) ?_
              refine gf_X8_70 cx hw dX8_dryWeight_47 ?_
              refine lv_topi (fun x_9 _ => ?_)
              refine lv_imul hx hb dX8_dryWeight_50 ?_
              refine lv_topi (fun x_10 _ => ?_)
              refine lv_iadd hx hb dX8_dryWeight_51 ?_
              refine lv_topi (fun x_11 _ => ?_)
              refine lv_istore_n (lv' := [(1, .int x_11), (2, .int (nI v2_5)), (0, .ref (a 36))]) hx hb dX8_dryWeight_52 rfl hl (by decide) rfl (fun ls hl => ?_)
              refine lv_iinc (v := (nI (v2_5 + 1))) (lv' := [(2, .int (nI (v2_5 + 1))), (1, .int x_11), (0, .ref (a 36))]) hx hb dX8_dryWeight_53 hl (k := 1) rfl (nI_add v2_5 1) (by decide) rfl (fun ls hl => ?_)
              refine lv_goto (tgt := 31) hx hb dX8_dryWeight_56 (by decide) ?_
              exact ih_5 (v2_5 + 1) x_11  (by omega) (by omega) _ _ _ hw (lv_sub hl [0, 1, 2] rfl)
        exact loop_5 _ 0 v1_2  (by omega)  (Nat.lt_succ_self _) _ _ _ hw (lv_sub hl [0, 1, 2] rfl)
      · have c_4 : ¬ n_3 ≤ v2_2 := fun z => c_4 ((nI_leI (a := n_3) (b := v2_2) (by omega) (by omega)).mpr z)
        refine lv_iload_n hx hb dX8_dryWeight_15 rfl (lv_at hl 1 rfl) ?_
        refine lv_aload_n hx hb dX8_dryWeight_16 rfl (lv_at hl 2 rfl) ?_
        refine lv_iload_n hx hb dX8_dryWeight_17 rfl (lv_at hl 0 rfl) ?_
        refine goI hw (runVW (k := 36) (As := [.int (nI v2_2)]) (rest := [.int v1_2]) cx hw (k_X8_weightOf l D a cI cZ f u v2_2  hi (by omega)) lk_X8_127 rfl rfl ⟨Nat.le_of_ble_eq_true rfl, Nat.le_of_ble_eq_true rfl⟩ ⟨rfl, rfl⟩ ⟨Nat.zero_le _, Nat.zero_le _⟩ rfl rfl hl.1 (Nat.le_of_ble_eq_true rfl) dX8_dryWeight_18) (fun r_12 f_12 u_12 H locs hp_12 hw => ?_)
        obtain ⟨rfl, rfl⟩ := hp_12
        refine lv_iadd hx hb dX8_dryWeight_21 ?_
        refine lv_topi (fun x_13 _ => ?_)
        refine lv_istore_n (lv' := [(1, .int x_13), (2, .int (nI v2_2)), (0, .ref (a 36))]) hx hb dX8_dryWeight_22 rfl hl (by decide) rfl (fun ls hl => ?_)
        refine lv_iinc (v := (nI (v2_2 + 1))) (lv' := [(2, .int (nI (v2_2 + 1))), (1, .int x_13), (0, .ref (a 36))]) hx hb dX8_dryWeight_23 hl (k := 1) rfl (nI_add v2_2 1) (by decide) rfl (fun ls hl => ?_)
        refine lv_goto (tgt := 7) hx hb dX8_dryWeight_26 (by decide) ?_
        exact ih_2 (v2_2 + 1) x_13  (by omega) (by omega) _ _ _ hw (lv_sub hl [0, 1, 2] rfl)
  exact loop_2 _ 0 x_1  (by omega)  (Nat.lt_succ_self _) _ _ _ hw (lv_sub hl [0, 1, 2] rfl)

set_option maxHeartbeats 4000000 in
set_option maxRecDepth 100000 in
theorem k_X8_dryMoment (l : Launch) (D : va_G) (a : Nat → Nat) (cI cZ : ClassId) (f : FF) (u : UU)  (hi : IV f)  : KL l yX8_dryMoment cX8_dryMoment 5 (some .long) ({ frames := 2, cells := 0, slots := 0, locals := 33 } : Room) D a cI cZ [.ref (a 36)] f u (fun r f2 u2 => f = f2 ∧ u = u2) := by
  refine KX.of (by decide) (Nat.le_of_ble_eq_true rfl) ?_
  intro p e s m below meth c cx hw hr hk ls hl
  have cx : Cx p s m _ c cX8_dryMoment RX8 5 D cI cZ := cx
  have hl : lv_has ls 5 [(0, .ref (a 36))] := hl
  have hx := cx.1.1
  have hb := cx.1.2.1
  refine lv_aload_n hx hb dX8_dryMoment_0 rfl (lv_at hl 0 rfl) ?_
  refine gf_X8_15 cx hw dX8_dryMoment_1 ?_
  refine lv_topi (fun x_1 _ => ?_)
  refine lv_i2l hx hb dX8_dryMoment_4 rfl ?_
  refine lv_topl (fun y_2 _ => ?_)
  refine lv_aload_n hx hb dX8_dryMoment_5 rfl (lv_at hl 0 rfl) ?_
  refine gf_X8_113 cx hw dX8_dryMoment_6 ?_
  refine lv_topi (fun x_3 _ => ?_)
  refine lv_i2l hx hb dX8_dryMoment_9 rfl ?_
  refine lv_topl (fun y_4 _ => ?_)
  refine lv_lmul hx hb dX8_dryMoment_10 ?_
  refine lv_topl (fun y_5 _ => ?_)
  refine lv_lstore_n (lv' := [(1, .long y_5), (0, .ref (a 36))]) hx hb dX8_dryMoment_11 rfl hl (by decide) rfl (fun ls hl => ?_)
  refine lv_iconst (v := 0) hx hb dX8_dryMoment_12 (by decide) ?_
  refine lv_istore_n (lv' := [(3, .int 0), (1, .long y_5), (0, .ref (a 36))]) hx hb dX8_dryMoment_13 rfl hl (by decide) rfl (fun ls hl => ?_)
  have loop_6 : ∀ (k_6 : Nat) (v3_6 : Nat) (v1_6 : Int64), v3_6 ≤ 4 → 4 + 1 - v3_6 < k_6 → ∀ (H : Heap) (locs : List Loc) (ls : Array Slot), Wd D a cI cZ s f u H locs → lv_has ls 5 [(3, .int (nI v3_6)), (1, .long v1_6), (0, .ref (a 36))] → W p l e ({ frames := 2, cells := 0, slots := 0, locals := 33 } : Room) s m ([.ref (a 36)] : List Value).toArray below meth c H locs 0 0 (MQ below (QL D a cI cZ (fun r f2 u2 => f = f2 ∧ u = u2)) ([.ref (a 36)] : List Value).toArray s 0 0 (AA a)) (F0 m 14 ls []) := by
    intro k_6
    induction k_6 with
    | zero => intros; omega
    | succ k_6 ih_6 =>
      intro v3_6 v1_6  hb0_6  hm_6  H locs ls hw hl
      refine lv_iload_n hx hb dX8_dryMoment_14 rfl (lv_at hl 0 rfl) ?_
      refine lv_aload_n hx hb dX8_dryMoment_15 rfl (lv_at hl 2 rfl) ?_
      refine gf_X8_99 cx hw dX8_dryMoment_16 ?_
      obtain ⟨n_7, hn_7, en_7⟩ := IV.s_36_3 hi
      refine topc (y := (nI n_7)) en_7 ?_
      refine lv_icmp_ge (tgt := 77) hx hb dX8_dryMoment_19 (by decide) (fun c_8 => ?_) (fun c_8 => ?_)
      · have c_8 : n_7 ≤ v3_6 := (nI_leI (a := n_7) (b := v3_6) (by omega) (by omega)).mp c_8
        refine lv_iconst (v := 0) hx hb dX8_dryMoment_77 (by decide) ?_
        refine lv_istore_n (lv' := [(3, .int 0), (1, .long v1_6), (0, .ref (a 36))]) hx hb dX8_dryMoment_78 rfl hl (by decide) rfl (fun ls hl => ?_)
        have loop_9 : ∀ (k_9 : Nat) (v3_9 : Nat) (v1_9 : Int64), v3_9 ≤ 10 → 10 + 1 - v3_9 < k_9 → ∀ (H : Heap) (locs : List Loc) (ls : Array Slot), Wd D a cI cZ s f u H locs → lv_has ls 5 [(3, .int (nI v3_9)), (1, .long v1_9), (0, .ref (a 36))] → W p l e ({ frames := 2, cells := 0, slots := 0, locals := 33 } : Room) s m ([.ref (a 36)] : List Value).toArray below meth c H locs 0 0 (MQ below (QL D a cI cZ (fun r f2 u2 => f = f2 ∧ u = u2)) ([.ref (a 36)] : List Value).toArray s 0 0 (AA a)) (F0 m 79 ls []) := by
          intro k_9
          induction k_9 with
          | zero => intros; omega
          | succ k_9 ih_9 =>
            intro v3_9 v1_9  hb0_9  hm_9  H locs ls hw hl
            refine lv_iload_n hx hb dX8_dryMoment_79 rfl (lv_at hl 0 rfl) ?_
            refine lv_aload_n hx hb dX8_dryMoment_80 rfl (lv_at hl 2 rfl) ?_
            refine gf_X8_116 cx hw dX8_dryMoment_81 ?_
            obtain ⟨n_10, hn_10, en_10⟩ := IV.s_36_16 hi
            refine topc (y := (nI n_10)) en_10 ?_
            refine lv_icmp_ge (tgt := 117) hx hb dX8_dryMoment_84 (by decide) (fun c_11 => ?_) (fun c_11 => ?_)
            · have c_11 : n_10 ≤ v3_9 := (nI_leI (a := n_10) (b := v3_9) (by omega) (by omega)).mp c_11
              refine lv_lload_n hx hb dX8_dryMoment_117 rfl (lv_at hl 1 rfl) ?_
              exact retL cx hw hr hk dX8_dryMoment_118 ⟨rfl, rfl⟩
            · have c_11 : ¬ n_10 ≤ v3_9 := fun z => c_11 ((nI_leI (a := n_10) (b := v3_9) (by omega) (by omega)).mpr z)
              refine lv_lload_n hx hb dX8_dryMoment_87 rfl (lv_at hl 1 rfl) ?_
              refine lv_aload_n hx hb dX8_dryMoment_88 rfl (lv_at hl 2 rfl) ?_
              refine gf_X8_58 cx hw dX8_dryMoment_89 ?_
              refine lv_iload_n hx hb dX8_dryMoment_92 rfl (lv_at hl 0 rfl) ?_
              refine aldN 50 v3_9 cx hw rfl (by omega) (by decide) dX8_dryMoment_93 ?_
              refine lv_topi (fun x_12 _ => ?_)
              refine lv_i2l hx hb dX8_dryMoment_94 rfl ?_
              refine lv_topl (fun y_13 _ => ?_)
              refine lv_aload_n hx hb dX8_dryMoment_95 rfl (lv_at hl 2 rfl) ?_
              refine gf_X8_70 cx hw dX8_dryMoment_96 ?_
              refine lv_topi (fun x_14 _ => ?_)
              refine lv_i2l hx hb dX8_dryMoment_99 rfl ?_
              refine lv_topl (fun y_15 _ => ?_)
              refine lv_lmul hx hb dX8_dryMoment_100 ?_
              refine lv_topl (fun y_16 _ => ?_)
              refine lv_aload_n hx hb dX8_dryMoment_101 rfl (lv_at hl 2 rfl) ?_
              refine gf_X8_52 cx hw dX8_dryMoment_102 ?_
              refine lv_iload_n hx hb dX8_dryMoment_105 rfl (lv_at hl 0 rfl) ?_
              refine aldN 48 v3_9 cx hw rfl (by omega) (by decide) dX8_dryMoment_106 ?_
              refine lv_topi (fun x_17 _ => ?_)
              refine lv_i2l hx hb dX8_dryMoment_107 rfl ?_
              refine lv_topl (fun y_18 _ => ?_)
              refine lv_lmul hx hb dX8_dryMoment_108 ?_
              refine lv_topl (fun y_19 _ => ?_)
              refine lv_ladd hx hb dX8_dryMoment_109 ?_
              refine lv_topl (fun y_20 _ => ?_)
              refine lv_lstore_n (lv' := [(1, .long y_20), (3, .int (nI v3_9)), (0, .ref (a 36))]) hx hb dX8_dryMoment_110 rfl hl (by decide) rfl (fun ls hl => ?_)
              refine lv_iinc (v := (nI (v3_9 + 1))) (lv' := [(3, .int (nI (v3_9 + 1))), (1, .long y_20), (0, .ref (a 36))]) hx hb dX8_dryMoment_111 hl (k := 1) rfl (nI_add v3_9 1) (by decide) rfl (fun ls hl => ?_)
              refine lv_goto (tgt := 79) hx hb dX8_dryMoment_114 (by decide) ?_
              exact ih_9 (v3_9 + 1) y_20  (by omega) (by omega) _ _ _ hw (lv_sub hl [0, 1, 2] rfl)
        exact loop_9 _ 0 v1_6  (by omega)  (Nat.lt_succ_self _) _ _ _ hw (lv_sub hl [0, 1, 2] rfl)
      · have c_8 : ¬ n_7 ≤ v3_6 := fun z => c_8 ((nI_leI (a := n_7) (b := v3_6) (by omega) (by omega)).mpr z)
        refine lv_iconst (v := 0) hx hb dX8_dryMoment_22 (by decide) ?_
        refine lv_istore (lv' := [(4, .int 0), (3, .int (nI v3_6)), (1, .long v1_6), (0, .ref (a 36))]) hx hb dX8_dryMoment_23 hl (by decide) rfl (fun ls hl => ?_)
        have loop_21 : ∀ (k_21 : Nat) (v4_21 : Nat) (v1_21 : Int64), v4_21 ≤ 8 → 8 + 1 - v4_21 < k_21 → ∀ (H : Heap) (locs : List Loc) (ls : Array Slot), Wd D a cI cZ s f u H locs → lv_has ls 5 [(4, .int (nI v4_21)), (3, .int (nI v3_6)), (1, .long v1_21), (0, .ref (a 36))] → W p l e ({ frames := 2, cells := 0, slots := 0, locals := 33 } : Room) s m ([.ref (a 36)] : List Value).toArray below meth c H locs 0 0 (MQ below (QL D a cI cZ (fun r f2 u2 => f = f2 ∧ u = u2)) ([.ref (a 36)] : List Value).toArray s 0 0 (AA a)) (F0 m 25 ls []) := by
          intro k_21
          induction k_21 with
          | zero => intros; omega
          | succ k_21 ih_21 =>
            intro v4_21 v1_21  hb0_21  hm_21  H locs ls hw hl
            refine lv_iload hx hb dX8_dryMoment_25 (lv_at hl 0 rfl) ?_
            refine lv_aload_n hx hb dX8_dryMoment_27 rfl (lv_at hl 3 rfl) ?_
            refine gf_X8_25 cx hw dX8_dryMoment_28 ?_
            refine lv_iload_n hx hb dX8_dryMoment_31 rfl (lv_at hl 1 rfl) ?_
            refine aldN 39 v3_6 cx hw rfl (by omega) (by decide) dX8_dryMoment_32 ?_
            obtain ⟨n_22, hn_22, en_22⟩ := IV.a_39 hi (i := v3_6) (by omega)
            refine topc (y := (nI n_22)) en_22 ?_
            refine lv_icmp_ge (tgt := 71) hx hb dX8_dryMoment_33 (by decide) (fun c_23 => ?_) (fun c_23 => ?_)
            · have c_23 : n_22 ≤ v4_21 := (nI_leI (a := n_22) (b := v4_21) (by omega) (by omega)).mp c_23
              refine lv_iinc (v := (nI (v3_6 + 1))) (lv' := [(3, .int (nI (v3_6 + 1))), (4, .int (nI v4_21)), (1, .long v1_21), (0, .ref (a 36))]) hx hb dX8_dryMoment_71 hl (k := 1) rfl (nI_add v3_6 1) (by decide) rfl (fun ls hl => ?_)
              refine lv_goto (tgt := 14) hx hb dX8_dryMoment_74 (by decide) ?_
              exact ih_6 (v3_6 + 1) v1_21  (by omega) (by omega) _ _ _ hw (lv_sub hl [0, 2, 3] rfl)
            · have c_23 : ¬ n_22 ≤ v4_21 := fun z => c_23 ((nI_leI (a := n_22) (b := v4_21) (by omega) (by omega)).mpr z)
              refine lv_lload_n hx hb dX8_dryMoment_36 rfl (lv_at hl 2 rfl) ?_
              refine lv_aload_n hx hb dX8_dryMoment_37 rfl (lv_at hl 3 rfl) ?_
              refine lv_bipush (v := 8) hx hb dX8_dryMoment_38 (by decide) ?_
              refine lv_iload_n hx hb dX8_dryMoment_40 rfl (lv_at hl 1 rfl) ?_
              refine lv_imul hx hb dX8_dryMoment_41 ?_
              refine topc (y := (nI (8 * v3_6))) (pk_mul 8 v3_6) ?_
              refine lv_iload hx hb dX8_dryMoment_42 (lv_at hl 0 rfl) ?_
              refine lv_iadd hx hb dX8_dryMoment_44 ?_
              refine topc (y := (nI ((8 * v3_6) + v4_21))) (nI_add (8 * v3_6) v4_21) ?_
              refine goI hw (runVW (k := 36) (As := [.int (nI ((8 * v3_6) + v4_21))]) (rest := [.long v1_21]) cx hw (k_X8_weightAt l D a cI cZ f u ((8 * v3_6) + v4_21)  hi (by omega)) lk_X8_123 rfl rfl ⟨Nat.le_of_ble_eq_true rfl, Nat.le_of_ble_eq_true rfl⟩ ⟨rfl, rfl⟩ ⟨Nat.zero_le _, Nat.zero_le _⟩ rfl rfl hl.1 (Nat.le_of_ble_eq_true rfl) dX8_dryMoment_45) (fun r_24 f_24 u_24 H locs hp_24 hw => ?_)
              obtain ⟨rfl, rfl⟩ := hp_24
              refine lv_i2l hx hb dX8_dryMoment_48 rfl ?_
              refine lv_topl (fun y_25 _ => ?_)
              refine lv_aload_n hx hb dX8_dryMoment_49 rfl (lv_at hl 3 rfl) ?_
              refine gf_X8_28 cx hw dX8_dryMoment_50 ?_
              refine lv_bipush (v := 8) hx hb dX8_dryMoment_53 (by decide) ?_
              refine lv_iload_n hx hb dX8_dryMoment_55 rfl (lv_at hl 1 rfl) ?_
              refine lv_imul hx hb dX8_dryMoment_56 ?_
              refine topc (y := (nI (8 * v3_6))) (pk_mul 8 v3_6) ?_
              refine lv_iload hx hb dX8_dryMoment_57 (lv_at hl 0 rfl) ?_
              refine lv_iadd hx hb dX8_dryMoment_59 ?_
              refine topc (y := (nI ((8 * v3_6) + v4_21))) (nI_add (8 * v3_6) v4_21) ?_
              refine aldN 40 ((8 * v3_6) + v4_21) cx hw rfl (by omega) (by decide) dX8_dryMoment_60 ?_
              refine lv_topi (fun x_26 _ => ?_)
              refine lv_i2l hx hb dX8_dryMoment_61 rfl ?_
              refine lv_topl (fun y_27 _ => ?_)
              refine lv_lmul hx hb dX8_dryMoment_62 ?_
              refine lv_topl (fun y_28 _ => ?_)
              refine lv_ladd hx hb dX8_dryMoment_63 ?_
              refine lv_topl (fun y_29 _ => ?_)
              refine lv_lstore_n (lv' := [(1, .long y_29), (4, .int (nI v4_21)), (3, .int (nI v3_6)), (0, .ref (a 36))]) hx hb dX8_dryMoment_64 rfl hl (by decide) rfl (fun ls hl => ?_)
              refine lv_iinc (v := (nI (v4_21 + 1))) (lv' := [(4, .int (nI (v4_21 + 1))), (1, .long y_29), (3, .int (nI v3_6)), (0, .ref (a 36))]) hx hb dX8_dryMoment_65 hl (k := 1) rfl (nI_add v4_21 1) (by decide) rfl (fun ls hl => ?_)
              refine lv_goto (tgt := 25) hx hb dX8_dryMoment_68 (by decide) ?_
              exact ih_21 (v4_21 + 1) y_29  (by omega) (by omega) _ _ _ hw (lv_sub hl [0, 2, 1, 3] rfl)
        exact loop_21 _ 0 v1_6  (by omega)  (Nat.lt_succ_self _) _ _ _ hw (lv_sub hl [0, 1, 2, 3] rfl)
  exact loop_6 _ 0 y_5  (by omega)  (Nat.lt_succ_self _) _ _ _ hw (lv_sub hl [0, 1, 2] rfl)

set_option maxHeartbeats 4000000 in
set_option maxRecDepth 100000 in
theorem k_X8_allFuel (l : Launch) (D : va_G) (a : Nat → Nat) (cI cZ : ClassId) (f : FF) (u : UU)  (hi : IV f)  : KI l yX8_allFuel cX8_allFuel 3 (some .int) ({ frames := 1, cells := 0, slots := 0, locals := 12 } : Room) D a cI cZ [.ref (a 36)] f u (fun r f2 u2 => f = f2 ∧ u = u2 ∧ ((∃ j, j ≤ 80000 ∧ r = nI j))) := by
  refine KX.of (by decide) (Nat.le_of_ble_eq_true rfl) ?_
  intro p e s m below meth c cx hw hr hk ls hl
  have cx : Cx p s m _ c cX8_allFuel RX8 3 D cI cZ := cx
  have hl : lv_has ls 3 [(0, .ref (a 36))] := hl
  have hx := cx.1.1
  have hb := cx.1.2.1
  refine lv_iconst (v := 0) hx hb dX8_allFuel_0 (by decide) ?_
  refine lv_istore_n (lv' := [(1, .int 0), (0, .ref (a 36))]) hx hb dX8_allFuel_1 rfl hl (by decide) rfl (fun ls hl => ?_)
  refine lv_iconst (v := 0) hx hb dX8_allFuel_2 (by decide) ?_
  refine lv_istore_n (lv' := [(2, .int 0), (1, .int 0), (0, .ref (a 36))]) hx hb dX8_allFuel_3 rfl hl (by decide) rfl (fun ls hl => ?_)
  have loop_1 : ∀ (k_1 : Nat) (v2_1 : Nat) (v1_1 : Nat), v2_1 ≤ 4 → (v1_1 ≤ 20000 * v2_1) → 4 + 1 - v2_1 < k_1 → ∀ (H : Heap) (locs : List Loc) (ls : Array Slot), Wd D a cI cZ s f u H locs → lv_has ls 3 [(2, .int (nI v2_1)), (1, .int (nI v1_1)), (0, .ref (a 36))] → W p l e ({ frames := 1, cells := 0, slots := 0, locals := 12 } : Room) s m ([.ref (a 36)] : List Value).toArray below meth c H locs 0 0 (MQ below (QI D a cI cZ (fun r f2 u2 => f = f2 ∧ u = u2 ∧ ((∃ j, j ≤ 80000 ∧ r = nI j)))) ([.ref (a 36)] : List Value).toArray s 0 0 (AA a)) (F0 m 4 ls []) := by
    intro k_1
    induction k_1 with
    | zero => intros; omega
    | succ k_1 ih_1 =>
      intro v2_1 v1_1  hb0_1 hacc hm_1  H locs ls hw hl
      refine lv_iload_n hx hb dX8_allFuel_4 rfl (lv_at hl 0 rfl) ?_
      refine lv_aload_n hx hb dX8_allFuel_5 rfl (lv_at hl 2 rfl) ?_
      refine gf_X8_119 cx hw dX8_allFuel_6 ?_
      obtain ⟨n_2, hn_2, en_2⟩ := IV.s_36_20 hi
      refine topc (y := (nI n_2)) en_2 ?_
      refine lv_icmp_ge (tgt := 27) hx hb dX8_allFuel_9 (by decide) (fun c_3 => ?_) (fun c_3 => ?_)
      · have c_3 : n_2 ≤ v2_1 := (nI_leI (a := n_2) (b := v2_1) (by omega) (by omega)).mp c_3
        refine lv_iload_n hx hb dX8_allFuel_27 rfl (lv_at hl 1 rfl) ?_
        exact retI cx hw hr hk dX8_allFuel_28 ⟨rfl, rfl, v1_1, by omega, rfl⟩
      · have c_3 : ¬ n_2 ≤ v2_1 := fun z => c_3 ((nI_leI (a := n_2) (b := v2_1) (by omega) (by omega)).mpr z)
        refine lv_iload_n hx hb dX8_allFuel_12 rfl (lv_at hl 1 rfl) ?_
        refine lv_aload_n hx hb dX8_allFuel_13 rfl (lv_at hl 2 rfl) ?_
        refine gf_X8_67 cx hw dX8_allFuel_14 ?_
        refine lv_iload_n hx hb dX8_allFuel_17 rfl (lv_at hl 0 rfl) ?_
        refine aldN 53 v2_1 cx hw rfl (by omega) (by decide) dX8_allFuel_18 ?_
        obtain ⟨n_4, hn_4, en_4⟩ := IV.a_53 hi (i := v2_1) (by omega)
        refine topc (y := (nI n_4)) en_4 ?_
        refine lv_iadd hx hb dX8_allFuel_19 ?_
        refine topc (y := (nI (v1_1 + n_4))) (nI_add v1_1 n_4) ?_
        refine lv_istore_n (lv' := [(1, .int (nI (v1_1 + n_4))), (2, .int (nI v2_1)), (0, .ref (a 36))]) hx hb dX8_allFuel_20 rfl hl (by decide) rfl (fun ls hl => ?_)
        refine lv_iinc (v := (nI (v2_1 + 1))) (lv' := [(2, .int (nI (v2_1 + 1))), (1, .int (nI (v1_1 + n_4))), (0, .ref (a 36))]) hx hb dX8_allFuel_21 hl (k := 1) rfl (nI_add v2_1 1) (by decide) rfl (fun ls hl => ?_)
        refine lv_goto (tgt := 4) hx hb dX8_allFuel_24 (by decide) ?_
        exact ih_1 (v2_1 + 1) (v1_1 + n_4)  (by omega) (by omega) (by omega) _ _ _ hw (lv_sub hl [0, 1, 2] rfl)
  exact loop_1 _ 0 0  (by omega) (by omega) (Nat.lt_succ_self _) _ _ _ hw (lv_sub hl [0, 1, 2] rfl)

set_option maxHeartbeats 4000000 in
set_option maxRecDepth 100000 in
theorem k_X8_fuelMoment (l : Launch) (D : va_G) (a : Nat → Nat) (cI cZ : ClassId) (f : FF) (u : UU) (bb : Int32) (hi : IV f)  : KL l yX8_fuelMoment cX8_fuelMoment 7 (some .long) ({ frames := 1, cells := 0, slots := 0, locals := 12 } : Room) D a cI cZ [.ref (a 36), .int bb] f u (fun r f2 u2 => f = f2 ∧ u = u2) := by
  refine KX.of (by decide) (Nat.le_of_ble_eq_true rfl) ?_
  intro p e s m below meth c cx hw hr hk ls hl
  have cx : Cx p s m _ c cX8_fuelMoment RX8 7 D cI cZ := cx
  have hl : lv_has ls 7 [(0, .ref (a 36)), (1, .int bb)] := hl
  have hx := cx.1.1
  have hb := cx.1.2.1
  refine lv_lconst (v := 0) hx hb dX8_fuelMoment_0 (by decide) ?_
  refine lv_lstore_n (lv' := [(2, .long 0), (0, .ref (a 36)), (1, .int bb)]) hx hb dX8_fuelMoment_1 rfl hl (by decide) rfl (fun ls hl => ?_)
  refine lv_iload_n hx hb dX8_fuelMoment_2 rfl (lv_at hl 2 rfl) ?_
  refine lv_istore (lv' := [(4, .int bb), (2, .long 0), (0, .ref (a 36)), (1, .int bb)]) hx hb dX8_fuelMoment_3 hl (by decide) rfl (fun ls hl => ?_)
  refine lv_aload_n hx hb dX8_fuelMoment_5 rfl (lv_at hl 2 rfl) ?_
  refine gf_X8_119 cx hw dX8_fuelMoment_6 ?_
  obtain ⟨n_1, hn_1, en_1⟩ := IV.s_36_20 hi
  refine topc (y := (nI n_1)) en_1 ?_
  refine lv_iconst (v := 1) hx hb dX8_fuelMoment_9 (by decide) ?_
  refine lv_isub hx hb dX8_fuelMoment_10 ?_
  refine lv_istore (lv' := [(5, .int (nI n_1 - 1)), (4, .int bb), (2, .long 0), (0, .ref (a 36)), (1, .int bb)]) hx hb dX8_fuelMoment_11 hl (by decide) rfl (fun ls hl => ?_)
  have loop_2 : ∀ (k_2 : Nat) (v5_2 : Nat) (v4_2 : Int32) (v2_2 : Int64), v5_2 ≤ 4 → v5_2 < k_2 → ∀ (H : Heap) (locs : List Loc) (ls : Array Slot), Wd D a cI cZ s f u H locs → lv_has ls 7 [(5, .int (nI v5_2 - 1)), (4, .int v4_2), (2, .long v2_2), (0, .ref (a 36)), (1, .int bb)] → W p l e ({ frames := 1, cells := 0, slots := 0, locals := 12 } : Room) s m ([.ref (a 36), .int bb] : List Value).toArray below meth c H locs 0 0 (MQ below (QL D a cI cZ (fun r f2 u2 => f = f2 ∧ u = u2)) ([.ref (a 36), .int bb] : List Value).toArray s 0 0 (AA a)) (F0 m 13 ls []) := by
    intro k_2
    induction k_2 with
    | zero => intros; omega
    | succ k_2 ih_2 =>
      intro v5_2 v4_2 v2_2  hb0_2  hm_2  H locs ls hw hl
      refine lv_iload hx hb dX8_fuelMoment_13 (lv_at hl 0 rfl) ?_
      rcases nat_01 v5_2 with z_3 | ⟨t_3, z_3⟩
      · subst z_3
        have hl := hl
        refine topc (y := (-1)) nI_0m1 ?_
        rw [nI_0m1] at hl
        refine lv_if_lt (tgt := 80) hx hb dX8_fuelMoment_15 (by decide) (fun _ => ?_) (fun q => absurd (by decide) q)
        refine lv_lload_n hx hb dX8_fuelMoment_80 rfl (lv_at hl 2 rfl) ?_
        exact retL cx hw hr hk dX8_fuelMoment_81 ⟨rfl, rfl⟩
      · subst z_3
        have hl := hl
        refine topc (y := (nI t_3)) (nI_pred t_3) ?_
        rw [nI_pred t_3] at hl
        refine lv_if_lt (tgt := 80) hx hb dX8_fuelMoment_15 (by decide) (fun q => absurd q (nI_pos (by omega))) (fun _ => ?_)
        refine lv_iload hx hb dX8_fuelMoment_18 (lv_at hl 1 rfl) ?_
        refine lv_aload_n hx hb dX8_fuelMoment_20 rfl (lv_at hl 3 rfl) ?_
        refine gf_X8_67 cx hw dX8_fuelMoment_21 ?_
        refine lv_iload hx hb dX8_fuelMoment_24 (lv_at hl 0 rfl) ?_
        refine aldN 53 t_3 cx hw rfl (by omega) (by decide) dX8_fuelMoment_26 ?_
        obtain ⟨n_4, hn_4, en_4⟩ := IV.a_53 hi (i := t_3) (by omega)
        refine topc (y := (nI n_4)) en_4 ?_
        refine lv_icmp_ge (tgt := 35) hx hb dX8_fuelMoment_27 (by decide) (fun _ => ?_) (fun _ => ?_)
        · refine lv_aload_n hx hb dX8_fuelMoment_35 rfl (lv_at hl 3 rfl) ?_
          refine gf_X8_67 cx hw dX8_fuelMoment_36 ?_
          refine lv_iload hx hb dX8_fuelMoment_39 (lv_at hl 0 rfl) ?_
          refine aldN 53 t_3 cx hw rfl (by omega) (by decide) dX8_fuelMoment_41 ?_
          refine topc (y := (nI n_4)) en_4 ?_
          refine lv_istore (lv' := [(6, .int (nI n_4)), (5, .int (nI t_3)), (4, .int v4_2), (2, .long v2_2), (0, .ref (a 36)), (1, .int bb)]) hx hb dX8_fuelMoment_42 hl (by decide) rfl (fun ls hl => ?_)
          refine lv_lload_n hx hb dX8_fuelMoment_44 rfl (lv_at hl 3 rfl) ?_
          refine lv_aload_n hx hb dX8_fuelMoment_45 rfl (lv_at hl 4 rfl) ?_
          refine gf_X8_67 cx hw dX8_fuelMoment_46 ?_
          refine lv_iload hx hb dX8_fuelMoment_49 (lv_at hl 1 rfl) ?_
          refine aldN 53 t_3 cx hw rfl (by omega) (by decide) dX8_fuelMoment_51 ?_
          refine topc (y := (nI n_4)) en_4 ?_
          refine lv_iload hx hb dX8_fuelMoment_52 (lv_at hl 0 rfl) ?_
          refine lv_isub hx hb dX8_fuelMoment_54 ?_
          refine lv_topi (fun x_6 _ => ?_)
          refine lv_i2l hx hb dX8_fuelMoment_55 rfl ?_
          refine lv_topl (fun y_7 _ => ?_)
          refine lv_aload_n hx hb dX8_fuelMoment_56 rfl (lv_at hl 4 rfl) ?_
          refine gf_X8_61 cx hw dX8_fuelMoment_57 ?_
          refine lv_iload hx hb dX8_fuelMoment_60 (lv_at hl 1 rfl) ?_
          refine aldN 51 t_3 cx hw rfl (by omega) (by decide) dX8_fuelMoment_62 ?_
          refine lv_topi (fun x_8 _ => ?_)
          refine lv_i2l hx hb dX8_fuelMoment_63 rfl ?_
          refine lv_topl (fun y_9 _ => ?_)
          refine lv_lmul hx hb dX8_fuelMoment_64 ?_
          refine lv_topl (fun y_10 _ => ?_)
          refine lv_ladd hx hb dX8_fuelMoment_65 ?_
          refine lv_topl (fun y_11 _ => ?_)
          refine lv_lstore_n (lv' := [(2, .long y_11), (6, .int (nI n_4)), (5, .int (nI t_3)), (4, .int v4_2), (0, .ref (a 36)), (1, .int bb)]) hx hb dX8_fuelMoment_66 rfl hl (by decide) rfl (fun ls hl => ?_)
          refine lv_iload hx hb dX8_fuelMoment_67 (lv_at hl 3 rfl) ?_
          refine lv_iload hx hb dX8_fuelMoment_69 (lv_at hl 1 rfl) ?_
          refine lv_isub hx hb dX8_fuelMoment_71 ?_
          refine lv_topi (fun x_12 _ => ?_)
          refine lv_istore (lv' := [(4, .int x_12), (2, .long y_11), (6, .int (nI n_4)), (5, .int (nI t_3)), (0, .ref (a 36)), (1, .int bb)]) hx hb dX8_fuelMoment_72 hl (by decide) rfl (fun ls hl => ?_)
          refine lv_iinc (v := (nI t_3 - 1)) (lv' := [(5, .int (nI t_3 - 1)), (4, .int x_12), (2, .long y_11), (6, .int (nI n_4)), (0, .ref (a 36)), (1, .int bb)]) hx hb dX8_fuelMoment_74 hl (k := 3) rfl (nI_dec t_3) (by decide) rfl (fun ls hl => ?_)
          refine lv_goto (tgt := 13) hx hb dX8_fuelMoment_77 (by decide) ?_
          exact ih_2 t_3 x_12 y_11  (by omega) (by omega) _ _ _ hw (lv_sub hl [0, 1, 2, 4, 5] rfl)
        · refine lv_iload hx hb dX8_fuelMoment_30 (lv_at hl 1 rfl) ?_
          refine lv_goto (tgt := 42) hx hb dX8_fuelMoment_32 (by decide) ?_
          refine lv_istore (lv' := [(6, .int v4_2), (5, .int (nI t_3)), (4, .int v4_2), (2, .long v2_2), (0, .ref (a 36)), (1, .int bb)]) hx hb dX8_fuelMoment_42 hl (by decide) rfl (fun ls hl => ?_)
          refine lv_lload_n hx hb dX8_fuelMoment_44 rfl (lv_at hl 3 rfl) ?_
          refine lv_aload_n hx hb dX8_fuelMoment_45 rfl (lv_at hl 4 rfl) ?_
          refine gf_X8_67 cx hw dX8_fuelMoment_46 ?_
          refine lv_iload hx hb dX8_fuelMoment_49 (lv_at hl 1 rfl) ?_
          refine aldN 53 t_3 cx hw rfl (by omega) (by decide) dX8_fuelMoment_51 ?_
          refine topc (y := (nI n_4)) en_4 ?_
          refine lv_iload hx hb dX8_fuelMoment_52 (lv_at hl 0 rfl) ?_
          refine lv_isub hx hb dX8_fuelMoment_54 ?_
          refine lv_topi (fun x_13 _ => ?_)
          refine lv_i2l hx hb dX8_fuelMoment_55 rfl ?_
          refine lv_topl (fun y_14 _ => ?_)
          refine lv_aload_n hx hb dX8_fuelMoment_56 rfl (lv_at hl 4 rfl) ?_
          refine gf_X8_61 cx hw dX8_fuelMoment_57 ?_
          refine lv_iload hx hb dX8_fuelMoment_60 (lv_at hl 1 rfl) ?_
          refine aldN 51 t_3 cx hw rfl (by omega) (by decide) dX8_fuelMoment_62 ?_
          refine lv_topi (fun x_15 _ => ?_)
          refine lv_i2l hx hb dX8_fuelMoment_63 rfl ?_
          refine lv_topl (fun y_16 _ => ?_)
          refine lv_lmul hx hb dX8_fuelMoment_64 ?_
          refine lv_topl (fun y_17 _ => ?_)
          refine lv_ladd hx hb dX8_fuelMoment_65 ?_
          refine lv_topl (fun y_18 _ => ?_)
          refine lv_lstore_n (lv' := [(2, .long y_18), (6, .int v4_2), (5, .int (nI t_3)), (4, .int v4_2), (0, .ref (a 36)), (1, .int bb)]) hx hb dX8_fuelMoment_66 rfl hl (by decide) rfl (fun ls hl => ?_)
          refine lv_iload hx hb dX8_fuelMoment_67 (lv_at hl 3 rfl) ?_
          refine lv_iload hx hb dX8_fuelMoment_69 (lv_at hl 1 rfl) ?_
          refine lv_isub hx hb dX8_fuelMoment_71 ?_
          refine lv_topi (fun x_19 _ => ?_)
          refine lv_istore (lv' := [(4, .int x_19), (2, .long y_18), (6, .int v4_2), (5, .int (nI t_3)), (0, .ref (a 36)), (1, .int bb)]) hx hb dX8_fuelMoment_72 hl (by decide) rfl (fun ls hl => ?_)
          refine lv_iinc (v := (nI t_3 - 1)) (lv' := [(5, .int (nI t_3 - 1)), (4, .int x_19), (2, .long y_18), (6, .int v4_2), (0, .ref (a 36)), (1, .int bb)]) hx hb dX8_fuelMoment_74 hl (k := 3) rfl (nI_dec t_3) (by decide) rfl (fun ls hl => ?_)
          refine lv_goto (tgt := 13) hx hb dX8_fuelMoment_77 (by decide) ?_
          exact ih_2 t_3 x_19 y_18  (by omega) (by omega) _ _ _ hw (lv_sub hl [0, 1, 2, 4, 5] rfl)
  exact loop_2 _ n_1 bb 0  (by omega)  (Nat.lt_succ_self _) _ _ _ hw (lv_sub hl [0, 1, 2, 3, 4] rfl)

set_option maxHeartbeats 4000000 in
set_option maxRecDepth 100000 in
theorem k_X8_weight (l : Launch) (D : va_G) (a : Nat → Nat) (cI cZ : ClassId) (f : FF) (u : UU) (wh : Int32) (hi : IV f)  : KI l yX8_weight cX8_weight 2 (some .int) ({ frames := 4, cells := 0, slots := 0, locals := 78 } : Room) D a cI cZ [.ref (a 36), .int wh] f u (fun r f2 u2 => f = f2 ∧ u = u2) := by
  refine KX.of (by decide) (Nat.le_of_ble_eq_true rfl) ?_
  intro p e s m below meth c cx hw hr hk ls hl
  have cx : Cx p s m _ c cX8_weight RX8 2 D cI cZ := cx
  have hl : lv_has ls 2 [(0, .ref (a 36)), (1, .int wh)] := hl
  have hx := cx.1.1
  have hb := cx.1.2.1
  refine lv_iload_n hx hb dX8_weight_0 rfl (lv_at hl 1 rfl) ?_
  rcases Decidable.em (wh = 0) with c_1 | c_1
  · refine lv_tableIn (off := 27) (tgt := 28) hx hb dX8_weight_1 (by rw [c_1]; decide) (by rw [c_1]; decide) (by rw [c_1]; rfl) (by decide) ?_
    refine lv_aload_n hx hb dX8_weight_28 rfl (lv_at hl 0 rfl) ?_
    refine goI hw (runVW (k := 36) (As := []) (rest := []) cx hw (k_X8_dryWeight l D a cI cZ f u   hi) lk_X8_153 rfl rfl ⟨Nat.le_of_ble_eq_true rfl, Nat.le_of_ble_eq_true rfl⟩ ⟨rfl, rfl⟩ ⟨Nat.zero_le _, Nat.zero_le _⟩ rfl rfl hl.1 (Nat.le_of_ble_eq_true rfl) dX8_weight_29) (fun r_2 f_2 u_2 H locs hp_2 hw => ?_)
    obtain ⟨rfl, rfl⟩ := hp_2
    exact retI cx hw hr hk dX8_weight_32 ⟨rfl, rfl⟩
  rcases Decidable.em (wh = 1) with c_3 | c_3
  · refine lv_tableIn (off := 32) (tgt := 33) hx hb dX8_weight_1 (by rw [c_3]; decide) (by rw [c_3]; decide) (by rw [c_3]; rfl) (by decide) ?_
    refine lv_aload_n hx hb dX8_weight_33 rfl (lv_at hl 0 rfl) ?_
    refine goI hw (runVW (k := 36) (As := []) (rest := []) cx hw (k_X8_dryWeight l D a cI cZ f u   hi) lk_X8_153 rfl rfl ⟨Nat.le_of_ble_eq_true rfl, Nat.le_of_ble_eq_true rfl⟩ ⟨rfl, rfl⟩ ⟨Nat.zero_le _, Nat.zero_le _⟩ rfl rfl hl.1 (Nat.le_of_ble_eq_true rfl) dX8_weight_34) (fun r_4 f_4 u_4 H locs hp_4 hw => ?_)
    obtain ⟨rfl, rfl⟩ := hp_4
    refine lv_aload_n hx hb dX8_weight_37 rfl (lv_at hl 0 rfl) ?_
    refine goI hw (runVW (k := 36) (As := []) (rest := [.int r_4]) cx hw (k_X8_allFuel l D a cI cZ f u   hi) lk_X8_157 rfl rfl ⟨Nat.le_of_ble_eq_true rfl, Nat.le_of_ble_eq_true rfl⟩ ⟨rfl, rfl⟩ ⟨Nat.zero_le _, Nat.zero_le _⟩ rfl rfl hl.1 (Nat.le_of_ble_eq_true rfl) dX8_weight_38) (fun r_5 f_5 u_5 H locs hp_5 hw => ?_)
    obtain ⟨rfl, rfl, ha_5⟩ := hp_5
    obtain ⟨b0_5_j, q0_5_0, q0_5_1⟩ := ha_5
    · subst q0_5_1
      refine lv_iadd hx hb dX8_weight_41 ?_
      refine lv_topi (fun x_6 _ => ?_)
      exact retI cx hw hr hk dX8_weight_42 ⟨rfl, rfl⟩
  rcases Decidable.em (wh = 2) with c_7 | c_7
  · refine lv_tableIn (off := 42) (tgt := 43) hx hb dX8_weight_1 (by rw [c_7]; decide) (by rw [c_7]; decide) (by rw [c_7]; rfl) (by decide) ?_
    refine lv_aload_n hx hb dX8_weight_43 rfl (lv_at hl 0 rfl) ?_
    refine goI hw (runVW (k := 36) (As := []) (rest := []) cx hw (k_X8_allFuel l D a cI cZ f u   hi) lk_X8_157 rfl rfl ⟨Nat.le_of_ble_eq_true rfl, Nat.le_of_ble_eq_true rfl⟩ ⟨rfl, rfl⟩ ⟨Nat.zero_le _, Nat.zero_le _⟩ rfl rfl hl.1 (Nat.le_of_ble_eq_true rfl) dX8_weight_44) (fun r_8 f_8 u_8 H locs hp_8 hw => ?_)
    obtain ⟨rfl, rfl, ha_8⟩ := hp_8
    obtain ⟨b0_8_j, q0_8_0, q0_8_1⟩ := ha_8
    · subst q0_8_1
      exact retI cx hw hr hk dX8_weight_47 ⟨rfl, rfl⟩
  refine lv_tableOut (tgt := 48) hx hb dX8_weight_1 (by have z0 := lv_neT (a := 0) c_1 rfl; have z1 := lv_neT (a := 1) c_3 rfl; have z2 := lv_neT (a := 2) c_7 rfl; omega) (by decide) ?_
  refine lv_iconst (v := (-1)) hx hb dX8_weight_48 (by decide) ?_
  exact retI cx hw hr hk dX8_weight_49 ⟨rfl, rfl⟩

set_option maxHeartbeats 4000000 in
set_option maxRecDepth 100000 in
theorem k_X8_moment (l : Launch) (D : va_G) (a : Nat → Nat) (cI cZ : ClassId) (f : FF) (u : UU) (wh : Int32) (hi : IV f)  : KL l yX8_moment cX8_moment 2 (some .long) ({ frames := 3, cells := 0, slots := 0, locals := 57 } : Room) D a cI cZ [.ref (a 36), .int wh] f u (fun r f2 u2 => f = f2 ∧ u = u2) := by
  refine KX.of (by decide) (Nat.le_of_ble_eq_true rfl) ?_
  intro p e s m below meth c cx hw hr hk ls hl
  have cx : Cx p s m _ c cX8_moment RX8 2 D cI cZ := cx
  have hl : lv_has ls 2 [(0, .ref (a 36)), (1, .int wh)] := hl
  have hx := cx.1.1
  have hb := cx.1.2.1
  refine lv_iload_n hx hb dX8_moment_0 rfl (lv_at hl 1 rfl) ?_
  rcases Decidable.em (wh = 0) with c_1 | c_1
  · refine lv_tableIn (off := 27) (tgt := 28) hx hb dX8_moment_1 (by rw [c_1]; decide) (by rw [c_1]; decide) (by rw [c_1]; rfl) (by decide) ?_
    refine lv_aload_n hx hb dX8_moment_28 rfl (lv_at hl 0 rfl) ?_
    refine goL hw (runVW (k := 36) (As := []) (rest := []) cx hw (k_X8_dryMoment l D a cI cZ f u   hi) lk_X8_160 rfl rfl ⟨Nat.le_of_ble_eq_true rfl, Nat.le_of_ble_eq_true rfl⟩ ⟨rfl, rfl⟩ ⟨Nat.zero_le _, Nat.zero_le _⟩ rfl rfl hl.1 (Nat.le_of_ble_eq_true rfl) dX8_moment_29) (fun r_2 f_2 u_2 H locs hp_2 hw => ?_)
    obtain ⟨rfl, rfl⟩ := hp_2
    exact retL cx hw hr hk dX8_moment_32 ⟨rfl, rfl⟩
  rcases Decidable.em (wh = 1) with c_3 | c_3
  · refine lv_tableIn (off := 32) (tgt := 33) hx hb dX8_moment_1 (by rw [c_3]; decide) (by rw [c_3]; decide) (by rw [c_3]; rfl) (by decide) ?_
    refine lv_aload_n hx hb dX8_moment_33 rfl (lv_at hl 0 rfl) ?_
    refine goL hw (runVW (k := 36) (As := []) (rest := []) cx hw (k_X8_dryMoment l D a cI cZ f u   hi) lk_X8_160 rfl rfl ⟨Nat.le_of_ble_eq_true rfl, Nat.le_of_ble_eq_true rfl⟩ ⟨rfl, rfl⟩ ⟨Nat.zero_le _, Nat.zero_le _⟩ rfl rfl hl.1 (Nat.le_of_ble_eq_true rfl) dX8_moment_34) (fun r_4 f_4 u_4 H locs hp_4 hw => ?_)
    obtain ⟨rfl, rfl⟩ := hp_4
    refine lv_aload_n hx hb dX8_moment_37 rfl (lv_at hl 0 rfl) ?_
    refine lv_iconst (v := 0) hx hb dX8_moment_38 (by decide) ?_
    refine goL hw (runVW (k := 36) (As := [.int 0]) (rest := [.long r_4]) cx hw (k_X8_fuelMoment l D a cI cZ f u 0  hi) lk_X8_164 rfl rfl ⟨Nat.le_of_ble_eq_true rfl, Nat.le_of_ble_eq_true rfl⟩ ⟨rfl, rfl⟩ ⟨Nat.zero_le _, Nat.zero_le _⟩ rfl rfl hl.1 (Nat.le_of_ble_eq_true rfl) dX8_moment_39) (fun r_5 f_5 u_5 H locs hp_5 hw => ?_)
    obtain ⟨rfl, rfl⟩ := hp_5
    refine lv_ladd hx hb dX8_moment_42 ?_
    refine lv_topl (fun y_6 _ => ?_)
    exact retL cx hw hr hk dX8_moment_43 ⟨rfl, rfl⟩
  rcases Decidable.em (wh = 2) with c_7 | c_7
  · refine lv_tableIn (off := 43) (tgt := 44) hx hb dX8_moment_1 (by rw [c_7]; decide) (by rw [c_7]; decide) (by rw [c_7]; rfl) (by decide) ?_
    refine lv_aload_n hx hb dX8_moment_44 rfl (lv_at hl 0 rfl) ?_
    refine lv_iconst (v := 0) hx hb dX8_moment_45 (by decide) ?_
    refine goL hw (runVW (k := 36) (As := [.int 0]) (rest := []) cx hw (k_X8_fuelMoment l D a cI cZ f u 0  hi) lk_X8_164 rfl rfl ⟨Nat.le_of_ble_eq_true rfl, Nat.le_of_ble_eq_true rfl⟩ ⟨rfl, rfl⟩ ⟨Nat.zero_le _, Nat.zero_le _⟩ rfl rfl hl.1 (Nat.le_of_ble_eq_true rfl) dX8_moment_46) (fun r_8 f_8 u_8 H locs hp_8 hw => ?_)
    obtain ⟨rfl, rfl⟩ := hp_8
    exact retL cx hw hr hk dX8_moment_49 ⟨rfl, rfl⟩
  refine lv_tableOut (tgt := 50) hx hb dX8_moment_1 (by have z0 := lv_neT (a := 0) c_1 rfl; have z1 := lv_neT (a := 1) c_3 rfl; have z2 := lv_neT (a := 2) c_7 rfl; omega) (by decide) ?_
  refine lv_ldc2 (v := (-9223372036854775808)) hx hb cx.1.2.2.2.1 (cx.1.2.2.2.2 _ mm_5_39) dX8_moment_50 ?_
  exact retL cx hw hr hk dX8_moment_53 ⟨rfl, rfl⟩

set_option maxHeartbeats 4000000 in
set_option maxRecDepth 100000 in
theorem k_X8_burnt (l : Launch) (D : va_G) (a : Nat → Nat) (cI cZ : ClassId) (f : FF) (u : UU) (bb : Int32) (wh : Int32) (hi : IV f)  : KL l yX8_burnt cX8_burnt 3 (some .long) ({ frames := 4, cells := 0, slots := 0, locals := 78 } : Room) D a cI cZ [.ref (a 36), .int bb, .int wh] f u (fun r f2 u2 => f = f2 ∧ u = u2) := by
  refine KX.of (by decide) (Nat.le_of_ble_eq_true rfl) ?_
  intro p e s m below meth c cx hw hr hk ls hl
  have cx : Cx p s m _ c cX8_burnt RX8 3 D cI cZ := cx
  have hl : lv_has ls 3 [(0, .ref (a 36)), (1, .int bb), (2, .int wh)] := hl
  have hx := cx.1.1
  have hb := cx.1.2.1
  refine lv_iload_n hx hb dX8_burnt_0 rfl (lv_at hl 1 rfl) ?_
  refine lv_iconst (v := 0) hx hb dX8_burnt_1 (by decide) ?_
  refine lv_aload_n hx hb dX8_burnt_2 rfl (lv_at hl 0 rfl) ?_
  refine goI hw (runVW (k := 36) (As := []) (rest := [.int 0, .int bb]) cx hw (k_X8_allFuel l D a cI cZ f u   hi) lk_X8_157 rfl rfl ⟨Nat.le_of_ble_eq_true rfl, Nat.le_of_ble_eq_true rfl⟩ ⟨rfl, rfl⟩ ⟨Nat.zero_le _, Nat.zero_le _⟩ rfl rfl hl.1 (Nat.le_of_ble_eq_true rfl) dX8_burnt_3) (fun r_1 f_1 u_1 H locs hp_1 hw => ?_)
  obtain ⟨rfl, rfl, ha_1⟩ := hp_1
  obtain ⟨b0_1_j, q0_1_0, q0_1_1⟩ := ha_1
  · subst q0_1_1
    refine goI hw (runSW (As := [.int bb, .int 0, .int (nI b0_1_j)]) (rest := []) cx hw (c_X8_isIn l D a cI cZ f u bb 0 (nI b0_1_j)  ) lk_X8_95 ⟨Nat.le_of_ble_eq_true rfl, Nat.le_of_ble_eq_true rfl⟩ ⟨rfl, rfl⟩ ⟨Nat.zero_le _, Nat.zero_le _⟩ rfl rfl hl.1 (Nat.le_of_ble_eq_true rfl) dX8_burnt_6) (fun r_2 f_2 u_2 H locs hp_2 hw => ?_)
    obtain ⟨rfl, rfl, e_2⟩ := hp_2
    refine topc e_2 ?_
    refine lv_if_ne (tgt := 16) hx hb dX8_burnt_9 (by decide) (fun c_3 => ?_) (fun c_3 => ?_)
    · obtain ⟨t_3, ht_3, et_3⟩ := rg_nat (n := b0_1_j) (nI_toInt (by omega)) c_3
      subst et_3
      refine lv_iload_n hx hb dX8_burnt_16 rfl (lv_at hl 2 rfl) ?_
      refine lv_if_ne (tgt := 33) hx hb dX8_burnt_17 (by decide) (fun _ => ?_) (fun _ => ?_)
      · refine lv_iload_n hx hb dX8_burnt_33 rfl (lv_at hl 2 rfl) ?_
        refine lv_iconst (v := 1) hx hb dX8_burnt_34 (by decide) ?_
        refine lv_icmp_ne (tgt := 53) hx hb dX8_burnt_35 (by decide) (fun _ => ?_) (fun _ => ?_)
        · refine lv_ldc2 (v := (-9223372036854775808)) hx hb cx.1.2.2.2.1 (cx.1.2.2.2.2 _ mm_5_39) dX8_burnt_53 ?_
          exact retL cx hw hr hk dX8_burnt_56 ⟨rfl, rfl⟩
        · refine lv_aload_n hx hb dX8_burnt_38 rfl (lv_at hl 0 rfl) ?_
          refine goI hw (runVW (k := 36) (As := []) (rest := []) cx hw (k_X8_dryWeight l D a cI cZ f u   hi) lk_X8_153 rfl rfl ⟨Nat.le_of_ble_eq_true rfl, Nat.le_of_ble_eq_true rfl⟩ ⟨rfl, rfl⟩ ⟨Nat.zero_le _, Nat.zero_le _⟩ rfl rfl hl.1 (Nat.le_of_ble_eq_true rfl) dX8_burnt_39) (fun r_6 f_6 u_6 H locs hp_6 hw => ?_)
          obtain ⟨rfl, rfl⟩ := hp_6
          refine lv_aload_n hx hb dX8_burnt_42 rfl (lv_at hl 0 rfl) ?_
          refine goI hw (runVW (k := 36) (As := []) (rest := [.int r_6]) cx hw (k_X8_allFuel l D a cI cZ f u   hi) lk_X8_157 rfl rfl ⟨Nat.le_of_ble_eq_true rfl, Nat.le_of_ble_eq_true rfl⟩ ⟨rfl, rfl⟩ ⟨Nat.zero_le _, Nat.zero_le _⟩ rfl rfl hl.1 (Nat.le_of_ble_eq_true rfl) dX8_burnt_43) (fun r_7 f_7 u_7 H locs hp_7 hw => ?_)
          obtain ⟨rfl, rfl, ha_7⟩ := hp_7
          obtain ⟨b0_7_j, q0_7_0, q0_7_1⟩ := ha_7
          · subst q0_7_1
            refine lv_iadd hx hb dX8_burnt_46 ?_
            refine lv_topi (fun x_8 _ => ?_)
            refine lv_iload_n hx hb dX8_burnt_47 rfl (lv_at hl 1 rfl) ?_
            refine lv_isub hx hb dX8_burnt_48 ?_
            refine lv_topi (fun x_9 _ => ?_)
            refine lv_i2l hx hb dX8_burnt_49 rfl ?_
            refine lv_topl (fun y_10 _ => ?_)
            refine lv_goto (tgt := 56) hx hb dX8_burnt_50 (by decide) ?_
            exact retL cx hw hr hk dX8_burnt_56 ⟨rfl, rfl⟩
      · refine lv_aload_n hx hb dX8_burnt_20 rfl (lv_at hl 0 rfl) ?_
        refine goL hw (runVW (k := 36) (As := []) (rest := []) cx hw (k_X8_dryMoment l D a cI cZ f u   hi) lk_X8_160 rfl rfl ⟨Nat.le_of_ble_eq_true rfl, Nat.le_of_ble_eq_true rfl⟩ ⟨rfl, rfl⟩ ⟨Nat.zero_le _, Nat.zero_le _⟩ rfl rfl hl.1 (Nat.le_of_ble_eq_true rfl) dX8_burnt_21) (fun r_11 f_11 u_11 H locs hp_11 hw => ?_)
        obtain ⟨rfl, rfl⟩ := hp_11
        refine lv_aload_n hx hb dX8_burnt_24 rfl (lv_at hl 0 rfl) ?_
        refine lv_iload_n hx hb dX8_burnt_25 rfl (lv_at hl 1 rfl) ?_
        refine goL hw (runVW (k := 36) (As := [.int (nI t_3)]) (rest := [.long r_11]) cx hw (k_X8_fuelMoment l D a cI cZ f u (nI t_3)  hi) lk_X8_164 rfl rfl ⟨Nat.le_of_ble_eq_true rfl, Nat.le_of_ble_eq_true rfl⟩ ⟨rfl, rfl⟩ ⟨Nat.zero_le _, Nat.zero_le _⟩ rfl rfl hl.1 (Nat.le_of_ble_eq_true rfl) dX8_burnt_26) (fun r_12 f_12 u_12 H locs hp_12 hw => ?_)
        obtain ⟨rfl, rfl⟩ := hp_12
        refine lv_ladd hx hb dX8_burnt_29 ?_
        refine lv_topl (fun y_13 _ => ?_)
        refine lv_goto (tgt := 56) hx hb dX8_burnt_30 (by decide) ?_
        exact retL cx hw hr hk dX8_burnt_56 ⟨rfl, rfl⟩
    · refine lv_ldc2 (v := (-9223372036854775808)) hx hb cx.1.2.2.2.1 (cx.1.2.2.2.2 _ mm_5_39) dX8_burnt_12 ?_
      exact retL cx hw hr hk dX8_burnt_15 ⟨rfl, rfl⟩

set_option maxHeartbeats 4000000 in
set_option maxRecDepth 100000 in
theorem k_X8_lies (l : Launch) (D : va_G) (a : Nat → Nat) (cI cZ : ClassId) (f : FF) (u : UU) (ph : Nat) (ww : Int64) (mm : Int64) (np : Nat) (hi : IV f) (h_ph : ph ≤ 1) (h_np : np ≤ 10) (h_n1 : 1 ≤ np) (h_pt : f 54 ph = nI np) : KI l yX8_lies cX8_lies 17 (some .int) ({ frames := 1, cells := 0, slots := 0, locals := 12 } : Room) D a cI cZ [.ref (a 36), .int (nI ph), .long ww, .long mm] f u (fun r f2 u2 => f = f2 ∧ u = u2) := by
  refine KX.of (by decide) (Nat.le_of_ble_eq_true rfl) ?_
  intro p e s m below meth c cx hw hr hk ls hl
  have cx : Cx p s m _ c cX8_lies RX8 17 D cI cZ := cx
  have hl : lv_has ls 17 [(0, .ref (a 36)), (1, .int (nI ph)), (2, .long ww), (4, .long mm)] := hl
  have hx := cx.1.1
  have hb := cx.1.2.1
  refine lv_bipush (v := 10) hx hb dX8_lies_0 (by decide) ?_
  refine lv_iload_n hx hb dX8_lies_2 rfl (lv_at hl 1 rfl) ?_
  refine lv_imul hx hb dX8_lies_3 ?_
  refine topc (y := (nI (10 * ph))) (pk_mul 10 ph) ?_
  refine lv_istore (lv' := [(6, .int (nI (10 * ph))), (0, .ref (a 36)), (1, .int (nI ph)), (2, .long ww), (4, .long mm)]) hx hb dX8_lies_4 hl (by decide) rfl (fun ls hl => ?_)
  refine lv_iload hx hb dX8_lies_6 (lv_at hl 0 rfl) ?_
  refine lv_aload_n hx hb dX8_lies_8 rfl (lv_at hl 1 rfl) ?_
  refine gf_X8_73 cx hw dX8_lies_9 ?_
  refine lv_iload_n hx hb dX8_lies_12 rfl (lv_at hl 2 rfl) ?_
  refine aldN 54 ph cx hw rfl (by omega) (by decide) dX8_lies_13 ?_
  refine topc (y := (nI np)) h_pt ?_
  refine lv_iadd hx hb dX8_lies_14 ?_
  refine topc (y := (nI ((10 * ph) + np))) (nI_add (10 * ph) np) ?_
  refine lv_iconst (v := 1) hx hb dX8_lies_15 (by decide) ?_
  refine lv_isub hx hb dX8_lies_16 ?_
  refine topc (y := (nI (((10 * ph) + np) - 1))) (pk_sub (a := ((10 * ph) + np)) (b := 1) (by omega)) ?_
  refine lv_istore (lv' := [(7, .int (nI (((10 * ph) + np) - 1))), (6, .int (nI (10 * ph))), (0, .ref (a 36)), (1, .int (nI ph)), (2, .long ww), (4, .long mm)]) hx hb dX8_lies_17 hl (by decide) rfl (fun ls hl => ?_)
  refine lv_lload_n hx hb dX8_lies_19 rfl (lv_at hl 4 rfl) ?_
  refine lv_aload_n hx hb dX8_lies_20 rfl (lv_at hl 2 rfl) ?_
  refine gf_X8_76 cx hw dX8_lies_21 ?_
  refine lv_iload hx hb dX8_lies_24 (lv_at hl 1 rfl) ?_
  refine aldN 55 (10 * ph) cx hw rfl (by omega) (by decide) dX8_lies_26 ?_
  obtain ⟨n_1, hn_1, en_1⟩ := IV.a_55 hi (i := (10 * ph)) (by omega)
  refine topc (y := (nI n_1)) en_1 ?_
  refine lv_i2l hx hb dX8_lies_27 rfl ?_
  refine lv_topl (fun y_2 _ => ?_)
  refine W.lcmp hx hb dX8_lies_28 ?_
  refine lv_topi (fun x_3 _ => ?_)
  refine lv_if_ge (tgt := 34) hx hb dX8_lies_29 (by decide) (fun c_4 => ?_) (fun c_4 => ?_)
  · refine lv_lload_n hx hb dX8_lies_34 rfl (lv_at hl 4 rfl) ?_
    refine lv_aload_n hx hb dX8_lies_35 rfl (lv_at hl 2 rfl) ?_
    refine gf_X8_76 cx hw dX8_lies_36 ?_
    refine lv_iload hx hb dX8_lies_39 (lv_at hl 0 rfl) ?_
    refine aldN 55 (((10 * ph) + np) - 1) cx hw rfl (by omega) (by decide) dX8_lies_41 ?_
    obtain ⟨n_5, hn_5, en_5⟩ := IV.a_55 hi (i := (((10 * ph) + np) - 1)) (by omega)
    refine topc (y := (nI n_5)) en_5 ?_
    refine lv_i2l hx hb dX8_lies_42 rfl ?_
    refine lv_topl (fun y_6 _ => ?_)
    refine W.lcmp hx hb dX8_lies_43 ?_
    refine lv_topi (fun x_7 _ => ?_)
    refine lv_if_le (tgt := 49) hx hb dX8_lies_44 (by decide) (fun _ => ?_) (fun _ => ?_)
    · refine lv_iload hx hb dX8_lies_49 (lv_at hl 1 rfl) ?_
      refine lv_istore (lv' := [(8, .int (nI (10 * ph))), (7, .int (nI (((10 * ph) + np) - 1))), (6, .int (nI (10 * ph))), (0, .ref (a 36)), (1, .int (nI ph)), (2, .long ww), (4, .long mm)]) hx hb dX8_lies_51 hl (by decide) rfl (fun ls hl => ?_)
      have loop_9 : ∀ (k_9 : Nat) (v8_9 : Nat), v8_9 ≤ (10 * ph + np - 1) → (10 * ph + np - 1) + 1 - v8_9 < k_9 → ∀ (H : Heap) (locs : List Loc) (ls : Array Slot), Wd D a cI cZ s f u H locs → lv_has ls 17 [(8, .int (nI v8_9)), (7, .int (nI (((10 * ph) + np) - 1))), (6, .int (nI (10 * ph))), (0, .ref (a 36)), (1, .int (nI ph)), (2, .long ww), (4, .long mm)] → W p l e ({ frames := 1, cells := 0, slots := 0, locals := 12 } : Room) s m ([.ref (a 36), .int (nI ph), .long ww, .long mm] : List Value).toArray below meth c H locs 0 0 (MQ below (QI D a cI cZ (fun r f2 u2 => f = f2 ∧ u = u2)) ([.ref (a 36), .int (nI ph), .long ww, .long mm] : List Value).toArray s 0 0 (AA a)) (F0 m 53 ls []) := by
        intro k_9
        induction k_9 with
        | zero => intros; omega
        | succ k_9 ih_9 =>
          intro v8_9  hb0_9  hm_9  H locs ls hw hl
          refine lv_iload hx hb dX8_lies_53 (lv_at hl 0 rfl) ?_
          refine lv_iload hx hb dX8_lies_55 (lv_at hl 1 rfl) ?_
          refine lv_icmp_ge (tgt := 81) hx hb dX8_lies_57 (by decide) (fun c_10 => ?_) (fun c_10 => ?_)
          · have c_10 : (((10 * ph) + np) - 1) ≤ v8_9 := (nI_leI (a := (((10 * ph) + np) - 1)) (b := v8_9) (by omega) (by omega)).mp c_10
            refine lv_iload hx hb dX8_lies_81 (lv_at hl 0 rfl) ?_
            refine lv_iload hx hb dX8_lies_83 (lv_at hl 1 rfl) ?_
            refine lv_icmp_ne (tgt := 92) hx hb dX8_lies_85 (by decide) (fun c_11 => ?_) (fun c_11 => ?_)
            · have c_11 : ¬ v8_9 = (((10 * ph) + np) - 1) := fun z => c_11 ((nI_eq (a := v8_9) (b := (((10 * ph) + np) - 1)) (by omega) (by omega)).mpr z)
              refine lv_aload_n hx hb dX8_lies_92 rfl (lv_at hl 3 rfl) ?_
              refine gf_X8_76 cx hw dX8_lies_93 ?_
              refine lv_iload hx hb dX8_lies_96 (lv_at hl 0 rfl) ?_
              refine lv_iconst (v := 1) hx hb dX8_lies_98 (by decide) ?_
              refine lv_iadd hx hb dX8_lies_99 ?_
              refine topc (y := (nI (v8_9 + 1))) (nI_add v8_9 1) ?_
              refine aldN 55 (v8_9 + 1) cx hw rfl (by omega) (by decide) dX8_lies_100 ?_
              obtain ⟨n_12, hn_12, en_12⟩ := IV.a_55 hi (i := (v8_9 + 1)) (by omega)
              refine topc (y := (nI n_12)) en_12 ?_
              refine lv_aload_n hx hb dX8_lies_101 rfl (lv_at hl 3 rfl) ?_
              refine gf_X8_76 cx hw dX8_lies_102 ?_
              refine lv_iload hx hb dX8_lies_105 (lv_at hl 0 rfl) ?_
              refine aldN 55 v8_9 cx hw rfl (by omega) (by decide) dX8_lies_107 ?_
              obtain ⟨n_13, hn_13, en_13⟩ := IV.a_55 hi (i := v8_9) (by omega)
              refine topc (y := (nI n_13)) en_13 ?_
              refine lv_isub hx hb dX8_lies_108 ?_
              refine lv_topi (fun x_14 _ => ?_)
              refine lv_i2l hx hb dX8_lies_109 rfl ?_
              refine lv_topl (fun y_15 _ => ?_)
              refine lv_lstore (lv' := [(9, .long y_15), (8, .int (nI v8_9)), (7, .int (nI (((10 * ph) + np) - 1))), (6, .int (nI (10 * ph))), (0, .ref (a 36)), (1, .int (nI ph)), (2, .long ww), (4, .long mm)]) hx hb dX8_lies_110 hl (by decide) rfl (fun ls hl => ?_)
              refine lv_lload_n hx hb dX8_lies_112 rfl (lv_at hl 6 rfl) ?_
              refine lv_aload_n hx hb dX8_lies_113 rfl (lv_at hl 4 rfl) ?_
              refine gf_X8_76 cx hw dX8_lies_114 ?_
              refine lv_iload hx hb dX8_lies_117 (lv_at hl 1 rfl) ?_
              refine aldN 55 v8_9 cx hw rfl (by omega) (by decide) dX8_lies_119 ?_
              refine topc (y := (nI n_13)) en_13 ?_
              refine lv_i2l hx hb dX8_lies_120 rfl ?_
              refine lv_topl (fun y_16 _ => ?_)
              refine lv_lsub hx hb dX8_lies_121 ?_
              refine lv_topl (fun y_17 _ => ?_)
              refine lv_lstore (lv' := [(11, .long y_17), (9, .long y_15), (8, .int (nI v8_9)), (7, .int (nI (((10 * ph) + np) - 1))), (6, .int (nI (10 * ph))), (0, .ref (a 36)), (1, .int (nI ph)), (2, .long ww), (4, .long mm)]) hx hb dX8_lies_122 hl (by decide) rfl (fun ls hl => ?_)
              refine lv_aload_n hx hb dX8_lies_124 rfl (lv_at hl 5 rfl) ?_
              refine gf_X8_79 cx hw dX8_lies_125 ?_
              refine lv_iload hx hb dX8_lies_128 (lv_at hl 2 rfl) ?_
              refine aldN 56 v8_9 cx hw rfl (by omega) (by decide) dX8_lies_130 ?_
              refine lv_topi (fun x_18 _ => ?_)
              refine lv_i2l hx hb dX8_lies_131 rfl ?_
              refine lv_topl (fun y_19 _ => ?_)
              refine lv_lload hx hb dX8_lies_132 (lv_at hl 1 rfl) ?_
              refine lv_lmul hx hb dX8_lies_134 ?_
              refine lv_topl (fun y_20 _ => ?_)
              refine lv_iload hx hb dX8_lies_135 (lv_at hl 2 rfl) ?_
              refine lv_iload hx hb dX8_lies_137 (lv_at hl 3 rfl) ?_
              refine lv_icmp_ne (tgt := 146) hx hb dX8_lies_139 (by decide) (fun _ => ?_) (fun q => absurd ((nI_eq (a := v8_9) (b := (((10 * ph) + np) - 1)) (by omega) (by omega)).mp q) (by omega))
              refine lv_aload_n hx hb dX8_lies_146 rfl (lv_at hl 5 rfl) ?_
              refine gf_X8_79 cx hw dX8_lies_147 ?_
              refine lv_iload hx hb dX8_lies_150 (lv_at hl 2 rfl) ?_
              refine lv_iconst (v := 1) hx hb dX8_lies_152 (by decide) ?_
              refine lv_iadd hx hb dX8_lies_153 ?_
              refine topc (y := (nI (v8_9 + 1))) (nI_add v8_9 1) ?_
              refine aldN 56 (v8_9 + 1) cx hw rfl (by omega) (by decide) dX8_lies_154 ?_
              refine lv_topi (fun x_22 _ => ?_)
              refine lv_aload_n hx hb dX8_lies_155 rfl (lv_at hl 5 rfl) ?_
              refine gf_X8_79 cx hw dX8_lies_156 ?_
              refine lv_iload hx hb dX8_lies_159 (lv_at hl 2 rfl) ?_
              refine aldN 56 v8_9 cx hw rfl (by omega) (by decide) dX8_lies_161 ?_
              refine lv_topi (fun x_23 _ => ?_)
              refine lv_isub hx hb dX8_lies_162 ?_
              refine lv_topi (fun x_24 _ => ?_)
              refine lv_i2l hx hb dX8_lies_163 rfl ?_
              refine lv_topl (fun y_25 _ => ?_)
              refine lv_lload hx hb dX8_lies_164 (lv_at hl 0 rfl) ?_
              refine lv_lmul hx hb dX8_lies_166 ?_
              refine lv_topl (fun y_26 _ => ?_)
              refine lv_ladd hx hb dX8_lies_167 ?_
              refine lv_topl (fun y_27 _ => ?_)
              refine lv_lstore (lv' := [(13, .long y_27), (11, .long y_17), (9, .long y_15), (8, .int (nI v8_9)), (7, .int (nI (((10 * ph) + np) - 1))), (6, .int (nI (10 * ph))), (0, .ref (a 36)), (1, .int (nI ph)), (2, .long ww), (4, .long mm)]) hx hb dX8_lies_168 hl (by decide) rfl (fun ls hl => ?_)
              refine lv_aload_n hx hb dX8_lies_170 rfl (lv_at hl 6 rfl) ?_
              refine gf_X8_82 cx hw dX8_lies_171 ?_
              refine lv_iload hx hb dX8_lies_174 (lv_at hl 3 rfl) ?_
              refine aldN 57 v8_9 cx hw rfl (by omega) (by decide) dX8_lies_176 ?_
              refine lv_topi (fun x_28 _ => ?_)
              refine lv_i2l hx hb dX8_lies_177 rfl ?_
              refine lv_topl (fun y_29 _ => ?_)
              refine lv_lload hx hb dX8_lies_178 (lv_at hl 2 rfl) ?_
              refine lv_lmul hx hb dX8_lies_180 ?_
              refine lv_topl (fun y_30 _ => ?_)
              refine lv_iload hx hb dX8_lies_181 (lv_at hl 3 rfl) ?_
              refine lv_iload hx hb dX8_lies_183 (lv_at hl 4 rfl) ?_
              refine lv_icmp_ne (tgt := 192) hx hb dX8_lies_185 (by decide) (fun _ => ?_) (fun q => absurd ((nI_eq (a := v8_9) (b := (((10 * ph) + np) - 1)) (by omega) (by omega)).mp q) (by omega))
              refine lv_aload_n hx hb dX8_lies_192 rfl (lv_at hl 6 rfl) ?_
              refine gf_X8_82 cx hw dX8_lies_193 ?_
              refine lv_iload hx hb dX8_lies_196 (lv_at hl 3 rfl) ?_
              refine lv_iconst (v := 1) hx hb dX8_lies_198 (by decide) ?_
              refine lv_iadd hx hb dX8_lies_199 ?_
              refine topc (y := (nI (v8_9 + 1))) (nI_add v8_9 1) ?_
              refine aldN 57 (v8_9 + 1) cx hw rfl (by omega) (by decide) dX8_lies_200 ?_
              refine lv_topi (fun x_32 _ => ?_)
              refine lv_aload_n hx hb dX8_lies_201 rfl (lv_at hl 6 rfl) ?_
              refine gf_X8_82 cx hw dX8_lies_202 ?_
              refine lv_iload hx hb dX8_lies_205 (lv_at hl 3 rfl) ?_
              refine aldN 57 v8_9 cx hw rfl (by omega) (by decide) dX8_lies_207 ?_
              refine lv_topi (fun x_33 _ => ?_)
              refine lv_isub hx hb dX8_lies_208 ?_
              refine lv_topi (fun x_34 _ => ?_)
              refine lv_i2l hx hb dX8_lies_209 rfl ?_
              refine lv_topl (fun y_35 _ => ?_)
              refine lv_lload hx hb dX8_lies_210 (lv_at hl 1 rfl) ?_
              refine lv_lmul hx hb dX8_lies_212 ?_
              refine lv_topl (fun y_36 _ => ?_)
              refine lv_ladd hx hb dX8_lies_213 ?_
              refine lv_topl (fun y_37 _ => ?_)
              refine lv_lstore (lv' := [(15, .long y_37), (13, .long y_27), (11, .long y_17), (9, .long y_15), (8, .int (nI v8_9)), (7, .int (nI (((10 * ph) + np) - 1))), (6, .int (nI (10 * ph))), (0, .ref (a 36)), (1, .int (nI ph)), (2, .long ww), (4, .long mm)]) hx hb dX8_lies_214 hl (by decide) rfl (fun ls hl => ?_)
              refine lv_lload hx hb dX8_lies_216 (lv_at hl 10 rfl) ?_
              refine lv_lload hx hb dX8_lies_218 (lv_at hl 3 rfl) ?_
              refine lv_lmul hx hb dX8_lies_220 ?_
              refine lv_topl (fun y_38 _ => ?_)
              refine lv_lload hx hb dX8_lies_221 (lv_at hl 1 rfl) ?_
              refine lv_lload_n hx hb dX8_lies_223 rfl (lv_at hl 9 rfl) ?_
              refine lv_lmul hx hb dX8_lies_224 ?_
              refine lv_topl (fun y_39 _ => ?_)
              refine W.lcmp hx hb dX8_lies_225 ?_
              refine lv_topi (fun x_40 _ => ?_)
              refine lv_if_ge (tgt := 231) hx hb dX8_lies_226 (by decide) (fun c_41 => ?_) (fun c_41 => ?_)
              · refine lv_lload hx hb dX8_lies_231 (lv_at hl 10 rfl) ?_
                refine lv_lload hx hb dX8_lies_233 (lv_at hl 3 rfl) ?_
                refine lv_lmul hx hb dX8_lies_235 ?_
                refine lv_topl (fun y_42 _ => ?_)
                refine lv_lload hx hb dX8_lies_236 (lv_at hl 0 rfl) ?_
                refine lv_lload_n hx hb dX8_lies_238 rfl (lv_at hl 9 rfl) ?_
                refine lv_lmul hx hb dX8_lies_239 ?_
                refine lv_topl (fun y_43 _ => ?_)
                refine W.lcmp hx hb dX8_lies_240 ?_
                refine lv_topi (fun x_44 _ => ?_)
                refine lv_if_le (tgt := 248) hx hb dX8_lies_241 (by decide) (fun _ => ?_) (fun _ => ?_)
                · refine lv_iconst (v := 0) hx hb dX8_lies_248 (by decide) ?_
                  exact retI cx hw hr hk dX8_lies_249 ⟨rfl, rfl⟩
                · refine lv_iconst (v := 4) hx hb dX8_lies_244 (by decide) ?_
                  refine lv_goto (tgt := 249) hx hb dX8_lies_245 (by decide) ?_
                  exact retI cx hw hr hk dX8_lies_249 ⟨rfl, rfl⟩
              · refine lv_iconst (v := 3) hx hb dX8_lies_229 (by decide) ?_
                exact retI cx hw hr hk dX8_lies_230 ⟨rfl, rfl⟩
            · have c_11 : v8_9 = (((10 * ph) + np) - 1) := (nI_eq (a := v8_9) (b := (((10 * ph) + np) - 1)) (by omega) (by omega)).mp c_11
              refine lv_lconst (v := 1) hx hb dX8_lies_88 (by decide) ?_
              refine lv_goto (tgt := 110) hx hb dX8_lies_89 (by decide) ?_
              refine lv_lstore (lv' := [(9, .long 1), (8, .int (nI v8_9)), (7, .int (nI (((10 * ph) + np) - 1))), (6, .int (nI (10 * ph))), (0, .ref (a 36)), (1, .int (nI ph)), (2, .long ww), (4, .long mm)]) hx hb dX8_lies_110 hl (by decide) rfl (fun ls hl => ?_)
              refine lv_lload_n hx hb dX8_lies_112 rfl (lv_at hl 6 rfl) ?_
              refine lv_aload_n hx hb dX8_lies_113 rfl (lv_at hl 4 rfl) ?_
              refine gf_X8_76 cx hw dX8_lies_114 ?_
              refine lv_iload hx hb dX8_lies_117 (lv_at hl 1 rfl) ?_
              refine aldN 55 v8_9 cx hw rfl (by omega) (by decide) dX8_lies_119 ?_
              obtain ⟨n_46, hn_46, en_46⟩ := IV.a_55 hi (i := v8_9) (by omega)
              refine topc (y := (nI n_46)) en_46 ?_
              refine lv_i2l hx hb dX8_lies_120 rfl ?_
              refine lv_topl (fun y_47 _ => ?_)
              refine lv_lsub hx hb dX8_lies_121 ?_
              refine lv_topl (fun y_48 _ => ?_)
              refine lv_lstore (lv' := [(11, .long y_48), (9, .long 1), (8, .int (nI v8_9)), (7, .int (nI (((10 * ph) + np) - 1))), (6, .int (nI (10 * ph))), (0, .ref (a 36)), (1, .int (nI ph)), (2, .long ww), (4, .long mm)]) hx hb dX8_lies_122 hl (by decide) rfl (fun ls hl => ?_)
              refine lv_aload_n hx hb dX8_lies_124 rfl (lv_at hl 5 rfl) ?_
              refine gf_X8_79 cx hw dX8_lies_125 ?_
              refine lv_iload hx hb dX8_lies_128 (lv_at hl 2 rfl) ?_
              refine aldN 56 v8_9 cx hw rfl (by omega) (by decide) dX8_lies_130 ?_
              refine lv_topi (fun x_49 _ => ?_)
              refine lv_i2l hx hb dX8_lies_131 rfl ?_
              refine lv_topl (fun y_50 _ => ?_)
              refine lv_lload hx hb dX8_lies_132 (lv_at hl 1 rfl) ?_
              refine lv_lmul hx hb dX8_lies_134 ?_
              refine lv_topl (fun y_51 _ => ?_)
              refine lv_iload hx hb dX8_lies_135 (lv_at hl 2 rfl) ?_
              refine lv_iload hx hb dX8_lies_137 (lv_at hl 3 rfl) ?_
              refine lv_icmp_ne (tgt := 146) hx hb dX8_lies_139 (by decide) (fun q => absurd ((nI_eq (a := v8_9) (b := (((10 * ph) + np) - 1)) (by omega) (by omega)).mpr (by omega)) q) (fun _ => ?_)
              refine lv_lconst (v := 0) hx hb dX8_lies_142 (by decide) ?_
              refine lv_goto (tgt := 167) hx hb dX8_lies_143 (by decide) ?_
              refine lv_ladd hx hb dX8_lies_167 ?_
              refine lv_topl (fun y_53 _ => ?_)
              refine lv_lstore (lv' := [(13, .long y_53), (11, .long y_48), (9, .long 1), (8, .int (nI v8_9)), (7, .int (nI (((10 * ph) + np) - 1))), (6, .int (nI (10 * ph))), (0, .ref (a 36)), (1, .int (nI ph)), (2, .long ww), (4, .long mm)]) hx hb dX8_lies_168 hl (by decide) rfl (fun ls hl => ?_)
              refine lv_aload_n hx hb dX8_lies_170 rfl (lv_at hl 6 rfl) ?_
              refine gf_X8_82 cx hw dX8_lies_171 ?_
              refine lv_iload hx hb dX8_lies_174 (lv_at hl 3 rfl) ?_
              refine aldN 57 v8_9 cx hw rfl (by omega) (by decide) dX8_lies_176 ?_
              refine lv_topi (fun x_54 _ => ?_)
              refine lv_i2l hx hb dX8_lies_177 rfl ?_
              refine lv_topl (fun y_55 _ => ?_)
              refine lv_lload hx hb dX8_lies_178 (lv_at hl 2 rfl) ?_
              refine lv_lmul hx hb dX8_lies_180 ?_
              refine lv_topl (fun y_56 _ => ?_)
              refine lv_iload hx hb dX8_lies_181 (lv_at hl 3 rfl) ?_
              refine lv_iload hx hb dX8_lies_183 (lv_at hl 4 rfl) ?_
              refine lv_icmp_ne (tgt := 192) hx hb dX8_lies_185 (by decide) (fun q => absurd ((nI_eq (a := v8_9) (b := (((10 * ph) + np) - 1)) (by omega) (by omega)).mpr (by omega)) q) (fun _ => ?_)
              refine lv_lconst (v := 0) hx hb dX8_lies_188 (by decide) ?_
              refine lv_goto (tgt := 213) hx hb dX8_lies_189 (by decide) ?_
              refine lv_ladd hx hb dX8_lies_213 ?_
              refine lv_topl (fun y_58 _ => ?_)
              refine lv_lstore (lv' := [(15, .long y_58), (13, .long y_53), (11, .long y_48), (9, .long 1), (8, .int (nI v8_9)), (7, .int (nI (((10 * ph) + np) - 1))), (6, .int (nI (10 * ph))), (0, .ref (a 36)), (1, .int (nI ph)), (2, .long ww), (4, .long mm)]) hx hb dX8_lies_214 hl (by decide) rfl (fun ls hl => ?_)
              refine lv_lload hx hb dX8_lies_216 (lv_at hl 10 rfl) ?_
              refine lv_lload hx hb dX8_lies_218 (lv_at hl 3 rfl) ?_
              refine lv_lmul hx hb dX8_lies_220 ?_
              refine lv_topl (fun y_59 _ => ?_)
              refine lv_lload hx hb dX8_lies_221 (lv_at hl 1 rfl) ?_
              refine lv_lload_n hx hb dX8_lies_223 rfl (lv_at hl 9 rfl) ?_
              refine lv_lmul hx hb dX8_lies_224 ?_
              refine lv_topl (fun y_60 _ => ?_)
              refine W.lcmp hx hb dX8_lies_225 ?_
              refine lv_topi (fun x_61 _ => ?_)
              refine lv_if_ge (tgt := 231) hx hb dX8_lies_226 (by decide) (fun c_62 => ?_) (fun c_62 => ?_)
              · refine lv_lload hx hb dX8_lies_231 (lv_at hl 10 rfl) ?_
                refine lv_lload hx hb dX8_lies_233 (lv_at hl 3 rfl) ?_
                refine lv_lmul hx hb dX8_lies_235 ?_
                refine lv_topl (fun y_63 _ => ?_)
                refine lv_lload hx hb dX8_lies_236 (lv_at hl 0 rfl) ?_
                refine lv_lload_n hx hb dX8_lies_238 rfl (lv_at hl 9 rfl) ?_
                refine lv_lmul hx hb dX8_lies_239 ?_
                refine lv_topl (fun y_64 _ => ?_)
                refine W.lcmp hx hb dX8_lies_240 ?_
                refine lv_topi (fun x_65 _ => ?_)
                refine lv_if_le (tgt := 248) hx hb dX8_lies_241 (by decide) (fun _ => ?_) (fun _ => ?_)
                · refine lv_iconst (v := 0) hx hb dX8_lies_248 (by decide) ?_
                  exact retI cx hw hr hk dX8_lies_249 ⟨rfl, rfl⟩
                · refine lv_iconst (v := 4) hx hb dX8_lies_244 (by decide) ?_
                  refine lv_goto (tgt := 249) hx hb dX8_lies_245 (by decide) ?_
                  exact retI cx hw hr hk dX8_lies_249 ⟨rfl, rfl⟩
              · refine lv_iconst (v := 3) hx hb dX8_lies_229 (by decide) ?_
                exact retI cx hw hr hk dX8_lies_230 ⟨rfl, rfl⟩
          · have c_10 : ¬ (((10 * ph) + np) - 1) ≤ v8_9 := fun z => c_10 ((nI_leI (a := (((10 * ph) + np) - 1)) (b := v8_9) (by omega) (by omega)).mpr z)
            refine lv_aload_n hx hb dX8_lies_60 rfl (lv_at hl 3 rfl) ?_
            refine gf_X8_76 cx hw dX8_lies_61 ?_
            refine lv_iload hx hb dX8_lies_64 (lv_at hl 0 rfl) ?_
            refine lv_iconst (v := 1) hx hb dX8_lies_66 (by decide) ?_
            refine lv_iadd hx hb dX8_lies_67 ?_
            refine topc (y := (nI (v8_9 + 1))) (nI_add v8_9 1) ?_
            refine aldN 55 (v8_9 + 1) cx hw rfl (by omega) (by decide) dX8_lies_68 ?_
            obtain ⟨n_67, hn_67, en_67⟩ := IV.a_55 hi (i := (v8_9 + 1)) (by omega)
            refine topc (y := (nI n_67)) en_67 ?_
            refine lv_i2l hx hb dX8_lies_69 rfl ?_
            refine lv_topl (fun y_68 _ => ?_)
            refine lv_lload_n hx hb dX8_lies_70 rfl (lv_at hl 5 rfl) ?_
            refine W.lcmp hx hb dX8_lies_71 ?_
            refine lv_topi (fun x_69 _ => ?_)
            refine lv_if_gt (tgt := 81) hx hb dX8_lies_72 (by decide) (fun _ => ?_) (fun _ => ?_)
            · refine lv_iload hx hb dX8_lies_81 (lv_at hl 0 rfl) ?_
              refine lv_iload hx hb dX8_lies_83 (lv_at hl 1 rfl) ?_
              refine lv_icmp_ne (tgt := 92) hx hb dX8_lies_85 (by decide) (fun c_71 => ?_) (fun c_71 => ?_)
              · have c_71 : ¬ v8_9 = (((10 * ph) + np) - 1) := fun z => c_71 ((nI_eq (a := v8_9) (b := (((10 * ph) + np) - 1)) (by omega) (by omega)).mpr z)
                refine lv_aload_n hx hb dX8_lies_92 rfl (lv_at hl 3 rfl) ?_
                refine gf_X8_76 cx hw dX8_lies_93 ?_
                refine lv_iload hx hb dX8_lies_96 (lv_at hl 0 rfl) ?_
                refine lv_iconst (v := 1) hx hb dX8_lies_98 (by decide) ?_
                refine lv_iadd hx hb dX8_lies_99 ?_
                refine topc (y := (nI (v8_9 + 1))) (nI_add v8_9 1) ?_
                refine aldN 55 (v8_9 + 1) cx hw rfl (by omega) (by decide) dX8_lies_100 ?_
                refine topc (y := (nI n_67)) en_67 ?_
                refine lv_aload_n hx hb dX8_lies_101 rfl (lv_at hl 3 rfl) ?_
                refine gf_X8_76 cx hw dX8_lies_102 ?_
                refine lv_iload hx hb dX8_lies_105 (lv_at hl 0 rfl) ?_
                refine aldN 55 v8_9 cx hw rfl (by omega) (by decide) dX8_lies_107 ?_
                obtain ⟨n_72, hn_72, en_72⟩ := IV.a_55 hi (i := v8_9) (by omega)
                refine topc (y := (nI n_72)) en_72 ?_
                refine lv_isub hx hb dX8_lies_108 ?_
                refine lv_topi (fun x_73 _ => ?_)
                refine lv_i2l hx hb dX8_lies_109 rfl ?_
                refine lv_topl (fun y_74 _ => ?_)
                refine lv_lstore (lv' := [(9, .long y_74), (8, .int (nI v8_9)), (7, .int (nI (((10 * ph) + np) - 1))), (6, .int (nI (10 * ph))), (0, .ref (a 36)), (1, .int (nI ph)), (2, .long ww), (4, .long mm)]) hx hb dX8_lies_110 hl (by decide) rfl (fun ls hl => ?_)
                refine lv_lload_n hx hb dX8_lies_112 rfl (lv_at hl 6 rfl) ?_
                refine lv_aload_n hx hb dX8_lies_113 rfl (lv_at hl 4 rfl) ?_
                refine gf_X8_76 cx hw dX8_lies_114 ?_
                refine lv_iload hx hb dX8_lies_117 (lv_at hl 1 rfl) ?_
                refine aldN 55 v8_9 cx hw rfl (by omega) (by decide) dX8_lies_119 ?_
                refine topc (y := (nI n_72)) en_72 ?_
                refine lv_i2l hx hb dX8_lies_120 rfl ?_
                refine lv_topl (fun y_75 _ => ?_)
                refine lv_lsub hx hb dX8_lies_121 ?_
                refine lv_topl (fun y_76 _ => ?_)
                refine lv_lstore (lv' := [(11, .long y_76), (9, .long y_74), (8, .int (nI v8_9)), (7, .int (nI (((10 * ph) + np) - 1))), (6, .int (nI (10 * ph))), (0, .ref (a 36)), (1, .int (nI ph)), (2, .long ww), (4, .long mm)]) hx hb dX8_lies_122 hl (by decide) rfl (fun ls hl => ?_)
                refine lv_aload_n hx hb dX8_lies_124 rfl (lv_at hl 5 rfl) ?_
                refine gf_X8_79 cx hw dX8_lies_125 ?_
                refine lv_iload hx hb dX8_lies_128 (lv_at hl 2 rfl) ?_
                refine aldN 56 v8_9 cx hw rfl (by omega) (by decide) dX8_lies_130 ?_
                refine lv_topi (fun x_77 _ => ?_)
                refine lv_i2l hx hb dX8_lies_131 rfl ?_
                refine lv_topl (fun y_78 _ => ?_)
                refine lv_lload hx hb dX8_lies_132 (lv_at hl 1 rfl) ?_
                refine lv_lmul hx hb dX8_lies_134 ?_
                refine lv_topl (fun y_79 _ => ?_)
                refine lv_iload hx hb dX8_lies_135 (lv_at hl 2 rfl) ?_
                refine lv_iload hx hb dX8_lies_137 (lv_at hl 3 rfl) ?_
                refine lv_icmp_ne (tgt := 146) hx hb dX8_lies_139 (by decide) (fun _ => ?_) (fun q => absurd ((nI_eq (a := v8_9) (b := (((10 * ph) + np) - 1)) (by omega) (by omega)).mp q) (by omega))
                refine lv_aload_n hx hb dX8_lies_146 rfl (lv_at hl 5 rfl) ?_
                refine gf_X8_79 cx hw dX8_lies_147 ?_
                refine lv_iload hx hb dX8_lies_150 (lv_at hl 2 rfl) ?_
                refine lv_iconst (v := 1) hx hb dX8_lies_152 (by decide) ?_
                refine lv_iadd hx hb dX8_lies_153 ?_
                refine topc (y := (nI (v8_9 + 1))) (nI_add v8_9 1) ?_
                refine aldN 56 (v8_9 + 1) cx hw rfl (by omega) (by decide) dX8_lies_154 ?_
                refine lv_topi (fun x_81 _ => ?_)
                refine lv_aload_n hx hb dX8_lies_155 rfl (lv_at hl 5 rfl) ?_
                refine gf_X8_79 cx hw dX8_lies_156 ?_
                refine lv_iload hx hb dX8_lies_159 (lv_at hl 2 rfl) ?_
                refine aldN 56 v8_9 cx hw rfl (by omega) (by decide) dX8_lies_161 ?_
                refine lv_topi (fun x_82 _ => ?_)
                refine lv_isub hx hb dX8_lies_162 ?_
                refine lv_topi (fun x_83 _ => ?_)
                refine lv_i2l hx hb dX8_lies_163 rfl ?_
                refine lv_topl (fun y_84 _ => ?_)
                refine lv_lload hx hb dX8_lies_164 (lv_at hl 0 rfl) ?_
                refine lv_lmul hx hb dX8_lies_166 ?_
                refine lv_topl (fun y_85 _ => ?_)
                refine lv_ladd hx hb dX8_lies_167 ?_
                refine lv_topl (fun y_86 _ => ?_)
                refine lv_lstore (lv' := [(13, .long y_86), (11, .long y_76), (9, .long y_74), (8, .int (nI v8_9)), (7, .int (nI (((10 * ph) + np) - 1))), (6, .int (nI (10 * ph))), (0, .ref (a 36)), (1, .int (nI ph)), (2, .long ww), (4, .long mm)]) hx hb dX8_lies_168 hl (by decide) rfl (fun ls hl => ?_)
                refine lv_aload_n hx hb dX8_lies_170 rfl (lv_at hl 6 rfl) ?_
                refine gf_X8_82 cx hw dX8_lies_171 ?_
                refine lv_iload hx hb dX8_lies_174 (lv_at hl 3 rfl) ?_
                refine aldN 57 v8_9 cx hw rfl (by omega) (by decide) dX8_lies_176 ?_
                refine lv_topi (fun x_87 _ => ?_)
                refine lv_i2l hx hb dX8_lies_177 rfl ?_
                refine lv_topl (fun y_88 _ => ?_)
                refine lv_lload hx hb dX8_lies_178 (lv_at hl 2 rfl) ?_
                refine lv_lmul hx hb dX8_lies_180 ?_
                refine lv_topl (fun y_89 _ => ?_)
                refine lv_iload hx hb dX8_lies_181 (lv_at hl 3 rfl) ?_
                refine lv_iload hx hb dX8_lies_183 (lv_at hl 4 rfl) ?_
                refine lv_icmp_ne (tgt := 192) hx hb dX8_lies_185 (by decide) (fun _ => ?_) (fun q => absurd ((nI_eq (a := v8_9) (b := (((10 * ph) + np) - 1)) (by omega) (by omega)).mp q) (by omega))
                refine lv_aload_n hx hb dX8_lies_192 rfl (lv_at hl 6 rfl) ?_
                refine gf_X8_82 cx hw dX8_lies_193 ?_
                refine lv_iload hx hb dX8_lies_196 (lv_at hl 3 rfl) ?_
                refine lv_iconst (v := 1) hx hb dX8_lies_198 (by decide) ?_
                refine lv_iadd hx hb dX8_lies_199 ?_
                refine topc (y := (nI (v8_9 + 1))) (nI_add v8_9 1) ?_
                refine aldN 57 (v8_9 + 1) cx hw rfl (by omega) (by decide) dX8_lies_200 ?_
                refine lv_topi (fun x_91 _ => ?_)
                refine lv_aload_n hx hb dX8_lies_201 rfl (lv_at hl 6 rfl) ?_
                refine gf_X8_82 cx hw dX8_lies_202 ?_
                refine lv_iload hx hb dX8_lies_205 (lv_at hl 3 rfl) ?_
                refine aldN 57 v8_9 cx hw rfl (by omega) (by decide) dX8_lies_207 ?_
                refine lv_topi (fun x_92 _ => ?_)
                refine lv_isub hx hb dX8_lies_208 ?_
                refine lv_topi (fun x_93 _ => ?_)
                refine lv_i2l hx hb dX8_lies_209 rfl ?_
                refine lv_topl (fun y_94 _ => ?_)
                refine lv_lload hx hb dX8_lies_210 (lv_at hl 1 rfl) ?_
                refine lv_lmul hx hb dX8_lies_212 ?_
                refine lv_topl (fun y_95 _ => ?_)
                refine lv_ladd hx hb dX8_lies_213 ?_
                refine lv_topl (fun y_96 _ => ?_)
                refine lv_lstore (lv' := [(15, .long y_96), (13, .long y_86), (11, .long y_76), (9, .long y_74), (8, .int (nI v8_9)), (7, .int (nI (((10 * ph) + np) - 1))), (6, .int (nI (10 * ph))), (0, .ref (a 36)), (1, .int (nI ph)), (2, .long ww), (4, .long mm)]) hx hb dX8_lies_214 hl (by decide) rfl (fun ls hl => ?_)
                refine lv_lload hx hb dX8_lies_216 (lv_at hl 10 rfl) ?_
                refine lv_lload hx hb dX8_lies_218 (lv_at hl 3 rfl) ?_
                refine lv_lmul hx hb dX8_lies_220 ?_
                refine lv_topl (fun y_97 _ => ?_)
                refine lv_lload hx hb dX8_lies_221 (lv_at hl 1 rfl) ?_
                refine lv_lload_n hx hb dX8_lies_223 rfl (lv_at hl 9 rfl) ?_
                refine lv_lmul hx hb dX8_lies_224 ?_
                refine lv_topl (fun y_98 _ => ?_)
                refine W.lcmp hx hb dX8_lies_225 ?_
                refine lv_topi (fun x_99 _ => ?_)
                refine lv_if_ge (tgt := 231) hx hb dX8_lies_226 (by decide) (fun c_100 => ?_) (fun c_100 => ?_)
                · refine lv_lload hx hb dX8_lies_231 (lv_at hl 10 rfl) ?_
                  refine lv_lload hx hb dX8_lies_233 (lv_at hl 3 rfl) ?_
                  refine lv_lmul hx hb dX8_lies_235 ?_
                  refine lv_topl (fun y_101 _ => ?_)
                  refine lv_lload hx hb dX8_lies_236 (lv_at hl 0 rfl) ?_
                  refine lv_lload_n hx hb dX8_lies_238 rfl (lv_at hl 9 rfl) ?_
                  refine lv_lmul hx hb dX8_lies_239 ?_
                  refine lv_topl (fun y_102 _ => ?_)
                  refine W.lcmp hx hb dX8_lies_240 ?_
                  refine lv_topi (fun x_103 _ => ?_)
                  refine lv_if_le (tgt := 248) hx hb dX8_lies_241 (by decide) (fun _ => ?_) (fun _ => ?_)
                  · refine lv_iconst (v := 0) hx hb dX8_lies_248 (by decide) ?_
                    exact retI cx hw hr hk dX8_lies_249 ⟨rfl, rfl⟩
                  · refine lv_iconst (v := 4) hx hb dX8_lies_244 (by decide) ?_
                    refine lv_goto (tgt := 249) hx hb dX8_lies_245 (by decide) ?_
                    exact retI cx hw hr hk dX8_lies_249 ⟨rfl, rfl⟩
                · refine lv_iconst (v := 3) hx hb dX8_lies_229 (by decide) ?_
                  exact retI cx hw hr hk dX8_lies_230 ⟨rfl, rfl⟩
              · have c_71 : v8_9 = (((10 * ph) + np) - 1) := (nI_eq (a := v8_9) (b := (((10 * ph) + np) - 1)) (by omega) (by omega)).mp c_71
                refine lv_lconst (v := 1) hx hb dX8_lies_88 (by decide) ?_
                refine lv_goto (tgt := 110) hx hb dX8_lies_89 (by decide) ?_
                refine lv_lstore (lv' := [(9, .long 1), (8, .int (nI v8_9)), (7, .int (nI (((10 * ph) + np) - 1))), (6, .int (nI (10 * ph))), (0, .ref (a 36)), (1, .int (nI ph)), (2, .long ww), (4, .long mm)]) hx hb dX8_lies_110 hl (by decide) rfl (fun ls hl => ?_)
                refine lv_lload_n hx hb dX8_lies_112 rfl (lv_at hl 6 rfl) ?_
                refine lv_aload_n hx hb dX8_lies_113 rfl (lv_at hl 4 rfl) ?_
                refine gf_X8_76 cx hw dX8_lies_114 ?_
                refine lv_iload hx hb dX8_lies_117 (lv_at hl 1 rfl) ?_
                refine aldN 55 v8_9 cx hw rfl (by omega) (by decide) dX8_lies_119 ?_
                obtain ⟨n_105, hn_105, en_105⟩ := IV.a_55 hi (i := v8_9) (by omega)
                refine topc (y := (nI n_105)) en_105 ?_
                refine lv_i2l hx hb dX8_lies_120 rfl ?_
                refine lv_topl (fun y_106 _ => ?_)
                refine lv_lsub hx hb dX8_lies_121 ?_
                refine lv_topl (fun y_107 _ => ?_)
                refine lv_lstore (lv' := [(11, .long y_107), (9, .long 1), (8, .int (nI v8_9)), (7, .int (nI (((10 * ph) + np) - 1))), (6, .int (nI (10 * ph))), (0, .ref (a 36)), (1, .int (nI ph)), (2, .long ww), (4, .long mm)]) hx hb dX8_lies_122 hl (by decide) rfl (fun ls hl => ?_)
                refine lv_aload_n hx hb dX8_lies_124 rfl (lv_at hl 5 rfl) ?_
                refine gf_X8_79 cx hw dX8_lies_125 ?_
                refine lv_iload hx hb dX8_lies_128 (lv_at hl 2 rfl) ?_
                refine aldN 56 v8_9 cx hw rfl (by omega) (by decide) dX8_lies_130 ?_
                refine lv_topi (fun x_108 _ => ?_)
                refine lv_i2l hx hb dX8_lies_131 rfl ?_
                refine lv_topl (fun y_109 _ => ?_)
                refine lv_lload hx hb dX8_lies_132 (lv_at hl 1 rfl) ?_
                refine lv_lmul hx hb dX8_lies_134 ?_
                refine lv_topl (fun y_110 _ => ?_)
                refine lv_iload hx hb dX8_lies_135 (lv_at hl 2 rfl) ?_
                refine lv_iload hx hb dX8_lies_137 (lv_at hl 3 rfl) ?_
                refine lv_icmp_ne (tgt := 146) hx hb dX8_lies_139 (by decide) (fun q => absurd ((nI_eq (a := v8_9) (b := (((10 * ph) + np) - 1)) (by omega) (by omega)).mpr (by omega)) q) (fun _ => ?_)
                refine lv_lconst (v := 0) hx hb dX8_lies_142 (by decide) ?_
                refine lv_goto (tgt := 167) hx hb dX8_lies_143 (by decide) ?_
                refine lv_ladd hx hb dX8_lies_167 ?_
                refine lv_topl (fun y_112 _ => ?_)
                refine lv_lstore (lv' := [(13, .long y_112), (11, .long y_107), (9, .long 1), (8, .int (nI v8_9)), (7, .int (nI (((10 * ph) + np) - 1))), (6, .int (nI (10 * ph))), (0, .ref (a 36)), (1, .int (nI ph)), (2, .long ww), (4, .long mm)]) hx hb dX8_lies_168 hl (by decide) rfl (fun ls hl => ?_)
                refine lv_aload_n hx hb dX8_lies_170 rfl (lv_at hl 6 rfl) ?_
                refine gf_X8_82 cx hw dX8_lies_171 ?_
                refine lv_iload hx hb dX8_lies_174 (lv_at hl 3 rfl) ?_
                refine aldN 57 v8_9 cx hw rfl (by omega) (by decide) dX8_lies_176 ?_
                refine lv_topi (fun x_113 _ => ?_)
                refine lv_i2l hx hb dX8_lies_177 rfl ?_
                refine lv_topl (fun y_114 _ => ?_)
                refine lv_lload hx hb dX8_lies_178 (lv_at hl 2 rfl) ?_
                refine lv_lmul hx hb dX8_lies_180 ?_
                refine lv_topl (fun y_115 _ => ?_)
                refine lv_iload hx hb dX8_lies_181 (lv_at hl 3 rfl) ?_
                refine lv_iload hx hb dX8_lies_183 (lv_at hl 4 rfl) ?_
                refine lv_icmp_ne (tgt := 192) hx hb dX8_lies_185 (by decide) (fun q => absurd ((nI_eq (a := v8_9) (b := (((10 * ph) + np) - 1)) (by omega) (by omega)).mpr (by omega)) q) (fun _ => ?_)
                refine lv_lconst (v := 0) hx hb dX8_lies_188 (by decide) ?_
                refine lv_goto (tgt := 213) hx hb dX8_lies_189 (by decide) ?_
                refine lv_ladd hx hb dX8_lies_213 ?_
                refine lv_topl (fun y_117 _ => ?_)
                refine lv_lstore (lv' := [(15, .long y_117), (13, .long y_112), (11, .long y_107), (9, .long 1), (8, .int (nI v8_9)), (7, .int (nI (((10 * ph) + np) - 1))), (6, .int (nI (10 * ph))), (0, .ref (a 36)), (1, .int (nI ph)), (2, .long ww), (4, .long mm)]) hx hb dX8_lies_214 hl (by decide) rfl (fun ls hl => ?_)
                refine lv_lload hx hb dX8_lies_216 (lv_at hl 10 rfl) ?_
                refine lv_lload hx hb dX8_lies_218 (lv_at hl 3 rfl) ?_
                refine lv_lmul hx hb dX8_lies_220 ?_
                refine lv_topl (fun y_118 _ => ?_)
                refine lv_lload hx hb dX8_lies_221 (lv_at hl 1 rfl) ?_
                refine lv_lload_n hx hb dX8_lies_223 rfl (lv_at hl 9 rfl) ?_
                refine lv_lmul hx hb dX8_lies_224 ?_
                refine lv_topl (fun y_119 _ => ?_)
                refine W.lcmp hx hb dX8_lies_225 ?_
                refine lv_topi (fun x_120 _ => ?_)
                refine lv_if_ge (tgt := 231) hx hb dX8_lies_226 (by decide) (fun c_121 => ?_) (fun c_121 => ?_)
                · refine lv_lload hx hb dX8_lies_231 (lv_at hl 10 rfl) ?_
                  refine lv_lload hx hb dX8_lies_233 (lv_at hl 3 rfl) ?_
                  refine lv_lmul hx hb dX8_lies_235 ?_
                  refine lv_topl (fun y_122 _ => ?_)
                  refine lv_lload hx hb dX8_lies_236 (lv_at hl 0 rfl) ?_
                  refine lv_lload_n hx hb dX8_lies_238 rfl (lv_at hl 9 rfl) ?_
                  refine lv_lmul hx hb dX8_lies_239 ?_
                  refine lv_topl (fun y_123 _ => ?_)
                  refine W.lcmp hx hb dX8_lies_240 ?_
                  refine lv_topi (fun x_124 _ => ?_)
                  refine lv_if_le (tgt := 248) hx hb dX8_lies_241 (by decide) (fun _ => ?_) (fun _ => ?_)
                  · refine lv_iconst (v := 0) hx hb dX8_lies_248 (by decide) ?_
                    exact retI cx hw hr hk dX8_lies_249 ⟨rfl, rfl⟩
                  · refine lv_iconst (v := 4) hx hb dX8_lies_244 (by decide) ?_
                    refine lv_goto (tgt := 249) hx hb dX8_lies_245 (by decide) ?_
                    exact retI cx hw hr hk dX8_lies_249 ⟨rfl, rfl⟩
                · refine lv_iconst (v := 3) hx hb dX8_lies_229 (by decide) ?_
                  exact retI cx hw hr hk dX8_lies_230 ⟨rfl, rfl⟩
            · refine lv_iinc (v := (nI (v8_9 + 1))) (lv' := [(8, .int (nI (v8_9 + 1))), (7, .int (nI (((10 * ph) + np) - 1))), (6, .int (nI (10 * ph))), (0, .ref (a 36)), (1, .int (nI ph)), (2, .long ww), (4, .long mm)]) hx hb dX8_lies_75 hl (k := 0) rfl (nI_add v8_9 1) (by decide) rfl (fun ls hl => ?_)
              refine lv_goto (tgt := 53) hx hb dX8_lies_78 (by decide) ?_
              exact ih_9 (v8_9 + 1)  (by omega) (by omega) _ _ _ hw (lv_sub hl [0, 1, 2, 3, 4, 5, 6] rfl)
      exact loop_9 _ (10 * ph)  (by omega)  (Nat.lt_succ_self _) _ _ _ hw (lv_sub hl [0, 1, 2, 3, 4, 5, 6] rfl)
    · refine lv_iconst (v := 2) hx hb dX8_lies_47 (by decide) ?_
      exact retI cx hw hr hk dX8_lies_48 ⟨rfl, rfl⟩
  · refine lv_iconst (v := 1) hx hb dX8_lies_32 (by decide) ?_
    exact retI cx hw hr hk dX8_lies_33 ⟨rfl, rfl⟩

set_option maxHeartbeats 4000000 in
set_option maxRecDepth 100000 in
theorem k_X8_within (l : Launch) (D : va_G) (a : Nat → Nat) (cI cZ : ClassId) (f : FF) (u : UU) (ph : Int32) (hi : IV f)  : KI l yX8_within cX8_within 2 (some .int) ({ frames := 4, cells := 0, slots := 0, locals := 78 } : Room) D a cI cZ [.ref (a 36), .int ph] f u (fun r f2 u2 => f = f2 ∧ u = u2) := by
  refine KX.of (by decide) (Nat.le_of_ble_eq_true rfl) ?_
  intro p e s m below meth c cx hw hr hk ls hl
  have cx : Cx p s m _ c cX8_within RX8 2 D cI cZ := cx
  have hl : lv_has ls 2 [(0, .ref (a 36)), (1, .int ph)] := hl
  have hx := cx.1.1
  have hb := cx.1.2.1
  refine lv_iload_n hx hb dX8_within_0 rfl (lv_at hl 1 rfl) ?_
  refine lv_iconst (v := 0) hx hb dX8_within_1 (by decide) ?_
  refine lv_iconst (v := 1) hx hb dX8_within_2 (by decide) ?_
  refine goI hw (runSW (As := [.int ph, .int 0, .int 1]) (rest := []) cx hw (c_X8_isIn l D a cI cZ f u ph 0 1  ) lk_X8_95 ⟨Nat.le_of_ble_eq_true rfl, Nat.le_of_ble_eq_true rfl⟩ ⟨rfl, rfl⟩ ⟨Nat.zero_le _, Nat.zero_le _⟩ rfl rfl hl.1 (Nat.le_of_ble_eq_true rfl) dX8_within_3) (fun r_1 f_1 u_1 H locs hp_1 hw => ?_)
  obtain ⟨rfl, rfl, e_1⟩ := hp_1
  refine topc e_1 ?_
  refine lv_if_ne (tgt := 11) hx hb dX8_within_6 (by decide) (fun c_2 => ?_) (fun c_2 => ?_)
  · rcases rg_01 c_2 with et_2 | et_2
    · subst et_2
      refine lv_aload_n hx hb dX8_within_11 rfl (lv_at hl 0 rfl) ?_
      refine gf_X8_73 cx hw dX8_within_12 ?_
      refine lv_iload_n hx hb dX8_within_15 rfl (lv_at hl 1 rfl) ?_
      refine aldN 54 0 cx hw rfl (by omega) (by decide) dX8_within_16 ?_
      obtain ⟨n_3, hn_3, en_3⟩ := IV.a_54 hi (i := 0) (by omega)
      refine topc (y := (nI n_3)) en_3 ?_
      refine lv_if_ne (tgt := 23) hx hb dX8_within_17 (by decide) (fun c_4 => ?_) (fun c_4 => ?_)
      · have c_4 : ¬ n_3 = 0 := fun z => c_4 ((nI_eq (a := n_3) (b := 0) (by omega) (by omega)).mpr z)
        refine lv_aload_n hx hb dX8_within_23 rfl (lv_at hl 0 rfl) ?_
        refine lv_iload_n hx hb dX8_within_24 rfl (lv_at hl 1 rfl) ?_
        refine lv_aload_n hx hb dX8_within_25 rfl (lv_at hl 0 rfl) ?_
        refine goI hw (runVW (k := 36) (As := []) (rest := [.int 0, .ref (a 36)]) cx hw (k_X8_dryWeight l D a cI cZ f u   hi) lk_X8_153 rfl rfl ⟨Nat.le_of_ble_eq_true rfl, Nat.le_of_ble_eq_true rfl⟩ ⟨rfl, rfl⟩ ⟨Nat.zero_le _, Nat.zero_le _⟩ rfl rfl hl.1 (Nat.le_of_ble_eq_true rfl) dX8_within_26) (fun r_5 f_5 u_5 H locs hp_5 hw => ?_)
        obtain ⟨rfl, rfl⟩ := hp_5
        refine lv_iload_n hx hb dX8_within_29 rfl (lv_at hl 1 rfl) ?_
        refine lv_if_ne (tgt := 37) hx hb dX8_within_30 (by decide) (fun q => absurd (by decide) q) (fun _ => ?_)
        refine lv_iconst (v := 0) hx hb dX8_within_33 (by decide) ?_
        refine lv_goto (tgt := 41) hx hb dX8_within_34 (by decide) ?_
        refine lv_iadd hx hb dX8_within_41 ?_
        refine lv_topi (fun x_7 _ => ?_)
        refine lv_i2l hx hb dX8_within_42 rfl ?_
        refine lv_topl (fun y_8 _ => ?_)
        refine lv_aload_n hx hb dX8_within_43 rfl (lv_at hl 0 rfl) ?_
        refine goL hw (runVW (k := 36) (As := []) (rest := [.long y_8, .int 0, .ref (a 36)]) cx hw (k_X8_dryMoment l D a cI cZ f u   hi) lk_X8_160 rfl rfl ⟨Nat.le_of_ble_eq_true rfl, Nat.le_of_ble_eq_true rfl⟩ ⟨rfl, rfl⟩ ⟨Nat.zero_le _, Nat.zero_le _⟩ rfl rfl hl.1 (Nat.le_of_ble_eq_true rfl) dX8_within_44) (fun r_9 f_9 u_9 H locs hp_9 hw => ?_)
        obtain ⟨rfl, rfl⟩ := hp_9
        refine lv_iload_n hx hb dX8_within_47 rfl (lv_at hl 1 rfl) ?_
        refine lv_if_ne (tgt := 55) hx hb dX8_within_48 (by decide) (fun q => absurd (by decide) q) (fun _ => ?_)
        refine lv_lconst (v := 0) hx hb dX8_within_51 (by decide) ?_
        refine lv_goto (tgt := 60) hx hb dX8_within_52 (by decide) ?_
        refine lv_ladd hx hb dX8_within_60 ?_
        refine lv_topl (fun y_11 _ => ?_)
        refine goI hw (runVW (k := 36) (As := [.int 0, .long y_8, .long y_11]) (rest := []) cx hw (k_X8_lies l D a cI cZ f u 0 y_8 y_11 n_3 hi (by omega) (by omega) (by omega) en_3) lk_X8_170 rfl rfl ⟨Nat.le_of_ble_eq_true rfl, Nat.le_of_ble_eq_true rfl⟩ ⟨rfl, rfl⟩ ⟨Nat.zero_le _, Nat.zero_le _⟩ rfl rfl hl.1 (Nat.le_of_ble_eq_true rfl) dX8_within_61) (fun r_12 f_12 u_12 H locs hp_12 hw => ?_)
        obtain ⟨rfl, rfl⟩ := hp_12
        exact retI cx hw hr hk dX8_within_64 ⟨rfl, rfl⟩
      · have c_4 : n_3 = 0 := (nI_eq (a := n_3) (b := 0) (by omega) (by omega)).mp c_4
        refine lv_bipush (v := (-3)) hx hb dX8_within_20 (by decide) ?_
        exact retI cx hw hr hk dX8_within_22 ⟨rfl, rfl⟩
    · subst et_2
      refine lv_aload_n hx hb dX8_within_11 rfl (lv_at hl 0 rfl) ?_
      refine gf_X8_73 cx hw dX8_within_12 ?_
      refine lv_iload_n hx hb dX8_within_15 rfl (lv_at hl 1 rfl) ?_
      refine aldN 54 1 cx hw rfl (by omega) (by decide) dX8_within_16 ?_
      obtain ⟨n_13, hn_13, en_13⟩ := IV.a_54 hi (i := 1) (by omega)
      refine topc (y := (nI n_13)) en_13 ?_
      refine lv_if_ne (tgt := 23) hx hb dX8_within_17 (by decide) (fun c_14 => ?_) (fun c_14 => ?_)
      · have c_14 : ¬ n_13 = 0 := fun z => c_14 ((nI_eq (a := n_13) (b := 0) (by omega) (by omega)).mpr z)
        refine lv_aload_n hx hb dX8_within_23 rfl (lv_at hl 0 rfl) ?_
        refine lv_iload_n hx hb dX8_within_24 rfl (lv_at hl 1 rfl) ?_
        refine lv_aload_n hx hb dX8_within_25 rfl (lv_at hl 0 rfl) ?_
        refine goI hw (runVW (k := 36) (As := []) (rest := [.int 1, .ref (a 36)]) cx hw (k_X8_dryWeight l D a cI cZ f u   hi) lk_X8_153 rfl rfl ⟨Nat.le_of_ble_eq_true rfl, Nat.le_of_ble_eq_true rfl⟩ ⟨rfl, rfl⟩ ⟨Nat.zero_le _, Nat.zero_le _⟩ rfl rfl hl.1 (Nat.le_of_ble_eq_true rfl) dX8_within_26) (fun r_15 f_15 u_15 H locs hp_15 hw => ?_)
        obtain ⟨rfl, rfl⟩ := hp_15
        refine lv_iload_n hx hb dX8_within_29 rfl (lv_at hl 1 rfl) ?_
        refine lv_if_ne (tgt := 37) hx hb dX8_within_30 (by decide) (fun _ => ?_) (fun q => absurd q (by decide))
        refine lv_aload_n hx hb dX8_within_37 rfl (lv_at hl 0 rfl) ?_
        refine goI hw (runVW (k := 36) (As := []) (rest := [.int r_15, .int 1, .ref (a 36)]) cx hw (k_X8_allFuel l D a cI cZ f u   hi) lk_X8_157 rfl rfl ⟨Nat.le_of_ble_eq_true rfl, Nat.le_of_ble_eq_true rfl⟩ ⟨rfl, rfl⟩ ⟨Nat.zero_le _, Nat.zero_le _⟩ rfl rfl hl.1 (Nat.le_of_ble_eq_true rfl) dX8_within_38) (fun r_17 f_17 u_17 H locs hp_17 hw => ?_)
        obtain ⟨rfl, rfl, ha_17⟩ := hp_17
        obtain ⟨b0_17_j, q0_17_0, q0_17_1⟩ := ha_17
        · subst q0_17_1
          refine lv_iadd hx hb dX8_within_41 ?_
          refine lv_topi (fun x_18 _ => ?_)
          refine lv_i2l hx hb dX8_within_42 rfl ?_
          refine lv_topl (fun y_19 _ => ?_)
          refine lv_aload_n hx hb dX8_within_43 rfl (lv_at hl 0 rfl) ?_
          refine goL hw (runVW (k := 36) (As := []) (rest := [.long y_19, .int 1, .ref (a 36)]) cx hw (k_X8_dryMoment l D a cI cZ f u   hi) lk_X8_160 rfl rfl ⟨Nat.le_of_ble_eq_true rfl, Nat.le_of_ble_eq_true rfl⟩ ⟨rfl, rfl⟩ ⟨Nat.zero_le _, Nat.zero_le _⟩ rfl rfl hl.1 (Nat.le_of_ble_eq_true rfl) dX8_within_44) (fun r_20 f_20 u_20 H locs hp_20 hw => ?_)
          obtain ⟨rfl, rfl⟩ := hp_20
          refine lv_iload_n hx hb dX8_within_47 rfl (lv_at hl 1 rfl) ?_
          refine lv_if_ne (tgt := 55) hx hb dX8_within_48 (by decide) (fun _ => ?_) (fun q => absurd q (by decide))
          refine lv_aload_n hx hb dX8_within_55 rfl (lv_at hl 0 rfl) ?_
          refine lv_iconst (v := 0) hx hb dX8_within_56 (by decide) ?_
          refine goL hw (runVW (k := 36) (As := [.int 0]) (rest := [.long r_20, .long y_19, .int 1, .ref (a 36)]) cx hw (k_X8_fuelMoment l D a cI cZ f u 0  hi) lk_X8_164 rfl rfl ⟨Nat.le_of_ble_eq_true rfl, Nat.le_of_ble_eq_true rfl⟩ ⟨rfl, rfl⟩ ⟨Nat.zero_le _, Nat.zero_le _⟩ rfl rfl hl.1 (Nat.le_of_ble_eq_true rfl) dX8_within_57) (fun r_22 f_22 u_22 H locs hp_22 hw => ?_)
          obtain ⟨rfl, rfl⟩ := hp_22
          refine lv_ladd hx hb dX8_within_60 ?_
          refine lv_topl (fun y_23 _ => ?_)
          refine goI hw (runVW (k := 36) (As := [.int 1, .long y_19, .long y_23]) (rest := []) cx hw (k_X8_lies l D a cI cZ f u 1 y_19 y_23 n_13 hi (by omega) (by omega) (by omega) en_13) lk_X8_170 rfl rfl ⟨Nat.le_of_ble_eq_true rfl, Nat.le_of_ble_eq_true rfl⟩ ⟨rfl, rfl⟩ ⟨Nat.zero_le _, Nat.zero_le _⟩ rfl rfl hl.1 (Nat.le_of_ble_eq_true rfl) dX8_within_61) (fun r_24 f_24 u_24 H locs hp_24 hw => ?_)
          obtain ⟨rfl, rfl⟩ := hp_24
          exact retI cx hw hr hk dX8_within_64 ⟨rfl, rfl⟩
      · have c_14 : n_13 = 0 := (nI_eq (a := n_13) (b := 0) (by omega) (by omega)).mp c_14
        refine lv_bipush (v := (-3)) hx hb dX8_within_20 (by decide) ?_
        exact retI cx hw hr hk dX8_within_22 ⟨rfl, rfl⟩
  · refine lv_iconst (v := (-1)) hx hb dX8_within_9 (by decide) ?_
    exact retI cx hw hr hk dX8_within_10 ⟨rfl, rfl⟩

set_option maxHeartbeats 4000000 in
set_option maxRecDepth 100000 in
theorem k_X8_firstWrong (l : Launch) (D : va_G) (a : Nat → Nat) (cI cZ : ClassId) (f : FF) (u : UU) (bn : Nat) (np : Nat) (hi : IV f) (h_b : bn < 2 ^ 31) (h_np : np ≤ 10) (h_n1 : 1 ≤ np) (h_pt : f 54 1 = nI np) : KI l yX8_firstWrong cX8_firstWrong 8 (some .int) ({ frames := 4, cells := 0, slots := 0, locals := 78 } : Room) D a cI cZ [.ref (a 36), .int (nI bn)] f u (fun r f2 u2 => f = f2 ∧ u = u2) := by
  refine KX.of (by decide) (Nat.le_of_ble_eq_true rfl) ?_
  intro p e s m below meth c cx hw hr hk ls hl
  have cx : Cx p s m _ c cX8_firstWrong RX8 8 D cI cZ := cx
  have hl : lv_has ls 8 [(0, .ref (a 36)), (1, .int (nI bn))] := hl
  have hx := cx.1.1
  have hb := cx.1.2.1
  refine lv_aload_n hx hb dX8_firstWrong_0 rfl (lv_at hl 0 rfl) ?_
  refine goI hw (runVW (k := 36) (As := []) (rest := []) cx hw (k_X8_allFuel l D a cI cZ f u   hi) lk_X8_157 rfl rfl ⟨Nat.le_of_ble_eq_true rfl, Nat.le_of_ble_eq_true rfl⟩ ⟨rfl, rfl⟩ ⟨Nat.zero_le _, Nat.zero_le _⟩ rfl rfl hl.1 (Nat.le_of_ble_eq_true rfl) dX8_firstWrong_1) (fun r_1 f_1 u_1 H locs hp_1 hw => ?_)
  obtain ⟨rfl, rfl, ha_1⟩ := hp_1
  obtain ⟨b0_1_j, q0_1_0, q0_1_1⟩ := ha_1
  · subst q0_1_1
    refine lv_istore_n (lv' := [(2, .int (nI b0_1_j)), (0, .ref (a 36)), (1, .int (nI bn))]) hx hb dX8_firstWrong_4 rfl hl (by decide) rfl (fun ls hl => ?_)
    refine lv_iload_n hx hb dX8_firstWrong_5 rfl (lv_at hl 2 rfl) ?_
    refine lv_iload_n hx hb dX8_firstWrong_6 rfl (lv_at hl 0 rfl) ?_
    refine lv_icmp_ge (tgt := 14) hx hb dX8_firstWrong_7 (by decide) (fun c_2 => ?_) (fun c_2 => ?_)
    · have c_2 : b0_1_j ≤ bn := (nI_leI (a := b0_1_j) (b := bn) (by omega) (by omega)).mp c_2
      refine lv_iload_n hx hb dX8_firstWrong_14 rfl (lv_at hl 0 rfl) ?_
      refine lv_istore_n (lv' := [(3, .int (nI b0_1_j)), (2, .int (nI b0_1_j)), (0, .ref (a 36)), (1, .int (nI bn))]) hx hb dX8_firstWrong_15 rfl hl (by decide) rfl (fun ls hl => ?_)
      refine lv_aload_n hx hb dX8_firstWrong_16 rfl (lv_at hl 2 rfl) ?_
      refine goI hw (runVW (k := 36) (As := []) (rest := []) cx hw (k_X8_dryWeight l D a cI cZ f u   hi) lk_X8_153 rfl rfl ⟨Nat.le_of_ble_eq_true rfl, Nat.le_of_ble_eq_true rfl⟩ ⟨rfl, rfl⟩ ⟨Nat.zero_le _, Nat.zero_le _⟩ rfl rfl hl.1 (Nat.le_of_ble_eq_true rfl) dX8_firstWrong_17) (fun r_3 f_3 u_3 H locs hp_3 hw => ?_)
      obtain ⟨rfl, rfl⟩ := hp_3
      refine lv_istore (lv' := [(4, .int r_3), (3, .int (nI b0_1_j)), (2, .int (nI b0_1_j)), (0, .ref (a 36)), (1, .int (nI bn))]) hx hb dX8_firstWrong_20 hl (by decide) rfl (fun ls hl => ?_)
      refine lv_aload_n hx hb dX8_firstWrong_22 rfl (lv_at hl 3 rfl) ?_
      refine goL hw (runVW (k := 36) (As := []) (rest := []) cx hw (k_X8_dryMoment l D a cI cZ f u   hi) lk_X8_160 rfl rfl ⟨Nat.le_of_ble_eq_true rfl, Nat.le_of_ble_eq_true rfl⟩ ⟨rfl, rfl⟩ ⟨Nat.zero_le _, Nat.zero_le _⟩ rfl rfl hl.1 (Nat.le_of_ble_eq_true rfl) dX8_firstWrong_23) (fun r_4 f_4 u_4 H locs hp_4 hw => ?_)
      obtain ⟨rfl, rfl⟩ := hp_4
      refine lv_lstore (lv' := [(5, .long r_4), (4, .int r_3), (3, .int (nI b0_1_j)), (2, .int (nI b0_1_j)), (0, .ref (a 36)), (1, .int (nI bn))]) hx hb dX8_firstWrong_26 hl (by decide) rfl (fun ls hl => ?_)
      refine lv_iconst (v := 0) hx hb dX8_firstWrong_28 (by decide) ?_
      refine lv_istore (lv' := [(7, .int 0), (5, .long r_4), (4, .int r_3), (3, .int (nI b0_1_j)), (2, .int (nI b0_1_j)), (0, .ref (a 36)), (1, .int (nI bn))]) hx hb dX8_firstWrong_29 hl (by decide) rfl (fun ls hl => ?_)
      have loop_5 : ∀ (k_5 : Nat) (v7_5 : Nat), v7_5 ≤ (b0_1_j + 1) → (b0_1_j + 1) + 1 - v7_5 < k_5 → ∀ (H : Heap) (locs : List Loc) (ls : Array Slot), Wd D a cI cZ s f u H locs → lv_has ls 8 [(7, .int (nI v7_5)), (5, .long r_4), (4, .int r_3), (3, .int (nI b0_1_j)), (2, .int (nI b0_1_j)), (0, .ref (a 36)), (1, .int (nI bn))] → W p l e ({ frames := 4, cells := 0, slots := 0, locals := 78 } : Room) s m ([.ref (a 36), .int (nI bn)] : List Value).toArray below meth c H locs 0 0 (MQ below (QI D a cI cZ (fun r f2 u2 => f = f2 ∧ u = u2)) ([.ref (a 36), .int (nI bn)] : List Value).toArray s 0 0 (AA a)) (F0 m 31 ls []) := by
        intro k_5
        induction k_5 with
        | zero => intros; omega
        | succ k_5 ih_5 =>
          intro v7_5  hb0_5  hm_5  H locs ls hw hl
          refine lv_iload hx hb dX8_firstWrong_31 (lv_at hl 0 rfl) ?_
          refine lv_iload_n hx hb dX8_firstWrong_33 rfl (lv_at hl 3 rfl) ?_
          refine lv_icmp_gt (tgt := 71) hx hb dX8_firstWrong_34 (by decide) (fun c_6 => ?_) (fun c_6 => ?_)
          · have c_6 : b0_1_j < v7_5 := (nI_ltI (a := b0_1_j) (b := v7_5) (by omega) (by omega)).mp c_6
            refine lv_iconst (v := (-1)) hx hb dX8_firstWrong_71 (by decide) ?_
            exact retI cx hw hr hk dX8_firstWrong_72 ⟨rfl, rfl⟩
          · have c_6 : ¬ b0_1_j < v7_5 := fun z => c_6 ((nI_ltI (a := b0_1_j) (b := v7_5) (by omega) (by omega)).mpr z)
            refine lv_aload_n hx hb dX8_firstWrong_37 rfl (lv_at hl 5 rfl) ?_
            refine lv_iconst (v := 1) hx hb dX8_firstWrong_38 (by decide) ?_
            refine lv_iload hx hb dX8_firstWrong_39 (lv_at hl 2 rfl) ?_
            refine lv_iload_n hx hb dX8_firstWrong_41 rfl (lv_at hl 4 rfl) ?_
            refine lv_iadd hx hb dX8_firstWrong_42 ?_
            refine lv_topi (fun x_7 _ => ?_)
            refine lv_iload hx hb dX8_firstWrong_43 (lv_at hl 0 rfl) ?_
            refine lv_isub hx hb dX8_firstWrong_45 ?_
            refine lv_topi (fun x_8 _ => ?_)
            refine lv_i2l hx hb dX8_firstWrong_46 rfl ?_
            refine lv_topl (fun y_9 _ => ?_)
            refine lv_lload hx hb dX8_firstWrong_47 (lv_at hl 1 rfl) ?_
            refine lv_aload_n hx hb dX8_firstWrong_49 rfl (lv_at hl 5 rfl) ?_
            refine lv_iload hx hb dX8_firstWrong_50 (lv_at hl 0 rfl) ?_
            refine goL hw (runVW (k := 36) (As := [.int (nI v7_5)]) (rest := [.long r_4, .long y_9, .int 1, .ref (a 36)]) cx hw (k_X8_fuelMoment l D a cI cZ f u (nI v7_5)  hi) lk_X8_164 rfl rfl ⟨Nat.le_of_ble_eq_true rfl, Nat.le_of_ble_eq_true rfl⟩ ⟨rfl, rfl⟩ ⟨Nat.zero_le _, Nat.zero_le _⟩ rfl rfl hl.1 (Nat.le_of_ble_eq_true rfl) dX8_firstWrong_52) (fun r_10 f_10 u_10 H locs hp_10 hw => ?_)
            obtain ⟨rfl, rfl⟩ := hp_10
            refine lv_ladd hx hb dX8_firstWrong_55 ?_
            refine lv_topl (fun y_11 _ => ?_)
            refine goI hw (runVW (k := 36) (As := [.int 1, .long y_9, .long y_11]) (rest := []) cx hw (k_X8_lies l D a cI cZ f u 1 y_9 y_11 np hi (by omega) (by omega) (by omega) h_pt) lk_X8_170 rfl rfl ⟨Nat.le_of_ble_eq_true rfl, Nat.le_of_ble_eq_true rfl⟩ ⟨rfl, rfl⟩ ⟨Nat.zero_le _, Nat.zero_le _⟩ rfl rfl hl.1 (Nat.le_of_ble_eq_true rfl) dX8_firstWrong_56) (fun r_12 f_12 u_12 H locs hp_12 hw => ?_)
            obtain ⟨rfl, rfl⟩ := hp_12
            refine lv_if_eq (tgt := 65) hx hb dX8_firstWrong_59 (by decide) (fun _ => ?_) (fun _ => ?_)
            · refine lv_iinc (v := (nI (v7_5 + 1))) (lv' := [(7, .int (nI (v7_5 + 1))), (5, .long r_4), (4, .int r_3), (3, .int (nI b0_1_j)), (2, .int (nI b0_1_j)), (0, .ref (a 36)), (1, .int (nI bn))]) hx hb dX8_firstWrong_65 hl (k := 0) rfl (nI_add v7_5 1) (by decide) rfl (fun ls hl => ?_)
              refine lv_goto (tgt := 31) hx hb dX8_firstWrong_68 (by decide) ?_
              exact ih_5 (v7_5 + 1)  (by omega) (by omega) _ _ _ hw (lv_sub hl [0, 1, 2, 3, 4, 5, 6] rfl)
            · refine lv_iload hx hb dX8_firstWrong_62 (lv_at hl 0 rfl) ?_
              exact retI cx hw hr hk dX8_firstWrong_64 ⟨rfl, rfl⟩
      exact loop_5 _ 0  (by omega)  (Nat.lt_succ_self _) _ _ _ hw (lv_sub hl [0, 1, 2, 3, 4, 5, 6] rfl)
    · have c_2 : ¬ b0_1_j ≤ bn := fun z => c_2 ((nI_leI (a := b0_1_j) (b := bn) (by omega) (by omega)).mpr z)
      refine lv_iload_n hx hb dX8_firstWrong_10 rfl (lv_at hl 2 rfl) ?_
      refine lv_goto (tgt := 15) hx hb dX8_firstWrong_11 (by decide) ?_
      refine lv_istore_n (lv' := [(3, .int (nI bn)), (2, .int (nI b0_1_j)), (0, .ref (a 36)), (1, .int (nI bn))]) hx hb dX8_firstWrong_15 rfl hl (by decide) rfl (fun ls hl => ?_)
      refine lv_aload_n hx hb dX8_firstWrong_16 rfl (lv_at hl 2 rfl) ?_
      refine goI hw (runVW (k := 36) (As := []) (rest := []) cx hw (k_X8_dryWeight l D a cI cZ f u   hi) lk_X8_153 rfl rfl ⟨Nat.le_of_ble_eq_true rfl, Nat.le_of_ble_eq_true rfl⟩ ⟨rfl, rfl⟩ ⟨Nat.zero_le _, Nat.zero_le _⟩ rfl rfl hl.1 (Nat.le_of_ble_eq_true rfl) dX8_firstWrong_17) (fun r_14 f_14 u_14 H locs hp_14 hw => ?_)
      obtain ⟨rfl, rfl⟩ := hp_14
      refine lv_istore (lv' := [(4, .int r_14), (3, .int (nI bn)), (2, .int (nI b0_1_j)), (0, .ref (a 36)), (1, .int (nI bn))]) hx hb dX8_firstWrong_20 hl (by decide) rfl (fun ls hl => ?_)
      refine lv_aload_n hx hb dX8_firstWrong_22 rfl (lv_at hl 3 rfl) ?_
      refine goL hw (runVW (k := 36) (As := []) (rest := []) cx hw (k_X8_dryMoment l D a cI cZ f u   hi) lk_X8_160 rfl rfl ⟨Nat.le_of_ble_eq_true rfl, Nat.le_of_ble_eq_true rfl⟩ ⟨rfl, rfl⟩ ⟨Nat.zero_le _, Nat.zero_le _⟩ rfl rfl hl.1 (Nat.le_of_ble_eq_true rfl) dX8_firstWrong_23) (fun r_15 f_15 u_15 H locs hp_15 hw => ?_)
      obtain ⟨rfl, rfl⟩ := hp_15
      refine lv_lstore (lv' := [(5, .long r_15), (4, .int r_14), (3, .int (nI bn)), (2, .int (nI b0_1_j)), (0, .ref (a 36)), (1, .int (nI bn))]) hx hb dX8_firstWrong_26 hl (by decide) rfl (fun ls hl => ?_)
      refine lv_iconst (v := 0) hx hb dX8_firstWrong_28 (by decide) ?_
      refine lv_istore (lv' := [(7, .int 0), (5, .long r_15), (4, .int r_14), (3, .int (nI bn)), (2, .int (nI b0_1_j)), (0, .ref (a 36)), (1, .int (nI bn))]) hx hb dX8_firstWrong_29 hl (by decide) rfl (fun ls hl => ?_)
      have loop_16 : ∀ (k_16 : Nat) (v7_16 : Nat), v7_16 ≤ (bn + 1) → (bn + 1) + 1 - v7_16 < k_16 → ∀ (H : Heap) (locs : List Loc) (ls : Array Slot), Wd D a cI cZ s f u H locs → lv_has ls 8 [(7, .int (nI v7_16)), (5, .long r_15), (4, .int r_14), (3, .int (nI bn)), (2, .int (nI b0_1_j)), (0, .ref (a 36)), (1, .int (nI bn))] → W p l e ({ frames := 4, cells := 0, slots := 0, locals := 78 } : Room) s m ([.ref (a 36), .int (nI bn)] : List Value).toArray below meth c H locs 0 0 (MQ below (QI D a cI cZ (fun r f2 u2 => f = f2 ∧ u = u2)) ([.ref (a 36), .int (nI bn)] : List Value).toArray s 0 0 (AA a)) (F0 m 31 ls []) := by
        intro k_16
        induction k_16 with
        | zero => intros; omega
        | succ k_16 ih_16 =>
          intro v7_16  hb0_16  hm_16  H locs ls hw hl
          refine lv_iload hx hb dX8_firstWrong_31 (lv_at hl 0 rfl) ?_
          refine lv_iload_n hx hb dX8_firstWrong_33 rfl (lv_at hl 3 rfl) ?_
          refine lv_icmp_gt (tgt := 71) hx hb dX8_firstWrong_34 (by decide) (fun c_17 => ?_) (fun c_17 => ?_)
          · have c_17 : bn < v7_16 := (nI_ltI (a := bn) (b := v7_16) (by omega) (by omega)).mp c_17
            refine lv_iconst (v := (-1)) hx hb dX8_firstWrong_71 (by decide) ?_
            exact retI cx hw hr hk dX8_firstWrong_72 ⟨rfl, rfl⟩
          · have c_17 : ¬ bn < v7_16 := fun z => c_17 ((nI_ltI (a := bn) (b := v7_16) (by omega) (by omega)).mpr z)
            refine lv_aload_n hx hb dX8_firstWrong_37 rfl (lv_at hl 5 rfl) ?_
            refine lv_iconst (v := 1) hx hb dX8_firstWrong_38 (by decide) ?_
            refine lv_iload hx hb dX8_firstWrong_39 (lv_at hl 2 rfl) ?_
            refine lv_iload_n hx hb dX8_firstWrong_41 rfl (lv_at hl 4 rfl) ?_
            refine lv_iadd hx hb dX8_firstWrong_42 ?_
            refine lv_topi (fun x_18 _ => ?_)
            refine lv_iload hx hb dX8_firstWrong_43 (lv_at hl 0 rfl) ?_
            refine lv_isub hx hb dX8_firstWrong_45 ?_
            refine lv_topi (fun x_19 _ => ?_)
            refine lv_i2l hx hb dX8_firstWrong_46 rfl ?_
            refine lv_topl (fun y_20 _ => ?_)
            refine lv_lload hx hb dX8_firstWrong_47 (lv_at hl 1 rfl) ?_
            refine lv_aload_n hx hb dX8_firstWrong_49 rfl (lv_at hl 5 rfl) ?_
            refine lv_iload hx hb dX8_firstWrong_50 (lv_at hl 0 rfl) ?_
            refine goL hw (runVW (k := 36) (As := [.int (nI v7_16)]) (rest := [.long r_15, .long y_20, .int 1, .ref (a 36)]) cx hw (k_X8_fuelMoment l D a cI cZ f u (nI v7_16)  hi) lk_X8_164 rfl rfl ⟨Nat.le_of_ble_eq_true rfl, Nat.le_of_ble_eq_true rfl⟩ ⟨rfl, rfl⟩ ⟨Nat.zero_le _, Nat.zero_le _⟩ rfl rfl hl.1 (Nat.le_of_ble_eq_true rfl) dX8_firstWrong_52) (fun r_21 f_21 u_21 H locs hp_21 hw => ?_)
            obtain ⟨rfl, rfl⟩ := hp_21
            refine lv_ladd hx hb dX8_firstWrong_55 ?_
            refine lv_topl (fun y_22 _ => ?_)
            refine goI hw (runVW (k := 36) (As := [.int 1, .long y_20, .long y_22]) (rest := []) cx hw (k_X8_lies l D a cI cZ f u 1 y_20 y_22 np hi (by omega) (by omega) (by omega) h_pt) lk_X8_170 rfl rfl ⟨Nat.le_of_ble_eq_true rfl, Nat.le_of_ble_eq_true rfl⟩ ⟨rfl, rfl⟩ ⟨Nat.zero_le _, Nat.zero_le _⟩ rfl rfl hl.1 (Nat.le_of_ble_eq_true rfl) dX8_firstWrong_56) (fun r_23 f_23 u_23 H locs hp_23 hw => ?_)
            obtain ⟨rfl, rfl⟩ := hp_23
            refine lv_if_eq (tgt := 65) hx hb dX8_firstWrong_59 (by decide) (fun _ => ?_) (fun _ => ?_)
            · refine lv_iinc (v := (nI (v7_16 + 1))) (lv' := [(7, .int (nI (v7_16 + 1))), (5, .long r_15), (4, .int r_14), (3, .int (nI bn)), (2, .int (nI b0_1_j)), (0, .ref (a 36)), (1, .int (nI bn))]) hx hb dX8_firstWrong_65 hl (k := 0) rfl (nI_add v7_16 1) (by decide) rfl (fun ls hl => ?_)
              refine lv_goto (tgt := 31) hx hb dX8_firstWrong_68 (by decide) ?_
              exact ih_16 (v7_16 + 1)  (by omega) (by omega) _ _ _ hw (lv_sub hl [0, 1, 2, 3, 4, 5, 6] rfl)
            · refine lv_iload hx hb dX8_firstWrong_62 (lv_at hl 0 rfl) ?_
              exact retI cx hw hr hk dX8_firstWrong_64 ⟨rfl, rfl⟩
      exact loop_16 _ 0  (by omega)  (Nat.lt_succ_self _) _ _ _ hw (lv_sub hl [0, 1, 2, 3, 4, 5, 6] rfl)

set_option maxHeartbeats 4000000 in
set_option maxRecDepth 100000 in
theorem k_X8_safe (l : Launch) (D : va_G) (a : Nat → Nat) (cI cZ : ClassId) (f : FF) (u : UU) (bn : Int32) (hi : IV f)  : KI l yX8_safe cX8_safe 2 (some .int) ({ frames := 5, cells := 0, slots := 0, locals := 105 } : Room) D a cI cZ [.ref (a 36), .int bn] f u (fun r f2 u2 => f = f2 ∧ u = u2) := by
  refine KX.of (by decide) (Nat.le_of_ble_eq_true rfl) ?_
  intro p e s m below meth c cx hw hr hk ls hl
  have cx : Cx p s m _ c cX8_safe RX8 2 D cI cZ := cx
  have hl : lv_has ls 2 [(0, .ref (a 36)), (1, .int bn)] := hl
  have hx := cx.1.1
  have hb := cx.1.2.1
  refine lv_iload_n hx hb dX8_safe_0 rfl (lv_at hl 1 rfl) ?_
  refine lv_if_ge (tgt := 7) hx hb dX8_safe_1 (by decide) (fun c_1 => ?_) (fun c_1 => ?_)
  · obtain ⟨t_1, ht_1, et_1⟩ := nI_of (Int32.not_lt.mpr c_1)
    subst et_1
    refine lv_aload_n hx hb dX8_safe_7 rfl (lv_at hl 0 rfl) ?_
    refine gf_X8_73 cx hw dX8_safe_8 ?_
    refine lv_iconst (v := 0) hx hb dX8_safe_11 (by decide) ?_
    refine aldN 54 0 cx hw rfl (by omega) (by decide) dX8_safe_12 ?_
    obtain ⟨n_2, hn_2, en_2⟩ := IV.a_54 hi (i := 0) (by omega)
    refine topc (y := (nI n_2)) en_2 ?_
    refine lv_if_eq (tgt := 25) hx hb dX8_safe_13 (by decide) (fun c_3 => ?_) (fun c_3 => ?_)
    · have c_3 : n_2 = 0 := (nI_eq (a := n_2) (b := 0) (by omega) (by omega)).mp c_3
      refine lv_bipush (v := (-3)) hx hb dX8_safe_25 (by decide) ?_
      exact retI cx hw hr hk dX8_safe_27 ⟨rfl, rfl⟩
    · have c_3 : ¬ n_2 = 0 := fun z => c_3 ((nI_eq (a := n_2) (b := 0) (by omega) (by omega)).mpr z)
      refine lv_aload_n hx hb dX8_safe_16 rfl (lv_at hl 0 rfl) ?_
      refine gf_X8_73 cx hw dX8_safe_17 ?_
      refine lv_iconst (v := 1) hx hb dX8_safe_20 (by decide) ?_
      refine aldN 54 1 cx hw rfl (by omega) (by decide) dX8_safe_21 ?_
      obtain ⟨n_4, hn_4, en_4⟩ := IV.a_54 hi (i := 1) (by omega)
      refine topc (y := (nI n_4)) en_4 ?_
      refine lv_if_ne (tgt := 28) hx hb dX8_safe_22 (by decide) (fun c_5 => ?_) (fun c_5 => ?_)
      · have c_5 : ¬ n_4 = 0 := fun z => c_5 ((nI_eq (a := n_4) (b := 0) (by omega) (by omega)).mpr z)
        refine lv_aload_n hx hb dX8_safe_28 rfl (lv_at hl 0 rfl) ?_
        refine lv_iconst (v := 0) hx hb dX8_safe_29 (by decide) ?_
        refine goI hw (runVW (k := 36) (As := [.int 0]) (rest := []) cx hw (k_X8_within l D a cI cZ f u 0  hi) lk_X8_173 rfl rfl ⟨Nat.le_of_ble_eq_true rfl, Nat.le_of_ble_eq_true rfl⟩ ⟨rfl, rfl⟩ ⟨Nat.zero_le _, Nat.zero_le _⟩ rfl rfl hl.1 (Nat.le_of_ble_eq_true rfl) dX8_safe_30) (fun r_6 f_6 u_6 H locs hp_6 hw => ?_)
        obtain ⟨rfl, rfl⟩ := hp_6
        refine lv_if_ne (tgt := 49) hx hb dX8_safe_33 (by decide) (fun _ => ?_) (fun _ => ?_)
        · refine lv_iconst (v := 0) hx hb dX8_safe_49 (by decide) ?_
          exact retI cx hw hr hk dX8_safe_50 ⟨rfl, rfl⟩
        · refine lv_aload_n hx hb dX8_safe_36 rfl (lv_at hl 0 rfl) ?_
          refine lv_iload_n hx hb dX8_safe_37 rfl (lv_at hl 1 rfl) ?_
          refine goI hw (runVW (k := 36) (As := [.int (nI t_1)]) (rest := []) cx hw (k_X8_firstWrong l D a cI cZ f u t_1 n_4 hi (by omega) (by omega) (by omega) en_4) lk_X8_176 rfl rfl ⟨Nat.le_of_ble_eq_true rfl, Nat.le_of_ble_eq_true rfl⟩ ⟨rfl, rfl⟩ ⟨Nat.zero_le _, Nat.zero_le _⟩ rfl rfl hl.1 (Nat.le_of_ble_eq_true rfl) dX8_safe_38) (fun r_8 f_8 u_8 H locs hp_8 hw => ?_)
          obtain ⟨rfl, rfl⟩ := hp_8
          refine lv_iconst (v := (-1)) hx hb dX8_safe_41 (by decide) ?_
          refine lv_icmp_ne (tgt := 49) hx hb dX8_safe_42 (by decide) (fun _ => ?_) (fun _ => ?_)
          · refine lv_iconst (v := 0) hx hb dX8_safe_49 (by decide) ?_
            exact retI cx hw hr hk dX8_safe_50 ⟨rfl, rfl⟩
          · refine lv_iconst (v := 1) hx hb dX8_safe_45 (by decide) ?_
            refine lv_goto (tgt := 50) hx hb dX8_safe_46 (by decide) ?_
            exact retI cx hw hr hk dX8_safe_50 ⟨rfl, rfl⟩
      · have c_5 : n_4 = 0 := (nI_eq (a := n_4) (b := 0) (by omega) (by omega)).mp c_5
        refine lv_bipush (v := (-3)) hx hb dX8_safe_25 (by decide) ?_
        exact retI cx hw hr hk dX8_safe_27 ⟨rfl, rfl⟩
  · refine lv_bipush (v := (-2)) hx hb dX8_safe_4 (by decide) ?_
    exact retI cx hw hr hk dX8_safe_6 ⟨rfl, rfl⟩

set_option maxHeartbeats 4000000 in
set_option maxRecDepth 100000 in
theorem k_X8_wrong (l : Launch) (D : va_G) (a : Nat → Nat) (cI cZ : ClassId) (f : FF) (u : UU) (bn : Int32) (hi : IV f)  : KI l yX8_wrong cX8_wrong 2 (some .int) ({ frames := 5, cells := 0, slots := 0, locals := 105 } : Room) D a cI cZ [.ref (a 36), .int bn] f u (fun r f2 u2 => f = f2 ∧ u = u2) := by
  refine KX.of (by decide) (Nat.le_of_ble_eq_true rfl) ?_
  intro p e s m below meth c cx hw hr hk ls hl
  have cx : Cx p s m _ c cX8_wrong RX8 2 D cI cZ := cx
  have hl : lv_has ls 2 [(0, .ref (a 36)), (1, .int bn)] := hl
  have hx := cx.1.1
  have hb := cx.1.2.1
  refine lv_iload_n hx hb dX8_wrong_0 rfl (lv_at hl 1 rfl) ?_
  refine lv_if_ge (tgt := 7) hx hb dX8_wrong_1 (by decide) (fun c_1 => ?_) (fun c_1 => ?_)
  · obtain ⟨t_1, ht_1, et_1⟩ := nI_of (Int32.not_lt.mpr c_1)
    subst et_1
    refine lv_aload_n hx hb dX8_wrong_7 rfl (lv_at hl 0 rfl) ?_
    refine gf_X8_73 cx hw dX8_wrong_8 ?_
    refine lv_iconst (v := 1) hx hb dX8_wrong_11 (by decide) ?_
    refine aldN 54 1 cx hw rfl (by omega) (by decide) dX8_wrong_12 ?_
    obtain ⟨n_2, hn_2, en_2⟩ := IV.a_54 hi (i := 1) (by omega)
    refine topc (y := (nI n_2)) en_2 ?_
    refine lv_if_ne (tgt := 21) hx hb dX8_wrong_13 (by decide) (fun c_3 => ?_) (fun c_3 => ?_)
    · have c_3 : ¬ n_2 = 0 := fun z => c_3 ((nI_eq (a := n_2) (b := 0) (by omega) (by omega)).mpr z)
      refine lv_aload_n hx hb dX8_wrong_21 rfl (lv_at hl 0 rfl) ?_
      refine lv_iload_n hx hb dX8_wrong_22 rfl (lv_at hl 1 rfl) ?_
      refine goI hw (runVW (k := 36) (As := [.int (nI t_1)]) (rest := []) cx hw (k_X8_firstWrong l D a cI cZ f u t_1 n_2 hi (by omega) (by omega) (by omega) en_2) lk_X8_176 rfl rfl ⟨Nat.le_of_ble_eq_true rfl, Nat.le_of_ble_eq_true rfl⟩ ⟨rfl, rfl⟩ ⟨Nat.zero_le _, Nat.zero_le _⟩ rfl rfl hl.1 (Nat.le_of_ble_eq_true rfl) dX8_wrong_23) (fun r_4 f_4 u_4 H locs hp_4 hw => ?_)
      obtain ⟨rfl, rfl⟩ := hp_4
      exact retI cx hw hr hk dX8_wrong_26 ⟨rfl, rfl⟩
    · have c_3 : n_2 = 0 := (nI_eq (a := n_2) (b := 0) (by omega) (by omega)).mp c_3
      refine lv_bipush (v := (-3)) hx hb dX8_wrong_16 (by decide) ?_
      refine lv_goto (tgt := 26) hx hb dX8_wrong_18 (by decide) ?_
      exact retI cx hw hr hk dX8_wrong_26 ⟨rfl, rfl⟩
  · refine lv_bipush (v := (-2)) hx hb dX8_wrong_4 (by decide) ?_
    exact retI cx hw hr hk dX8_wrong_6 ⟨rfl, rfl⟩

set_option maxHeartbeats 4000000 in
set_option maxRecDepth 100000 in
theorem k_X8_pushedAt (l : Launch) (D : va_G) (a : Nat → Nat) (cI cZ : ClassId) (f : FF) (u : UU) (s0 : Int32) (hi : IV f)  : KI l yX8_pushedAt cX8_pushedAt 7 (some .int) ({ frames := 1, cells := 0, slots := 0, locals := 12 } : Room) D a cI cZ [.ref (a 36), .int s0] f u (fun r f2 u2 => f = f2 ∧ u = u2) := by
  refine KX.of (by decide) (Nat.le_of_ble_eq_true rfl) ?_
  intro p e s m below meth c cx hw hr hk ls hl
  have cx : Cx p s m _ c cX8_pushedAt RX8 7 D cI cZ := cx
  have hl : lv_has ls 7 [(0, .ref (a 36)), (1, .int s0)] := hl
  have hx := cx.1.1
  have hb := cx.1.2.1
  refine lv_iconst (v := 0) hx hb dX8_pushedAt_0 (by decide) ?_
  refine lv_istore_n (lv' := [(2, .int 0), (0, .ref (a 36)), (1, .int s0)]) hx hb dX8_pushedAt_1 rfl hl (by decide) rfl (fun ls hl => ?_)
  refine lv_iconst (v := 0) hx hb dX8_pushedAt_2 (by decide) ?_
  refine lv_istore_n (lv' := [(3, .int 0), (2, .int 0), (0, .ref (a 36)), (1, .int s0)]) hx hb dX8_pushedAt_3 rfl hl (by decide) rfl (fun ls hl => ?_)
  have loop_1 : ∀ (k_1 : Nat) (v3_1 : Nat) (v2_1 : Int32), v3_1 ≤ 4 → 4 + 1 - v3_1 < k_1 → ∀ (H : Heap) (locs : List Loc) (ls : Array Slot), Wd D a cI cZ s f u H locs → lv_has ls 7 [(3, .int (nI v3_1)), (2, .int v2_1), (0, .ref (a 36)), (1, .int s0)] → W p l e ({ frames := 1, cells := 0, slots := 0, locals := 12 } : Room) s m ([.ref (a 36), .int s0] : List Value).toArray below meth c H locs 0 0 (MQ below (QI D a cI cZ (fun r f2 u2 => f = f2 ∧ u = u2)) ([.ref (a 36), .int s0] : List Value).toArray s 0 0 (AA a)) (F0 m 4 ls []) := by
    intro k_1
    induction k_1 with
    | zero => intros; omega
    | succ k_1 ih_1 =>
      intro v3_1 v2_1  hb0_1  hm_1  H locs ls hw hl
      refine lv_iload_n hx hb dX8_pushedAt_4 rfl (lv_at hl 0 rfl) ?_
      refine lv_aload_n hx hb dX8_pushedAt_5 rfl (lv_at hl 2 rfl) ?_
      refine gf_X8_99 cx hw dX8_pushedAt_6 ?_
      obtain ⟨n_2, hn_2, en_2⟩ := IV.s_36_3 hi
      refine topc (y := (nI n_2)) en_2 ?_
      refine lv_icmp_ge (tgt := 106) hx hb dX8_pushedAt_9 (by decide) (fun c_3 => ?_) (fun c_3 => ?_)
      · have c_3 : n_2 ≤ v3_1 := (nI_leI (a := n_2) (b := v3_1) (by omega) (by omega)).mp c_3
        refine lv_iload_n hx hb dX8_pushedAt_106 rfl (lv_at hl 1 rfl) ?_
        exact retI cx hw hr hk dX8_pushedAt_107 ⟨rfl, rfl⟩
      · have c_3 : ¬ n_2 ≤ v3_1 := fun z => c_3 ((nI_leI (a := n_2) (b := v3_1) (by omega) (by omega)).mpr z)
        refine lv_iconst (v := 0) hx hb dX8_pushedAt_12 (by decide) ?_
        refine lv_istore (lv' := [(4, .int 0), (3, .int (nI v3_1)), (2, .int v2_1), (0, .ref (a 36)), (1, .int s0)]) hx hb dX8_pushedAt_13 hl (by decide) rfl (fun ls hl => ?_)
        refine lv_aload_n hx hb dX8_pushedAt_15 rfl (lv_at hl 3 rfl) ?_
        refine gf_X8_25 cx hw dX8_pushedAt_16 ?_
        refine lv_iload_n hx hb dX8_pushedAt_19 rfl (lv_at hl 1 rfl) ?_
        refine aldN 39 v3_1 cx hw rfl (by omega) (by decide) dX8_pushedAt_20 ?_
        obtain ⟨n_4, hn_4, en_4⟩ := IV.a_39 hi (i := v3_1) (by omega)
        refine topc (y := (nI n_4)) en_4 ?_
        refine lv_iconst (v := 1) hx hb dX8_pushedAt_21 (by decide) ?_
        refine lv_isub hx hb dX8_pushedAt_22 ?_
        refine lv_istore (lv' := [(5, .int (nI n_4 - 1)), (4, .int 0), (3, .int (nI v3_1)), (2, .int v2_1), (0, .ref (a 36)), (1, .int s0)]) hx hb dX8_pushedAt_23 hl (by decide) rfl (fun ls hl => ?_)
        have loop_5 : ∀ (k_5 : Nat) (v5_5 : Nat) (v4_5 : Int32) (v2_5 : Int32), v5_5 ≤ 8 → v5_5 < k_5 → ∀ (H : Heap) (locs : List Loc) (ls : Array Slot), Wd D a cI cZ s f u H locs → lv_has ls 7 [(5, .int (nI v5_5 - 1)), (4, .int v4_5), (3, .int (nI v3_1)), (2, .int v2_5), (0, .ref (a 36)), (1, .int s0)] → W p l e ({ frames := 1, cells := 0, slots := 0, locals := 12 } : Room) s m ([.ref (a 36), .int s0] : List Value).toArray below meth c H locs 0 0 (MQ below (QI D a cI cZ (fun r f2 u2 => f = f2 ∧ u = u2)) ([.ref (a 36), .int s0] : List Value).toArray s 0 0 (AA a)) (F0 m 25 ls []) := by
          intro k_5
          induction k_5 with
          | zero => intros; omega
          | succ k_5 ih_5 =>
            intro v5_5 v4_5 v2_5  hb0_5  hm_5  H locs ls hw hl
            refine lv_iload hx hb dX8_pushedAt_25 (lv_at hl 0 rfl) ?_
            rcases nat_01 v5_5 with z_6 | ⟨t_6, z_6⟩
            · subst z_6
              have hl := hl
              refine topc (y := (-1)) nI_0m1 ?_
              rw [nI_0m1] at hl
              refine lv_if_lt (tgt := 100) hx hb dX8_pushedAt_27 (by decide) (fun _ => ?_) (fun q => absurd (by decide) q)
              refine lv_iinc (v := (nI (v3_1 + 1))) (lv' := [(3, .int (nI (v3_1 + 1))), (5, .int (-1)), (4, .int v4_5), (2, .int v2_5), (0, .ref (a 36)), (1, .int s0)]) hx hb dX8_pushedAt_100 hl (k := 2) rfl (nI_add v3_1 1) (by decide) rfl (fun ls hl => ?_)
              refine lv_goto (tgt := 4) hx hb dX8_pushedAt_103 (by decide) ?_
              exact ih_1 (v3_1 + 1) v2_5  (by omega) (by omega) _ _ _ hw (lv_sub hl [0, 3, 4, 5] rfl)
            · subst z_6
              have hl := hl
              refine topc (y := (nI t_6)) (nI_pred t_6) ?_
              rw [nI_pred t_6] at hl
              refine lv_if_lt (tgt := 100) hx hb dX8_pushedAt_27 (by decide) (fun q => absurd q (nI_pos (by omega))) (fun _ => ?_)
              refine lv_aload_n hx hb dX8_pushedAt_30 rfl (lv_at hl 4 rfl) ?_
              refine gf_X8_34 cx hw dX8_pushedAt_31 ?_
              refine lv_bipush (v := 8) hx hb dX8_pushedAt_34 (by decide) ?_
              refine lv_iload_n hx hb dX8_pushedAt_36 rfl (lv_at hl 2 rfl) ?_
              refine lv_imul hx hb dX8_pushedAt_37 ?_
              refine topc (y := (nI (8 * v3_1))) (pk_mul 8 v3_1) ?_
              refine lv_iload hx hb dX8_pushedAt_38 (lv_at hl 0 rfl) ?_
              refine lv_iadd hx hb dX8_pushedAt_40 ?_
              refine topc (y := (nI ((8 * v3_1) + t_6))) (nI_add (8 * v3_1) t_6) ?_
              refine aldN 42 ((8 * v3_1) + t_6) cx hw rfl (by omega) (by decide) dX8_pushedAt_41 ?_
              rcases IV.a_42 hi (i := ((8 * v3_1) + t_6)) (by omega) with en_7 | ⟨n_7, hn_7, en_7⟩
              · refine topc (y := (-1)) en_7 ?_
                refine lv_istore (lv' := [(6, .int (-1)), (5, .int (nI t_6)), (4, .int v4_5), (3, .int (nI v3_1)), (2, .int v2_5), (0, .ref (a 36)), (1, .int s0)]) hx hb dX8_pushedAt_42 hl (by decide) rfl (fun ls hl => ?_)
                refine lv_iload hx hb dX8_pushedAt_44 (lv_at hl 0 rfl) ?_
                refine lv_iconst (v := (-1)) hx hb dX8_pushedAt_46 (by decide) ?_
                refine lv_icmp_eq (tgt := 94) hx hb dX8_pushedAt_47 (by decide) (fun _ => ?_) (fun q => absurd (by decide) q)
                refine lv_iinc (v := (nI t_6 - 1)) (lv' := [(5, .int (nI t_6 - 1)), (6, .int (-1)), (4, .int v4_5), (3, .int (nI v3_1)), (2, .int v2_5), (0, .ref (a 36)), (1, .int s0)]) hx hb dX8_pushedAt_94 hl (k := 1) rfl (nI_dec t_6) (by decide) rfl (fun ls hl => ?_)
                refine lv_goto (tgt := 25) hx hb dX8_pushedAt_97 (by decide) ?_
                exact ih_5 t_6 v4_5 v2_5  (by omega) (by omega) _ _ _ hw (lv_sub hl [0, 2, 3, 4, 5, 6] rfl)
              · refine topc (y := (nI n_7)) en_7 ?_
                refine lv_istore (lv' := [(6, .int (nI n_7)), (5, .int (nI t_6)), (4, .int v4_5), (3, .int (nI v3_1)), (2, .int v2_5), (0, .ref (a 36)), (1, .int s0)]) hx hb dX8_pushedAt_42 hl (by decide) rfl (fun ls hl => ?_)
                refine lv_iload hx hb dX8_pushedAt_44 (lv_at hl 0 rfl) ?_
                refine lv_iconst (v := (-1)) hx hb dX8_pushedAt_46 (by decide) ?_
                refine lv_icmp_eq (tgt := 94) hx hb dX8_pushedAt_47 (by decide) (fun q => absurd q (nI_m1 (by omega))) (fun _ => ?_)
                refine lv_aload_n hx hb dX8_pushedAt_50 rfl (lv_at hl 5 rfl) ?_
                refine gf_X8_46 cx hw dX8_pushedAt_51 ?_
                refine lv_iload hx hb dX8_pushedAt_54 (lv_at hl 0 rfl) ?_
                refine aldN 46 n_7 cx hw rfl (by omega) (by decide) dX8_pushedAt_56 ?_
                refine lv_topi (fun x_10 _ => ?_)
                refine lv_iload_n hx hb dX8_pushedAt_57 rfl (lv_at hl 6 rfl) ?_
                refine lv_icmp_ge (tgt := 64) hx hb dX8_pushedAt_58 (by decide) (fun _ => ?_) (fun _ => ?_)
                · refine lv_aload_n hx hb dX8_pushedAt_64 rfl (lv_at hl 5 rfl) ?_
                  refine gf_X8_46 cx hw dX8_pushedAt_65 ?_
                  refine lv_iload hx hb dX8_pushedAt_68 (lv_at hl 0 rfl) ?_
                  refine aldN 46 n_7 cx hw rfl (by omega) (by decide) dX8_pushedAt_70 ?_
                  refine lv_topi (fun x_12 _ => ?_)
                  refine lv_iload_n hx hb dX8_pushedAt_71 rfl (lv_at hl 6 rfl) ?_
                  refine lv_icmp_ne (tgt := 81) hx hb dX8_pushedAt_72 (by decide) (fun _ => ?_) (fun _ => ?_)
                  · refine lv_iload_n hx hb dX8_pushedAt_81 rfl (lv_at hl 4 rfl) ?_
                    refine lv_iload hx hb dX8_pushedAt_82 (lv_at hl 2 rfl) ?_
                    refine lv_if_eq (tgt := 91) hx hb dX8_pushedAt_84 (by decide) (fun _ => ?_) (fun _ => ?_)
                    · refine lv_iconst (v := 0) hx hb dX8_pushedAt_91 (by decide) ?_
                      refine lv_iadd hx hb dX8_pushedAt_92 ?_
                      refine lv_topi (fun x_15 _ => ?_)
                      refine lv_istore_n (lv' := [(2, .int x_15), (6, .int (nI n_7)), (5, .int (nI t_6)), (4, .int v4_5), (3, .int (nI v3_1)), (0, .ref (a 36)), (1, .int s0)]) hx hb dX8_pushedAt_93 rfl hl (by decide) rfl (fun ls hl => ?_)
                      refine lv_iinc (v := (nI t_6 - 1)) (lv' := [(5, .int (nI t_6 - 1)), (2, .int x_15), (6, .int (nI n_7)), (4, .int v4_5), (3, .int (nI v3_1)), (0, .ref (a 36)), (1, .int s0)]) hx hb dX8_pushedAt_94 hl (k := 2) rfl (nI_dec t_6) (by decide) rfl (fun ls hl => ?_)
                      refine lv_goto (tgt := 25) hx hb dX8_pushedAt_97 (by decide) ?_
                      exact ih_5 t_6 v4_5 x_15  (by omega) (by omega) _ _ _ hw (lv_sub hl [0, 3, 4, 1, 5, 6] rfl)
                    · refine lv_iconst (v := 1) hx hb dX8_pushedAt_87 (by decide) ?_
                      refine lv_goto (tgt := 92) hx hb dX8_pushedAt_88 (by decide) ?_
                      refine lv_iadd hx hb dX8_pushedAt_92 ?_
                      refine lv_topi (fun x_16 _ => ?_)
                      refine lv_istore_n (lv' := [(2, .int x_16), (6, .int (nI n_7)), (5, .int (nI t_6)), (4, .int v4_5), (3, .int (nI v3_1)), (0, .ref (a 36)), (1, .int s0)]) hx hb dX8_pushedAt_93 rfl hl (by decide) rfl (fun ls hl => ?_)
                      refine lv_iinc (v := (nI t_6 - 1)) (lv' := [(5, .int (nI t_6 - 1)), (2, .int x_16), (6, .int (nI n_7)), (4, .int v4_5), (3, .int (nI v3_1)), (0, .ref (a 36)), (1, .int s0)]) hx hb dX8_pushedAt_94 hl (k := 2) rfl (nI_dec t_6) (by decide) rfl (fun ls hl => ?_)
                      refine lv_goto (tgt := 25) hx hb dX8_pushedAt_97 (by decide) ?_
                      exact ih_5 t_6 v4_5 x_16  (by omega) (by omega) _ _ _ hw (lv_sub hl [0, 3, 4, 1, 5, 6] rfl)
                  · refine lv_iconst (v := 1) hx hb dX8_pushedAt_75 (by decide) ?_
                    refine lv_istore (lv' := [(4, .int 1), (6, .int (nI n_7)), (5, .int (nI t_6)), (3, .int (nI v3_1)), (2, .int v2_5), (0, .ref (a 36)), (1, .int s0)]) hx hb dX8_pushedAt_76 hl (by decide) rfl (fun ls hl => ?_)
                    refine lv_goto (tgt := 94) hx hb dX8_pushedAt_78 (by decide) ?_
                    refine lv_iinc (v := (nI t_6 - 1)) (lv' := [(5, .int (nI t_6 - 1)), (4, .int 1), (6, .int (nI n_7)), (3, .int (nI v3_1)), (2, .int v2_5), (0, .ref (a 36)), (1, .int s0)]) hx hb dX8_pushedAt_94 hl (k := 2) rfl (nI_dec t_6) (by decide) rfl (fun ls hl => ?_)
                    refine lv_goto (tgt := 25) hx hb dX8_pushedAt_97 (by decide) ?_
                    exact ih_5 t_6 1 v2_5  (by omega) (by omega) _ _ _ hw (lv_sub hl [0, 1, 3, 4, 5, 6] rfl)
                · refine lv_goto (tgt := 94) hx hb dX8_pushedAt_61 (by decide) ?_
                  refine lv_iinc (v := (nI t_6 - 1)) (lv' := [(5, .int (nI t_6 - 1)), (6, .int (nI n_7)), (4, .int v4_5), (3, .int (nI v3_1)), (2, .int v2_5), (0, .ref (a 36)), (1, .int s0)]) hx hb dX8_pushedAt_94 hl (k := 1) rfl (nI_dec t_6) (by decide) rfl (fun ls hl => ?_)
                  refine lv_goto (tgt := 25) hx hb dX8_pushedAt_97 (by decide) ?_
                  exact ih_5 t_6 v4_5 v2_5  (by omega) (by omega) _ _ _ hw (lv_sub hl [0, 2, 3, 4, 5, 6] rfl)
        exact loop_5 _ n_4 0 v2_1  (by omega)  (Nat.lt_succ_self _) _ _ _ hw (lv_sub hl [0, 1, 2, 3, 4, 5] rfl)
  exact loop_1 _ 0 0  (by omega)  (Nat.lt_succ_self _) _ _ _ hw (lv_sub hl [0, 1, 2, 3] rfl)

set_option maxHeartbeats 4000000 in
set_option maxRecDepth 100000 in
theorem k_X8_pushedAll (l : Launch) (D : va_G) (a : Nat → Nat) (cI cZ : ClassId) (f : FF) (u : UU)  (hi : IV f)  : KI l yX8_pushedAll cX8_pushedAll 3 (some .int) ({ frames := 2, cells := 0, slots := 0, locals := 38 } : Room) D a cI cZ [.ref (a 36)] f u (fun r f2 u2 => f = f2 ∧ u = u2) := by
  refine KX.of (by decide) (Nat.le_of_ble_eq_true rfl) ?_
  intro p e s m below meth c cx hw hr hk ls hl
  have cx : Cx p s m _ c cX8_pushedAll RX8 3 D cI cZ := cx
  have hl : lv_has ls 3 [(0, .ref (a 36))] := hl
  have hx := cx.1.1
  have hb := cx.1.2.1
  refine lv_iconst (v := 0) hx hb dX8_pushedAll_0 (by decide) ?_
  refine lv_istore_n (lv' := [(1, .int 0), (0, .ref (a 36))]) hx hb dX8_pushedAll_1 rfl hl (by decide) rfl (fun ls hl => ?_)
  refine lv_iconst (v := 1) hx hb dX8_pushedAll_2 (by decide) ?_
  refine lv_istore_n (lv' := [(2, .int 1), (1, .int 0), (0, .ref (a 36))]) hx hb dX8_pushedAll_3 rfl hl (by decide) rfl (fun ls hl => ?_)
  have loop_1 : ∀ (k_1 : Nat) (v2_1 : Nat) (v1_1 : Int32), v2_1 ≤ 5 → 5 + 1 - v2_1 < k_1 → ∀ (H : Heap) (locs : List Loc) (ls : Array Slot), Wd D a cI cZ s f u H locs → lv_has ls 3 [(2, .int (nI v2_1)), (1, .int v1_1), (0, .ref (a 36))] → W p l e ({ frames := 2, cells := 0, slots := 0, locals := 38 } : Room) s m ([.ref (a 36)] : List Value).toArray below meth c H locs 0 0 (MQ below (QI D a cI cZ (fun r f2 u2 => f = f2 ∧ u = u2)) ([.ref (a 36)] : List Value).toArray s 0 0 (AA a)) (F0 m 4 ls []) := by
    intro k_1
    induction k_1 with
    | zero => intros; omega
    | succ k_1 ih_1 =>
      intro v2_1 v1_1  hb0_1  hm_1  H locs ls hw hl
      refine lv_iload_n hx hb dX8_pushedAll_4 rfl (lv_at hl 0 rfl) ?_
      refine lv_iconst (v := 5) hx hb dX8_pushedAll_5 (by decide) ?_
      refine lv_icmp_ge (tgt := 23) hx hb dX8_pushedAll_6 (by decide) (fun c_2 => ?_) (fun c_2 => ?_)
      · have c_2 : 5 ≤ v2_1 := (nI_leI (a := 5) (b := v2_1) (by omega) (by omega)).mp c_2
        refine lv_iload_n hx hb dX8_pushedAll_23 rfl (lv_at hl 1 rfl) ?_
        exact retI cx hw hr hk dX8_pushedAll_24 ⟨rfl, rfl⟩
      · have c_2 : ¬ 5 ≤ v2_1 := fun z => c_2 ((nI_leI (a := 5) (b := v2_1) (by omega) (by omega)).mpr z)
        refine lv_iload_n hx hb dX8_pushedAll_9 rfl (lv_at hl 1 rfl) ?_
        refine lv_aload_n hx hb dX8_pushedAll_10 rfl (lv_at hl 2 rfl) ?_
        refine lv_iload_n hx hb dX8_pushedAll_11 rfl (lv_at hl 0 rfl) ?_
        refine goI hw (runVW (k := 36) (As := [.int (nI v2_1)]) (rest := [.int v1_1]) cx hw (k_X8_pushedAt l D a cI cZ f u (nI v2_1)  hi) lk_X8_179 rfl rfl ⟨Nat.le_of_ble_eq_true rfl, Nat.le_of_ble_eq_true rfl⟩ ⟨rfl, rfl⟩ ⟨Nat.zero_le _, Nat.zero_le _⟩ rfl rfl hl.1 (Nat.le_of_ble_eq_true rfl) dX8_pushedAll_12) (fun r_3 f_3 u_3 H locs hp_3 hw => ?_)
        obtain ⟨rfl, rfl⟩ := hp_3
        refine lv_iadd hx hb dX8_pushedAll_15 ?_
        refine lv_topi (fun x_4 _ => ?_)
        refine lv_istore_n (lv' := [(1, .int x_4), (2, .int (nI v2_1)), (0, .ref (a 36))]) hx hb dX8_pushedAll_16 rfl hl (by decide) rfl (fun ls hl => ?_)
        refine lv_iinc (v := (nI (v2_1 + 1))) (lv' := [(2, .int (nI (v2_1 + 1))), (1, .int x_4), (0, .ref (a 36))]) hx hb dX8_pushedAll_17 hl (k := 1) rfl (nI_add v2_1 1) (by decide) rfl (fun ls hl => ?_)
        refine lv_goto (tgt := 4) hx hb dX8_pushedAll_20 (by decide) ?_
        exact ih_1 (v2_1 + 1) x_4  (by omega) (by omega) _ _ _ hw (lv_sub hl [0, 1, 2] rfl)
  exact loop_1 _ 1 0  (by omega)  (Nat.lt_succ_self _) _ _ _ hw (lv_sub hl [0, 1, 2] rfl)

set_option maxHeartbeats 4000000 in
set_option maxRecDepth 100000 in
theorem k_X8_pushed (l : Launch) (D : va_G) (a : Nat → Nat) (cI cZ : ClassId) (f : FF) (u : UU) (sp : Int32) (hi : IV f)  : KI l yX8_pushed cX8_pushed 2 (some .int) ({ frames := 3, cells := 0, slots := 0, locals := 60 } : Room) D a cI cZ [.ref (a 36), .int sp] f u (fun r f2 u2 => f = f2 ∧ u = u2) := by
  refine KX.of (by decide) (Nat.le_of_ble_eq_true rfl) ?_
  intro p e s m below meth c cx hw hr hk ls hl
  have cx : Cx p s m _ c cX8_pushed RX8 2 D cI cZ := cx
  have hl : lv_has ls 2 [(0, .ref (a 36)), (1, .int sp)] := hl
  have hx := cx.1.1
  have hb := cx.1.2.1
  refine lv_iload_n hx hb dX8_pushed_0 rfl (lv_at hl 1 rfl) ?_
  refine lv_iconst (v := 0) hx hb dX8_pushed_1 (by decide) ?_
  refine lv_iconst (v := 4) hx hb dX8_pushed_2 (by decide) ?_
  refine goI hw (runSW (As := [.int sp, .int 0, .int 4]) (rest := []) cx hw (c_X8_isIn l D a cI cZ f u sp 0 4  ) lk_X8_95 ⟨Nat.le_of_ble_eq_true rfl, Nat.le_of_ble_eq_true rfl⟩ ⟨rfl, rfl⟩ ⟨Nat.zero_le _, Nat.zero_le _⟩ rfl rfl hl.1 (Nat.le_of_ble_eq_true rfl) dX8_pushed_3) (fun r_1 f_1 u_1 H locs hp_1 hw => ?_)
  obtain ⟨rfl, rfl, e_1⟩ := hp_1
  refine topc e_1 ?_
  refine lv_if_ne (tgt := 13) hx hb dX8_pushed_6 (by decide) (fun c_2 => ?_) (fun c_2 => ?_)
  · obtain ⟨t_2, ht_2, et_2⟩ := rg_nat (n := 4) rfl c_2
    subst et_2
    refine lv_iload_n hx hb dX8_pushed_13 rfl (lv_at hl 1 rfl) ?_
    refine lv_if_ne (tgt := 24) hx hb dX8_pushed_14 (by decide) (fun c_3 => ?_) (fun c_3 => ?_)
    · have c_3 : ¬ t_2 = 0 := fun z => c_3 ((nI_eq (a := t_2) (b := 0) (by omega) (by omega)).mpr z)
      refine lv_aload_n hx hb dX8_pushed_24 rfl (lv_at hl 0 rfl) ?_
      refine lv_iload_n hx hb dX8_pushed_25 rfl (lv_at hl 1 rfl) ?_
      refine goI hw (runVW (k := 36) (As := [.int (nI t_2)]) (rest := []) cx hw (k_X8_pushedAt l D a cI cZ f u (nI t_2)  hi) lk_X8_179 rfl rfl ⟨Nat.le_of_ble_eq_true rfl, Nat.le_of_ble_eq_true rfl⟩ ⟨rfl, rfl⟩ ⟨Nat.zero_le _, Nat.zero_le _⟩ rfl rfl hl.1 (Nat.le_of_ble_eq_true rfl) dX8_pushed_26) (fun r_4 f_4 u_4 H locs hp_4 hw => ?_)
      obtain ⟨rfl, rfl⟩ := hp_4
      exact retI cx hw hr hk dX8_pushed_29 ⟨rfl, rfl⟩
    · have c_3 : t_2 = 0 := (nI_eq (a := t_2) (b := 0) (by omega) (by omega)).mp c_3
      refine lv_aload_n hx hb dX8_pushed_17 rfl (lv_at hl 0 rfl) ?_
      refine goI hw (runVW (k := 36) (As := []) (rest := []) cx hw (k_X8_pushedAll l D a cI cZ f u   hi) lk_X8_182 rfl rfl ⟨Nat.le_of_ble_eq_true rfl, Nat.le_of_ble_eq_true rfl⟩ ⟨rfl, rfl⟩ ⟨Nat.zero_le _, Nat.zero_le _⟩ rfl rfl hl.1 (Nat.le_of_ble_eq_true rfl) dX8_pushed_18) (fun r_5 f_5 u_5 H locs hp_5 hw => ?_)
      obtain ⟨rfl, rfl⟩ := hp_5
      refine lv_goto (tgt := 29) hx hb dX8_pushed_21 (by decide) ?_
      exact retI cx hw hr hk dX8_pushed_29 ⟨rfl, rfl⟩
  · refine lv_iconst (v := (-1)) hx hb dX8_pushed_9 (by decide) ?_
    refine lv_goto (tgt := 29) hx hb dX8_pushed_10 (by decide) ?_
    exact retI cx hw hr hk dX8_pushed_29 ⟨rfl, rfl⟩

set_option maxHeartbeats 4000000 in
set_option maxRecDepth 100000 in
theorem k_X8_arrive (l : Launch) (D : va_G) (a : Nat → Nat) (cI cZ : ClassId) (f : FF) (u : UU) (sp : Int32) (hi : IV f)  : KI l yX8_arrive cX8_arrive 4 (some .int) ({ frames := 2, cells := 0, slots := 0, locals := 34 } : Room) D a cI cZ [.ref (a 36), .int sp] f u (fun r f2 u2 => IV f2 ∧ KK [42, 47] f f2) := by
  refine KX.of (by decide) (Nat.le_of_ble_eq_true rfl) ?_
  intro p e s m below meth c cx hw hr hk ls hl
  have cx : Cx p s m _ c cX8_arrive RX8 4 D cI cZ := cx
  have hl : lv_has ls 4 [(0, .ref (a 36)), (1, .int sp)] := hl
  have hx := cx.1.1
  have hb := cx.1.2.1
  refine lv_iload_n hx hb dX8_arrive_0 rfl (lv_at hl 1 rfl) ?_
  refine lv_iconst (v := 1) hx hb dX8_arrive_1 (by decide) ?_
  refine lv_iconst (v := 4) hx hb dX8_arrive_2 (by decide) ?_
  refine goI hw (runSW (As := [.int sp, .int 1, .int 4]) (rest := []) cx hw (c_X8_isIn l D a cI cZ f u sp 1 4  ) lk_X8_95 ⟨Nat.le_of_ble_eq_true rfl, Nat.le_of_ble_eq_true rfl⟩ ⟨rfl, rfl⟩ ⟨Nat.zero_le _, Nat.zero_le _⟩ rfl rfl hl.1 (Nat.le_of_ble_eq_true rfl) dX8_arrive_3) (fun r_1 f_1 u_1 H locs hp_1 hw => ?_)
  obtain ⟨rfl, rfl, e_1⟩ := hp_1
  refine topc e_1 ?_
  refine lv_if_ne (tgt := 11) hx hb dX8_arrive_6 (by decide) (fun c_2 => ?_) (fun c_2 => ?_)
  · obtain ⟨t_2, hs_2, ht_2, et_2⟩ := rg_nat2 (a := 1) (n := 4) (by omega) rfl c_2
    subst et_2
    refine lv_iconst (v := 0) hx hb dX8_arrive_11 (by decide) ?_
    refine lv_istore_n (lv' := [(2, .int 0), (0, .ref (a 36)), (1, .int (nI t_2))]) hx hb dX8_arrive_12 rfl hl (by decide) rfl (fun ls hl => ?_)
    refine lv_iconst (v := 0) hx hb dX8_arrive_13 (by decide) ?_
    refine lv_istore_n (lv' := [(3, .int 0), (2, .int 0), (0, .ref (a 36)), (1, .int (nI t_2))]) hx hb dX8_arrive_14 rfl hl (by decide) rfl (fun ls hl => ?_)
    have loop_3 : ∀ (k_3 : Nat) (v3_3 : Nat) (v2_3 : Int32), v3_3 ≤ 40 → 40 + 1 - v3_3 < k_3 → ∀ (f_3 : FF) (u_3 : UU), IV f_3 → KK [42, 47] f f_3 → ∀ (H : Heap) (locs : List Loc) (ls : Array Slot), Wd D a cI cZ s f_3 u_3 H locs → lv_has ls 4 [(3, .int (nI v3_3)), (2, .int v2_3), (0, .ref (a 36)), (1, .int (nI t_2))] → W p l e ({ frames := 2, cells := 0, slots := 0, locals := 34 } : Room) s m ([.ref (a 36), .int (nI t_2)] : List Value).toArray below meth c H locs 0 0 (MQ below (QI D a cI cZ (fun r f2 u2 => IV f2 ∧ KK [42, 47] f f2)) ([.ref (a 36), .int (nI t_2)] : List Value).toArray s 0 0 (AA a)) (F0 m 15 ls []) := by
      intro k_3
      induction k_3 with
      | zero => intros; omega
      | succ k_3 ih_3 =>
        intro v3_3 v2_3  hb0_3  hm_3 f_3 u_3 hi_3 kk_3  H locs ls hw hl
        refine lv_iload_n hx hb dX8_arrive_15 rfl (lv_at hl 0 rfl) ?_
        refine lv_aload_n hx hb dX8_arrive_16 rfl (lv_at hl 2 rfl) ?_
        refine gf_X8_106 cx hw dX8_arrive_17 ?_
        obtain ⟨n_4, hn_4, en_4⟩ := IV.s_36_11 hi_3
        refine topc (y := (nI n_4)) en_4 ?_
        refine lv_icmp_ge (tgt := 60) hx hb dX8_arrive_20 (by decide) (fun c_5 => ?_) (fun c_5 => ?_)
        · have c_5 : n_4 ≤ v3_3 := (nI_leI (a := n_4) (b := v3_3) (by omega) (by omega)).mp c_5
          refine lv_iload_n hx hb dX8_arrive_60 rfl (lv_at hl 1 rfl) ?_
          exact retI cx hw hr hk dX8_arrive_61 ⟨hi_3, kk_3⟩
        · have c_5 : ¬ n_4 ≤ v3_3 := fun z => c_5 ((nI_leI (a := n_4) (b := v3_3) (by omega) (by omega)).mpr z)
          refine lv_aload_n hx hb dX8_arrive_23 rfl (lv_at hl 2 rfl) ?_
          refine gf_X8_46 cx hw dX8_arrive_24 ?_
          refine lv_iload_n hx hb dX8_arrive_27 rfl (lv_at hl 0 rfl) ?_
          refine aldN 46 v3_3 cx hw rfl (by omega) (by decide) dX8_arrive_28 ?_
          refine lv_topi (fun x_6 _ => ?_)
          refine lv_iload_n hx hb dX8_arrive_29 rfl (lv_at hl 3 rfl) ?_
          refine lv_icmp_ne (tgt := 54) hx hb dX8_arrive_30 (by decide) (fun _ => ?_) (fun _ => ?_)
          · refine lv_iinc (v := (nI (v3_3 + 1))) (lv' := [(3, .int (nI (v3_3 + 1))), (2, .int v2_3), (0, .ref (a 36)), (1, .int (nI t_2))]) hx hb dX8_arrive_54 hl (k := 0) rfl (nI_add v3_3 1) (by decide) rfl (fun ls hl => ?_)
            refine lv_goto (tgt := 15) hx hb dX8_arrive_57 (by decide) ?_
            exact ih_3 (v3_3 + 1) v2_3  (by omega) (by omega) f_3 u_3 hi_3 kk_3  _ _ _ hw (lv_sub hl [0, 1, 2, 3] rfl)
          · refine lv_aload_n hx hb dX8_arrive_33 rfl (lv_at hl 2 rfl) ?_
            refine gf_X8_49 cx hw dX8_arrive_34 ?_
            refine lv_iload_n hx hb dX8_arrive_37 rfl (lv_at hl 0 rfl) ?_
            refine aldN 47 v3_3 cx hw rfl (by omega) (by decide) dX8_arrive_38 ?_
            rcases IV.a_47 hi_3 (i := v3_3) (by omega) with en_8 | ⟨n_8, hn_8, en_8⟩
            · refine topc (y := (-1)) en_8 ?_
              refine lv_iconst (v := (-1)) hx hb dX8_arrive_39 (by decide) ?_
              refine lv_icmp_ne (tgt := 46) hx hb dX8_arrive_40 (by decide) (fun q => absurd (by decide) q) (fun _ => ?_)
              refine lv_goto (tgt := 54) hx hb dX8_arrive_43 (by decide) ?_
              refine lv_iinc (v := (nI (v3_3 + 1))) (lv' := [(3, .int (nI (v3_3 + 1))), (2, .int v2_3), (0, .ref (a 36)), (1, .int (nI t_2))]) hx hb dX8_arrive_54 hl (k := 0) rfl (nI_add v3_3 1) (by decide) rfl (fun ls hl => ?_)
              refine lv_goto (tgt := 15) hx hb dX8_arrive_57 (by decide) ?_
              exact ih_3 (v3_3 + 1) v2_3  (by omega) (by omega) f_3 u_3 hi_3 kk_3  _ _ _ hw (lv_sub hl [0, 1, 2, 3] rfl)
            · refine topc (y := (nI n_8)) en_8 ?_
              refine lv_iconst (v := (-1)) hx hb dX8_arrive_39 (by decide) ?_
              refine lv_icmp_ne (tgt := 46) hx hb dX8_arrive_40 (by decide) (fun _ => ?_) (fun q => absurd q (nI_m1 (by omega)))
              refine lv_aload_n hx hb dX8_arrive_46 rfl (lv_at hl 2 rfl) ?_
              refine lv_iload_n hx hb dX8_arrive_47 rfl (lv_at hl 0 rfl) ?_
              refine goV hw (runVW (k := 36) (As := [.int (nI v3_3)]) (rest := []) cx hw (k_X8_take l D a cI cZ f_3 u_3 v3_3 n_8 hi_3 (by omega) (by omega) en_8) lk_X8_149 rfl rfl ⟨Nat.le_of_ble_eq_true rfl, Nat.le_of_ble_eq_true rfl⟩ ⟨rfl, rfl⟩ ⟨Nat.zero_le _, Nat.zero_le _⟩ rfl rfl hl.1 (Nat.le_of_ble_eq_true rfl) dX8_arrive_48) (fun f_11 u_11 H locs hp_11 hw => ?_)
              have hi_12 : IV (takeM f_3 v3_3 n_8) := IV.wtakeM hi_3
              obtain ⟨rfl, rfl⟩ := hp_11
              refine lv_iinc (v := (v2_3 + 1)) (lv' := [(2, .int (v2_3 + 1)), (3, .int (nI v3_3)), (0, .ref (a 36)), (1, .int (nI t_2))]) hx hb dX8_arrive_51 hl (k := 1) rfl rfl (by decide) rfl (fun ls hl => ?_)
              refine lv_iinc (v := (nI (v3_3 + 1))) (lv' := [(3, .int (nI (v3_3 + 1))), (2, .int (v2_3 + 1)), (0, .ref (a 36)), (1, .int (nI t_2))]) hx hb dX8_arrive_54 hl (k := 1) rfl (nI_add v3_3 1) (by decide) rfl (fun ls hl => ?_)
              refine lv_goto (tgt := 15) hx hb dX8_arrive_57 (by decide) ?_
              exact ih_3 (v3_3 + 1) (v2_3 + 1)  (by omega) (by omega) (takeM f_3 v3_3 n_8) u_3 hi_12 (KK.wtakeM (by decide) kk_3)  _ _ _ hw (lv_sub hl [0, 1, 2, 3] rfl)
    exact loop_3 _ 0 0  (by omega)  (Nat.lt_succ_self _) f u hi KK.rf  _ _ _ hw (lv_sub hl [0, 1, 2, 3] rfl)
  · refine lv_iconst (v := (-1)) hx hb dX8_arrive_9 (by decide) ?_
    exact retI cx hw hr hk dX8_arrive_10 ⟨hi, KK.rf⟩
