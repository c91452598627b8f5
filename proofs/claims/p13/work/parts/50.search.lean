set_option maxHeartbeats 4000000 in
set_option maxRecDepth 100000 in
theorem k_X4_gatherWaiting (l : Launch) (D : va_G) (a : Nat → Nat) (cI cZ : ClassId) (f : FF) (u : UU)  (hi : IV f)  : KI l yX4_gatherWaiting cX4_gatherWaiting 2 (some .boolean) ({ frames := 2, cells := 0, slots := 0, locals := 33 } : Room) D a cI cZ [.ref (a 8)] f u (fun r f2 u2 => IV f2 ∧ KK [8, 33] f f2 ∧ ((r = 0) ∨ (r = 1 ∧ ∃ c, c ≤ 4 ∧ f2 8 4 = nI c ∧ DWc f2 c))) := by
  refine KX.of (by decide) (Nat.le_of_ble_eq_true rfl) ?_
  intro p e s m below meth c cx hw hr hk ls hl
  have cx : Cx p s m _ c cX4_gatherWaiting RX4 2 D cI cZ := cx
  have hl : lv_has ls 2 [(0, .ref (a 8))] := hl
  have hx := cx.1.1
  have hb := cx.1.2.1
  refine lv_aload_n hx hb dX4_gatherWaiting_0 rfl (lv_at hl 0 rfl) ?_
  refine lv_iconst (v := 0) hx hb dX4_gatherWaiting_1 (by decide) ?_
  refine pf_X4_21 cx hw dX4_gatherWaiting_2 (fun H locs hw => ?_)
  have hi_1 : IV (up f 8 (upd (f 8) 4 0)) := IV.t_8_4 hi (okc_n (j := 0) (by omega))
  refine lv_iconst (v := 0) hx hb dX4_gatherWaiting_5 (by decide) ?_
  refine lv_istore_n (lv' := [(1, .int 0), (0, .ref (a 8))]) hx hb dX4_gatherWaiting_6 rfl hl (by decide) rfl (fun ls hl => ?_)
  have loop_2 : ∀ (k_2 : Nat) (v1_2 : Nat), v1_2 ≤ 40 → 40 + 1 - v1_2 < k_2 → ∀ (f_2 : FF) (u_2 : UU), IV f_2 → KK [8, 33] f f_2 → (LWc f_2 v1_2) → ∀ (H : Heap) (locs : List Loc) (ls : Array Slot), Wd D a cI cZ s f_2 u_2 H locs → lv_has ls 2 [(1, .int (nI v1_2)), (0, .ref (a 8))] → W p l e ({ frames := 2, cells := 0, slots := 0, locals := 33 } : Room) s m ([.ref (a 8)] : List Value).toArray below meth c H locs 0 0 (MQ below (QI D a cI cZ (fun r f2 u2 => IV f2 ∧ KK [8, 33] f f2 ∧ ((r = 0) ∨ (r = 1 ∧ ∃ c, c ≤ 4 ∧ f2 8 4 = nI c ∧ DWc f2 c)))) ([.ref (a 8)] : List Value).toArray s 0 0 (AA a)) (F0 m 7 ls []) := by
    intro k_2
    induction k_2 with
    | zero => intros; omega
    | succ k_2 ih_2 =>
      intro v1_2  hb0_2  hm_2 f_2 u_2 hi_2 kk_2 hlw H locs ls hw hl
      obtain ⟨w_3, hw_3, ew_3, hA_3, hB_3⟩ := hlw
      refine lv_iload_n hx hb dX4_gatherWaiting_7 rfl (lv_at hl 0 rfl) ?_
      refine lv_aload_n hx hb dX4_gatherWaiting_8 rfl (lv_at hl 1 rfl) ?_
      refine gf_X4_42 cx hw dX4_gatherWaiting_9 ?_
      refine gf_X4_53 cx hw dX4_gatherWaiting_12 ?_
      obtain ⟨n_4, hn_4, en_4⟩ := IV.s_1_12 hi_2
      refine topc (y := (nI n_4)) en_4 ?_
      refine lv_icmp_ge (tgt := 62) hx hb dX4_gatherWaiting_15 (by decide) (fun c_5 => ?_) (fun c_5 => ?_)
      · have c_5 : n_4 ≤ v1_2 := (nI_leI (a := n_4) (b := v1_2) (by omega) (by omega)).mp c_5
        refine lv_iconst (v := 1) hx hb dX4_gatherWaiting_62 (by decide) ?_
        exact retZ cx hw hr hk rfl dX4_gatherWaiting_63 ⟨hi_2, kk_2, Or.inr ⟨rfl, w_3, by omega, ew_3, hB_3⟩⟩
      · have c_5 : ¬ n_4 ≤ v1_2 := fun z => c_5 ((nI_leI (a := n_4) (b := v1_2) (by omega) (by omega)).mpr z)
        refine lv_aload_n hx hb dX4_gatherWaiting_18 rfl (lv_at hl 1 rfl) ?_
        refine gf_X4_42 cx hw dX4_gatherWaiting_19 ?_
        refine lv_iload_n hx hb dX4_gatherWaiting_22 rfl (lv_at hl 0 rfl) ?_
        refine goI hw (runVW (k := 1) (As := [.int (nI v1_2)]) (rest := []) cx hw (k_X1_isLoaded l D a cI cZ f_2 u_2 v1_2  hi_2 (by omega)) lk_X4_58 rfl rfl ⟨Nat.le_of_ble_eq_true rfl, Nat.le_of_ble_eq_true rfl⟩ ⟨rfl, rfl⟩ ⟨Nat.zero_le _, Nat.zero_le _⟩ rfl rfl hl.1 (Nat.le_of_ble_eq_true rfl) dX4_gatherWaiting_23) (fun r_6 f_6 u_6 H locs hp_6 hw => ?_)
        obtain ⟨rfl, rfl, ha_6⟩ := hp_6
        rcases ha_6 with ⟨er_6, q0_6_0⟩ | ⟨er_6, b1_6_j, q1_6_0, q1_6_1⟩
        · subst er_6
          refine lv_if_ne (tgt := 56) hx hb dX4_gatherWaiting_26 (by decide) (fun q => absurd (by decide) q) (fun _ => ?_)
          refine lv_aload_n hx hb dX4_gatherWaiting_29 rfl (lv_at hl 1 rfl) ?_
          refine gf_X4_21 cx hw dX4_gatherWaiting_30 ?_
          refine topc (y := (nI w_3)) ew_3 ?_
          refine lv_iconst (v := 4) hx hb dX4_gatherWaiting_33 (by decide) ?_
          refine lv_icmp_lt (tgt := 39) hx hb dX4_gatherWaiting_34 (by decide) (fun c_8 => ?_) (fun c_8 => ?_)
          · have c_8 : w_3 < 4 := (nI_ltI (a := w_3) (b := 4) (by omega) (by omega)).mp c_8
            refine lv_aload_n hx hb dX4_gatherWaiting_39 rfl (lv_at hl 1 rfl) ?_
            refine gf_X4_11 cx hw dX4_gatherWaiting_40 ?_
            refine lv_aload_n hx hb dX4_gatherWaiting_43 rfl (lv_at hl 1 rfl) ?_
            refine lv_dup hx hb dX4_gatherWaiting_44 rfl ?_
            refine gf_X4_21 cx hw dX4_gatherWaiting_45 ?_
            refine topc (y := (nI w_3)) ew_3 ?_
            refine lv_dup_x1 hx hb dX4_gatherWaiting_48 rfl rfl ?_
            refine lv_iconst (v := 1) hx hb dX4_gatherWaiting_49 (by decide) ?_
            refine lv_iadd hx hb dX4_gatherWaiting_50 ?_
            refine topc (y := (nI (w_3 + 1))) (nI_add w_3 1) ?_
            refine pf_X4_21 cx hw dX4_gatherWaiting_51 (fun H locs hw => ?_)
            have hi_9 : IV (up f_2 8 (upd (f_2 8) 4 (nI (w_3 + 1)))) := IV.t_8_4 hi_2 (okc_n (j := (w_3 + 1)) (by omega))
            refine lv_iload_n hx hb dX4_gatherWaiting_54 rfl (lv_at hl 0 rfl) ?_
            refine astN 33 w_3 cx hw rfl ws_33 (by omega) (by decide) dX4_gatherWaiting_55 (fun H locs hw => ?_)
            have hi_10 : IV (up (up f_2 8 (upd (f_2 8) 4 (nI (w_3 + 1)))) 33 (upd ((up f_2 8 (upd (f_2 8) 4 (nI (w_3 + 1)))) 33) w_3 (nI v1_2))) := IV.b_33 hi_9 (oki_n (j := v1_2) (by omega))
            refine lv_iinc (v := (nI (v1_2 + 1))) (lv' := [(1, .int (nI (v1_2 + 1))), (0, .ref (a 8))]) hx hb dX4_gatherWaiting_56 hl (k := 0) rfl (nI_add v1_2 1) (by decide) rfl (fun ls hl => ?_)
            refine lv_goto (tgt := 7) hx hb dX4_gatherWaiting_59 (by decide) ?_
            exact ih_2 (v1_2 + 1)  (by omega) (by omega) (up (up f_2 8 (upd (f_2 8) 4 (nI (w_3 + 1)))) 33 (upd ((up f_2 8 (upd (f_2 8) 4 (nI (w_3 + 1)))) 33) w_3 (nI v1_2))) u_2 hi_10 (KK.wr (by decide) (by decide) (KK.wr (by decide) (by decide) kk_2)) (LWc_put (by omega) (by omega) hA_3 hB_3 rfl rfl) _ _ _ hw (lv_sub hl [0, 1] rfl)
          · have c_8 : ¬ w_3 < 4 := fun z => c_8 ((nI_ltI (a := w_3) (b := 4) (by omega) (by omega)).mpr z)
            refine lv_iconst (v := 0) hx hb dX4_gatherWaiting_37 (by decide) ?_
            exact retZ cx hw hr hk rfl dX4_gatherWaiting_38 ⟨hi_2, kk_2, Or.inl rfl⟩
        · subst er_6
          refine lv_if_ne (tgt := 56) hx hb dX4_gatherWaiting_26 (by decide) (fun _ => ?_) (fun q => absurd q (by decide))
          refine lv_iinc (v := (nI (v1_2 + 1))) (lv' := [(1, .int (nI (v1_2 + 1))), (0, .ref (a 8))]) hx hb dX4_gatherWaiting_56 hl (k := 0) rfl (nI_add v1_2 1) (by decide) rfl (fun ls hl => ?_)
          refine lv_goto (tgt := 7) hx hb dX4_gatherWaiting_59 (by decide) ?_
          exact ih_2 (v1_2 + 1)  (by omega) (by omega) f_2 u_2 hi_2 kk_2 (LWc_skip ⟨w_3, hw_3, ew_3, hA_3, hB_3⟩) _ _ _ hw (lv_sub hl [0, 1] rfl)
  exact loop_2 _ 0  (by omega)  (Nat.lt_succ_self _) (up f 8 (upd (f 8) 4 0)) u hi_1 (KK.wr (by decide) (by decide) KK.rf) ⟨0, by omega, rfl, fun i h => absurd h (by omega), fun i j _ h => absurd h (by omega)⟩ _ _ _ hw (lv_sub hl [0, 1] rfl)

set_option maxHeartbeats 4000000 in
set_option maxRecDepth 100000 in
theorem k_X4_gatherFree (l : Launch) (D : va_G) (a : Nat → Nat) (cI cZ : ClassId) (f : FF) (u : UU)  (hi : IV f)  : KI l yX4_gatherFree cX4_gatherFree 4 (some .boolean) ({ frames := 2, cells := 0, slots := 0, locals := 33 } : Room) D a cI cZ [.ref (a 8)] f u (fun r f2 u2 => IV f2 ∧ KK [8, 35] f f2 ∧ f2 8 4 = f 8 4 ∧ ((r = 0) ∨ (r = 1))) := by
  refine KX.of (by decide) (Nat.le_of_ble_eq_true rfl) ?_
  intro p e s m below meth c cx hw hr hk ls hl
  have cx : Cx p s m _ c cX4_gatherFree RX4 4 D cI cZ := cx
  have hl : lv_has ls 4 [(0, .ref (a 8))] := hl
  have hx := cx.1.1
  have hb := cx.1.2.1
  refine lv_aload_n hx hb dX4_gatherFree_0 rfl (lv_at hl 0 rfl) ?_
  refine lv_iconst (v := 0) hx hb dX4_gatherFree_1 (by decide) ?_
  refine pf_X4_25 cx hw dX4_gatherFree_2 (fun H locs hw => ?_)
  have hi_1 : IV (up f 8 (upd (f 8) 5 0)) := IV.t_8_5 hi (okc_n (j := 0) (by omega))
  refine lv_iconst (v := 0) hx hb dX4_gatherFree_5 (by decide) ?_
  refine lv_istore_n (lv' := [(1, .int 0), (0, .ref (a 8))]) hx hb dX4_gatherFree_6 rfl hl (by decide) rfl (fun ls hl => ?_)
  have loop_2 : ∀ (k_2 : Nat) (v1_2 : Nat), v1_2 ≤ 4 → 4 + 1 - v1_2 < k_2 → ∀ (f_2 : FF) (u_2 : UU), IV f_2 → KK [8, 35] f f_2 → (f_2 8 4 = f 8 4) → ∀ (H : Heap) (locs : List Loc) (ls : Array Slot), Wd D a cI cZ s f_2 u_2 H locs → lv_has ls 4 [(1, .int (nI v1_2)), (0, .ref (a 8))] → W p l e ({ frames := 2, cells := 0, slots := 0, locals := 33 } : Room) s m ([.ref (a 8)] : List Value).toArray below meth c H locs 0 0 (MQ below (QI D a cI cZ (fun r f2 u2 => IV f2 ∧ KK [8, 35] f f2 ∧ f2 8 4 = f 8 4 ∧ ((r = 0) ∨ (r = 1)))) ([.ref (a 8)] : List Value).toArray s 0 0 (AA a)) (F0 m 7 ls []) := by
    intro k_2
    induction k_2 with
    | zero => intros; omega
    | succ k_2 ih_2 =>
      intro v1_2  hb0_2  hm_2 f_2 u_2 hi_2 kk_2 h84 H locs ls hw hl
      refine lv_iload_n hx hb dX4_gatherFree_7 rfl (lv_at hl 0 rfl) ?_
      refine lv_aload_n hx hb dX4_gatherFree_8 rfl (lv_at hl 1 rfl) ?_
      refine gf_X4_42 cx hw dX4_gatherFree_9 ?_
      refine gf_X4_62 cx hw dX4_gatherFree_12 ?_
      obtain ⟨n_3, hn_3, en_3⟩ := IV.s_1_3 hi_2
      refine topc (y := (nI n_3)) en_3 ?_
      refine lv_icmp_ge (tgt := 92) hx hb dX4_gatherFree_15 (by decide) (fun c_4 => ?_) (fun c_4 => ?_)
      · have c_4 : n_3 ≤ v1_2 := (nI_leI (a := n_3) (b := v1_2) (by omega) (by omega)).mp c_4
        refine lv_iconst (v := 1) hx hb dX4_gatherFree_92 (by decide) ?_
        exact retZ cx hw hr hk rfl dX4_gatherFree_93 ⟨hi_2, kk_2, h84, Or.inr rfl⟩
      · have c_4 : ¬ n_3 ≤ v1_2 := fun z => c_4 ((nI_leI (a := n_3) (b := v1_2) (by omega) (by omega)).mpr z)
        refine lv_iconst (v := 0) hx hb dX4_gatherFree_18 (by decide) ?_
        refine lv_istore_n (lv' := [(2, .int 0), (1, .int (nI v1_2)), (0, .ref (a 8))]) hx hb dX4_gatherFree_19 rfl hl (by decide) rfl (fun ls hl => ?_)
        have loop_5 : ∀ (k_5 : Nat) (v2_5 : Nat), v2_5 ≤ 8 → 8 + 1 - v2_5 < k_5 → ∀ (f_5 : FF) (u_5 : UU), IV f_5 → KK [8, 35] f f_5 → (f_5 8 4 = f 8 4) → ∀ (H : Heap) (locs : List Loc) (ls : Array Slot), Wd D a cI cZ s f_5 u_5 H locs → lv_has ls 4 [(2, .int (nI v2_5)), (1, .int (nI v1_2)), (0, .ref (a 8))] → W p l e ({ frames := 2, cells := 0, slots := 0, locals := 33 } : Room) s m ([.ref (a 8)] : List Value).toArray below meth c H locs 0 0 (MQ below (QI D a cI cZ (fun r f2 u2 => IV f2 ∧ KK [8, 35] f f2 ∧ f2 8 4 = f 8 4 ∧ ((r = 0) ∨ (r = 1)))) ([.ref (a 8)] : List Value).toArray s 0 0 (AA a)) (F0 m 20 ls []) := by
          intro k_5
          induction k_5 with
          | zero => intros; omega
          | succ k_5 ih_5 =>
            intro v2_5  hb0_5  hm_5 f_5 u_5 hi_5 kk_5 h84 H locs ls hw hl
            refine lv_iload_n hx hb dX4_gatherFree_20 rfl (lv_at hl 0 rfl) ?_
            refine lv_aload_n hx hb dX4_gatherFree_21 rfl (lv_at hl 2 rfl) ?_
            refine gf_X4_42 cx hw dX4_gatherFree_22 ?_
            refine gf_X4_65 cx hw dX4_gatherFree_25 ?_
            refine lv_iload_n hx hb dX4_gatherFree_28 rfl (lv_at hl 1 rfl) ?_
            refine aldN 11 v1_2 cx hw rfl (by omega) (by decide) dX4_gatherFree_29 ?_
            obtain ⟨n_6, hn_6, en_6⟩ := IV.a_11 hi_5 (i := v1_2) (by omega)
            refine topc (y := (nI n_6)) en_6 ?_
            refine lv_icmp_ge (tgt := 86) hx hb dX4_gatherFree_30 (by decide) (fun c_7 => ?_) (fun c_7 => ?_)
            · have c_7 : n_6 ≤ v2_5 := (nI_leI (a := n_6) (b := v2_5) (by omega) (by omega)).mp c_7
              refine lv_iinc (v := (nI (v1_2 + 1))) (lv' := [(1, .int (nI (v1_2 + 1))), (2, .int (nI v2_5)), (0, .ref (a 8))]) hx hb dX4_gatherFree_86 hl (k := 1) rfl (nI_add v1_2 1) (by decide) rfl (fun ls hl => ?_)
              refine lv_goto (tgt := 7) hx hb dX4_gatherFree_89 (by decide) ?_
              exact ih_2 (v1_2 + 1)  (by omega) (by omega) f_5 u_5 hi_5 kk_5 h84 _ _ _ hw (lv_sub hl [0, 2] rfl)
            · have c_7 : ¬ n_6 ≤ v2_5 := fun z => c_7 ((nI_leI (a := n_6) (b := v2_5) (by omega) (by omega)).mpr z)
              refine lv_iload_n hx hb dX4_gatherFree_33 rfl (lv_at hl 1 rfl) ?_
              refine lv_iload_n hx hb dX4_gatherFree_34 rfl (lv_at hl 0 rfl) ?_
              refine goI hw (runSW (As := [.int (nI v1_2), .int (nI v2_5)]) (rest := []) cx hw (k_X1_placeOf l D a cI cZ f_5 u_5 v1_2 v2_5  ) lk_X4_68 ⟨Nat.le_of_ble_eq_true rfl, Nat.le_of_ble_eq_true rfl⟩ ⟨rfl, rfl⟩ ⟨Nat.zero_le _, Nat.zero_le _⟩ rfl rfl hl.1 (Nat.le_of_ble_eq_true rfl) dX4_gatherFree_35) (fun r_8 f_8 u_8 H locs hp_8 hw => ?_)
              obtain ⟨rfl, rfl, ha_8⟩ := hp_8
              have er_8 := ha_8
              · subst er_8
                refine lv_istore_n (lv' := [(3, .int (nI (v1_2 * 8 + v2_5))), (2, .int (nI v2_5)), (1, .int (nI v1_2)), (0, .ref (a 8))]) hx hb dX4_gatherFree_38 rfl hl (by decide) rfl (fun ls hl => ?_)
                refine lv_aload_n hx hb dX4_gatherFree_39 rfl (lv_at hl 3 rfl) ?_
                refine gf_X4_42 cx hw dX4_gatherFree_40 ?_
                refine gf_X4_72 cx hw dX4_gatherFree_43 ?_
                refine lv_iload_n hx hb dX4_gatherFree_46 rfl (lv_at hl 0 rfl) ?_
                refine aldN 14 (v1_2 * 8 + v2_5) cx hw rfl (by omega) (by decide) dX4_gatherFree_47 ?_
                rcases IV.a_14 hi_5 (i := v1_2 * 8 + v2_5) (by omega) with en_9 | ⟨n_9, hn_9, en_9⟩
                · refine topc (y := (-1)) en_9 ?_
                  refine lv_iconst (v := (-1)) hx hb dX4_gatherFree_48 (by decide) ?_
                  refine lv_icmp_ne (tgt := 80) hx hb dX4_gatherFree_49 (by decide) (fun q => absurd (by decide) q) (fun _ => ?_)
                  refine lv_aload_n hx hb dX4_gatherFree_52 rfl (lv_at hl 3 rfl) ?_
                  refine gf_X4_25 cx hw dX4_gatherFree_53 ?_
                  obtain ⟨n_11, hn_11, en_11⟩ := IV.s_8_5 hi_5
                  refine topc (y := (nI n_11)) en_11 ?_
                  refine lv_bipush (v := 10) hx hb dX4_gatherFree_56 (by decide) ?_
                  refine lv_icmp_lt (tgt := 63) hx hb dX4_gatherFree_58 (by decide) (fun c_12 => ?_) (fun c_12 => ?_)
                  · have c_12 : n_11 < 10 := (nI_ltI (a := n_11) (b := 10) (by omega) (by omega)).mp c_12
                    refine lv_aload_n hx hb dX4_gatherFree_63 rfl (lv_at hl 3 rfl) ?_
                    refine gf_X4_18 cx hw dX4_gatherFree_64 ?_
                    refine lv_aload_n hx hb dX4_gatherFree_67 rfl (lv_at hl 3 rfl) ?_
                    refine lv_dup hx hb dX4_gatherFree_68 rfl ?_
                    refine gf_X4_25 cx hw dX4_gatherFree_69 ?_
                    refine topc (y := (nI n_11)) en_11 ?_
                    refine lv_dup_x1 hx hb dX4_gatherFree_72 rfl rfl ?_
                    refine lv_iconst (v := 1) hx hb dX4_gatherFree_73 (by decide) ?_
                    refine lv_iadd hx hb dX4_gatherFree_74 ?_
                    refine topc (y := (nI (n_11 + 1))) (nI_add n_11 1) ?_
                    refine pf_X4_25 cx hw dX4_gatherFree_75 (fun H locs hw => ?_)
                    have hi_13 : IV (up f_5 8 (upd (f_5 8) 5 (nI (n_11 + 1)))) := IV.t_8_5 hi_5 (okc_n (j := (n_11 + 1)) (by omega))
                    refine lv_iload_n hx hb dX4_gatherFree_78 rfl (lv_at hl 0 rfl) ?_
                    refine astN 35 n_11 cx hw rfl ws_35 (by omega) (by decide) dX4_gatherFree_79 (fun H locs hw => ?_)
                    have hi_14 : IV (up (up f_5 8 (upd (f_5 8) 5 (nI (n_11 + 1)))) 35 (upd ((up f_5 8 (upd (f_5 8) 5 (nI (n_11 + 1)))) 35) n_11 (nI (v1_2 * 8 + v2_5)))) := IV.b_35 hi_13 (oki_n (j := (v1_2 * 8 + v2_5)) (by omega))
                    refine lv_iinc (v := (nI (v2_5 + 1))) (lv' := [(2, .int (nI (v2_5 + 1))), (3, .int (nI (v1_2 * 8 + v2_5))), (1, .int (nI v1_2)), (0, .ref (a 8))]) hx hb dX4_gatherFree_80 hl (k := 1) rfl (nI_add v2_5 1) (by decide) rfl (fun ls hl => ?_)
                    refine lv_goto (tgt := 20) hx hb dX4_gatherFree_83 (by decide) ?_
                    exact ih_5 (v2_5 + 1)  (by omega) (by omega) (up (up f_5 8 (upd (f_5 8) 5 (nI (n_11 + 1)))) 35 (upd ((up f_5 8 (upd (f_5 8) 5 (nI (n_11 + 1)))) 35) n_11 (nI (v1_2 * 8 + v2_5)))) u_5 hi_14 (KK.wr (by decide) (by decide) (KK.wr (by decide) (by decide) kk_5)) h84 _ _ _ hw (lv_sub hl [0, 2, 3] rfl)
                  · have c_12 : ¬ n_11 < 10 := fun z => c_12 ((nI_ltI (a := n_11) (b := 10) (by omega) (by omega)).mpr z)
                    refine lv_iconst (v := 0) hx hb dX4_gatherFree_61 (by decide) ?_
                    exact retZ cx hw hr hk rfl dX4_gatherFree_62 ⟨hi_5, kk_5, h84, Or.inl rfl⟩
                · refine topc (y := (nI n_9)) en_9 ?_
                  refine lv_iconst (v := (-1)) hx hb dX4_gatherFree_48 (by decide) ?_
                  refine lv_icmp_ne (tgt := 80) hx hb dX4_gatherFree_49 (by decide) (fun _ => ?_) (fun q => absurd q (nI_m1 (by omega)))
                  refine lv_iinc (v := (nI (v2_5 + 1))) (lv' := [(2, .int (nI (v2_5 + 1))), (3, .int (nI (v1_2 * 8 + v2_5))), (1, .int (nI v1_2)), (0, .ref (a 8))]) hx hb dX4_gatherFree_80 hl (k := 1) rfl (nI_add v2_5 1) (by decide) rfl (fun ls hl => ?_)
                  refine lv_goto (tgt := 20) hx hb dX4_gatherFree_83 (by decide) ?_
                  exact ih_5 (v2_5 + 1)  (by omega) (by omega) f_5 u_5 hi_5 kk_5 h84 _ _ _ hw (lv_sub hl [0, 2, 3] rfl)
        exact loop_5 _ 0  (by omega)  (Nat.lt_succ_self _) f_2 u_2 hi_2 kk_2 h84 _ _ _ hw (lv_sub hl [0, 1, 2] rfl)
  exact loop_2 _ 0  (by omega)  (Nat.lt_succ_self _) (up f 8 (upd (f 8) 5 0)) u hi_1 (KK.wr (by decide) (by decide) KK.rf) rfl _ _ _ hw (lv_sub hl [0, 1] rfl)

set_option maxHeartbeats 4000000 in
set_option maxRecDepth 100000 in
theorem k_X4_gather (l : Launch) (D : va_G) (a : Nat → Nat) (cI cZ : ClassId) (f : FF) (u : UU)  (hi : IV f)  : KI l yX4_gather cX4_gather 1 (some .boolean) ({ frames := 3, cells := 0, slots := 0, locals := 56 } : Room) D a cI cZ [.ref (a 8)] f u (fun r f2 u2 => IV f2 ∧ KK [8, 33, 35] f f2 ∧ ((r = 0) ∨ (r = 1 ∧ ∃ c, c ≤ 4 ∧ f2 8 4 = nI c ∧ DWc f2 c))) := by
  refine KX.of (by decide) (Nat.le_of_ble_eq_true rfl) ?_
  intro p e s m below meth c cx hw hr hk ls hl
  have cx : Cx p s m _ c cX4_gather RX4 1 D cI cZ := cx
  have hl : lv_has ls 1 [(0, .ref (a 8))] := hl
  have hx := cx.1.1
  have hb := cx.1.2.1
  refine lv_aload_n hx hb dX4_gather_0 rfl (lv_at hl 0 rfl) ?_
  refine goI hw (runVW (k := 8) (As := []) (rest := []) cx hw (k_X4_gatherWaiting l D a cI cZ f u   hi) lk_X4_46 rfl rfl ⟨Nat.le_of_ble_eq_true rfl, Nat.le_of_ble_eq_true rfl⟩ ⟨rfl, rfl⟩ ⟨Nat.zero_le _, Nat.zero_le _⟩ rfl rfl hl.1 (Nat.le_of_ble_eq_true rfl) dX4_gather_1) (fun r_1 f_1 u_1 H locs hp_1 hw => ?_)
  obtain ⟨hi_1, kk_1, ha_1⟩ := hp_1
  rcases ha_1 with er_1 | ⟨er_1, b1_1_c, q1_1_0, q1_1_1, q1_1_2⟩
  · subst er_1
    refine lv_if_eq (tgt := 25) hx hb dX4_gather_4 (by decide) (fun _ => ?_) (fun q => absurd (by decide) q)
    refine lv_iconst (v := 0) hx hb dX4_gather_25 (by decide) ?_
    exact retZ cx hw hr hk rfl dX4_gather_26 ⟨hi_1, (KK.tr KK.rf (kk_1.mono (by decide))), Or.inl rfl⟩
  · subst er_1
    refine lv_if_eq (tgt := 25) hx hb dX4_gather_4 (by decide) (fun q => absurd q (by decide)) (fun _ => ?_)
    refine lv_aload_n hx hb dX4_gather_7 rfl (lv_at hl 0 rfl) ?_
    refine goI hw (runVW (k := 8) (As := []) (rest := []) cx hw (k_X4_gatherFree l D a cI cZ f_1 u_1   hi_1) lk_X4_50 rfl rfl ⟨Nat.le_of_ble_eq_true rfl, Nat.le_of_ble_eq_true rfl⟩ ⟨rfl, rfl⟩ ⟨Nat.zero_le _, Nat.zero_le _⟩ rfl rfl hl.1 (Nat.le_of_ble_eq_true rfl) dX4_gather_8) (fun r_4 f_4 u_4 H locs hp_4 hw => ?_)
    obtain ⟨hi_4, kk_4, ex0_4, ha_4⟩ := hp_4
    rcases ha_4 with er_4 | er_4
    · subst er_4
      refine lv_if_eq (tgt := 25) hx hb dX4_gather_11 (by decide) (fun _ => ?_) (fun q => absurd (by decide) q)
      refine lv_iconst (v := 0) hx hb dX4_gather_25 (by decide) ?_
      exact retZ cx hw hr hk rfl dX4_gather_26 ⟨hi_4, (KK.tr (KK.tr KK.rf (kk_1.mono (by decide))) (kk_4.mono (by decide))), Or.inl rfl⟩
    · subst er_4
      refine lv_if_eq (tgt := 25) hx hb dX4_gather_11 (by decide) (fun q => absurd q (by decide)) (fun _ => ?_)
      refine lv_aload_n hx hb dX4_gather_14 rfl (lv_at hl 0 rfl) ?_
      refine gf_X4_21 cx hw dX4_gather_15 ?_
      refine topc (y := (nI b1_1_c)) (ex0_4.trans q1_1_1) ?_
      refine lv_if_le (tgt := 25) hx hb dX4_gather_18 (by decide) (fun c_7 => ?_) (fun c_7 => ?_)
      · have c_7 : b1_1_c ≤ 0 := (nI_leI (a := b1_1_c) (b := 0) (by omega) (by omega)).mp c_7
        refine lv_iconst (v := 0) hx hb dX4_gather_25 (by decide) ?_
        exact retZ cx hw hr hk rfl dX4_gather_26 ⟨hi_4, (KK.tr (KK.tr KK.rf (kk_1.mono (by decide))) (kk_4.mono (by decide))), Or.inl rfl⟩
      · have c_7 : ¬ b1_1_c ≤ 0 := fun z => c_7 ((nI_leI (a := b1_1_c) (b := 0) (by omega) (by omega)).mpr z)
        refine lv_iconst (v := 1) hx hb dX4_gather_21 (by decide) ?_
        refine lv_goto (tgt := 26) hx hb dX4_gather_22 (by decide) ?_
        exact retZ cx hw hr hk rfl dX4_gather_26 ⟨hi_4, (KK.tr (KK.tr KK.rf (kk_1.mono (by decide))) (kk_4.mono (by decide))), Or.inr ⟨rfl, b1_1_c, by omega, (ex0_4.trans q1_1_1), fun i j x y => by rw [kk_4.1 33 rfl]; exact q1_1_2 i j x y⟩⟩

set_option maxHeartbeats 4000000 in
set_option maxRecDepth 100000 in
theorem k_X4_keepIfBetter (l : Launch) (D : va_G) (a : Nat → Nat) (cI cZ : ClassId) (f : FF) (u : UU) (pt : Int32) (lt : Int64) (cn : Nat) (hi : IV f) (hta : TAc f cn cn) : KV l yX4_keepIfBetter cX4_keepIfBetter 6 none ({ frames := 1, cells := 0, slots := 0, locals := 12 } : Room) D a cI cZ [.ref (a 8), .int pt, .long lt] f u (fun f2 u2 => IV f2 ∧ KK [8, 34] f f2 ∧ f2 8 4 = f 8 4 ∧ BPc f2 cn) := by
  refine KX.of (by decide) (Nat.le_of_ble_eq_true rfl) ?_
  intro p e s m below meth c cx hw hr hk ls hl
  have cx : Cx p s m _ c cX4_keepIfBetter RX4 6 D cI cZ := cx
  have hl : lv_has ls 6 [(0, .ref (a 8)), (1, .int pt), (2, .long lt)] := hl
  have hx := cx.1.1
  have hb := cx.1.2.1
  have hc4 : cn ≤ 4 := hta.2.1
  refine lv_aload_n hx hb dX4_keepIfBetter_0 rfl (lv_at hl 0 rfl) ?_
  refine gf_X4_31 cx hw dX4_keepIfBetter_1 ?_
  refine lv_topi (fun x_1 _ => ?_)
  refine lv_if_eq (tgt := 32) hx hb dX4_keepIfBetter_4 (by decide) (fun _ => ?_) (fun _ => ?_)
  · refine lv_iconst (v := 1) hx hb dX4_keepIfBetter_32 (by decide) ?_
    refine lv_goto (tgt := 37) hx hb dX4_keepIfBetter_33 (by decide) ?_
    refine lv_istore (lv' := [(4, .int 1), (0, .ref (a 8)), (1, .int pt), (2, .long lt)]) hx hb dX4_keepIfBetter_37 hl (by decide) rfl (fun ls hl => ?_)
    refine lv_iload hx hb dX4_keepIfBetter_39 (lv_at hl 0 rfl) ?_
    refine lv_if_eq (tgt := 99) hx hb dX4_keepIfBetter_41 (by decide) (fun q => absurd q (by decide)) (fun _ => ?_)
    refine lv_aload_n hx hb dX4_keepIfBetter_44 rfl (lv_at hl 1 rfl) ?_
    refine lv_iconst (v := 1) hx hb dX4_keepIfBetter_45 (by decide) ?_
    refine pf_X4_31 cx hw rfl rfl dX4_keepIfBetter_46 (fun H locs hw => ?_)
    have hi_4 : IV (up f 8 (upd (f 8) 7 1)) := IV.u_8_7 hi
    refine lv_aload_n hx hb dX4_keepIfBetter_49 rfl (lv_at hl 1 rfl) ?_
    refine lv_iload_n hx hb dX4_keepIfBetter_50 rfl (lv_at hl 2 rfl) ?_
    refine pf_X4_35 cx hw dX4_keepIfBetter_51 (fun H locs hw => ?_)
    have hi_5 : IV (up (up f 8 (upd (f 8) 7 1)) 8 (upd ((up f 8 (upd (f 8) 7 1)) 8) 8 pt)) := IV.u_8_8 hi_4
    refine lv_aload_n hx hb dX4_keepIfBetter_54 rfl (lv_at hl 1 rfl) ?_
    refine lv_lload_n hx hb dX4_keepIfBetter_55 rfl (lv_at hl 3 rfl) ?_
    refine pf_X4_38 cx hw dX4_keepIfBetter_56 (fun H locs hw => ?_)
    refine lv_iconst (v := 0) hx hb dX4_keepIfBetter_59 (by decide) ?_
    refine lv_istore (lv' := [(5, .int 0), (4, .int 1), (0, .ref (a 8)), (1, .int pt), (2, .long lt)]) hx hb dX4_keepIfBetter_60 hl (by decide) rfl (fun ls hl => ?_)
    have loop_6 : ∀ (k_6 : Nat) (v5_6 : Nat), v5_6 ≤ 4 → 4 + 1 - v5_6 < k_6 → ∀ (f_6 : FF) (u_6 : UU), IV f_6 → KK [8, 34] f f_6 → (f_6 8 4 = f 8 4) → (∀ j, j < v5_6 → ∃ q, q < 32 ∧ f_6 34 j = nI q) → ∀ (H : Heap) (locs : List Loc) (ls : Array Slot), Wd D a cI cZ s f_6 u_6 H locs → lv_has ls 6 [(5, .int (nI v5_6)), (4, .int 1), (0, .ref (a 8)), (1, .int pt), (2, .long lt)] → W p l e ({ frames := 1, cells := 0, slots := 0, locals := 12 } : Room) s m ([.ref (a 8), .int pt, .long lt] : List Value).toArray below meth c H locs 0 0 (MQ below (QV D a cI cZ (fun f2 u2 => IV f2 ∧ KK [8, 34] f f2 ∧ f2 8 4 = f 8 4 ∧ BPc f2 cn)) ([.ref (a 8), .int pt, .long lt] : List Value).toArray s 0 0 (AA a)) (F0 m 62 ls []) := by
      intro k_6
      induction k_6 with
      | zero => intros; omega
      | succ k_6 ih_6 =>
        intro v5_6  hb0_6  hm_6 f_6 u_6 hi_6 kk_6 h84 hbp H locs ls hw hl
        refine lv_iload hx hb dX4_keepIfBetter_62 (lv_at hl 0 rfl) ?_
        refine lv_aload_n hx hb dX4_keepIfBetter_64 rfl (lv_at hl 2 rfl) ?_
        refine gf_X4_21 cx hw dX4_keepIfBetter_65 ?_
        refine topc (y := (nI cn)) (h84.trans hta.1) ?_
        refine lv_icmp_ge (tgt := 99) hx hb dX4_keepIfBetter_68 (by decide) (fun c_7 => ?_) (fun c_7 => ?_)
        · have c_7 : cn ≤ v5_6 := (nI_leI (a := cn) (b := v5_6) (by omega) (by omega)).mp c_7
          exact retV cx hw hr hk dX4_keepIfBetter_99 ⟨hi_6, kk_6, h84, fun _ j hj => hbp j (by omega)⟩
        · have c_7 : ¬ cn ≤ v5_6 := fun z => c_7 ((nI_leI (a := cn) (b := v5_6) (by omega) (by omega)).mpr z)
          obtain ⟨t_8, p_8, ht_8, hp_8, et_8, ep_8⟩ := hta.2.2.2.2.2 v5_6 (by omega)
          refine lv_aload_n hx hb dX4_keepIfBetter_71 rfl (lv_at hl 2 rfl) ?_
          refine gf_X4_15 cx hw dX4_keepIfBetter_72 ?_
          refine lv_iload hx hb dX4_keepIfBetter_75 (lv_at hl 0 rfl) ?_
          refine lv_aload_n hx hb dX4_keepIfBetter_77 rfl (lv_at hl 2 rfl) ?_
          refine gf_X4_42 cx hw dX4_keepIfBetter_78 ?_
          refine gf_X4_111 cx hw dX4_keepIfBetter_81 ?_
          refine lv_aload_n hx hb dX4_keepIfBetter_84 rfl (lv_at hl 2 rfl) ?_
          refine gf_X4_11 cx hw dX4_keepIfBetter_85 ?_
          refine lv_iload hx hb dX4_keepIfBetter_88 (lv_at hl 0 rfl) ?_
          refine aldN 33 v5_6 cx hw rfl (by omega) (by decide) dX4_keepIfBetter_90 ?_
          refine topc (y := (nI t_8)) ((congrFun (kk_6.1 33 rfl) v5_6).trans et_8) ?_
          refine aldN 18 t_8 cx hw rfl (by omega) (by decide) dX4_keepIfBetter_91 ?_
          refine topc (y := (nI p_8)) ((congrFun (kk_6.1 18 rfl) t_8).trans ep_8) ?_
          refine astN 34 v5_6 cx hw rfl ws_34 (by omega) (by decide) dX4_keepIfBetter_92 (fun H locs hw => ?_)
          have hi_9 : IV (up f_6 34 (upd (f_6 34) v5_6 (nI p_8))) := IV.wr hi_6 34 trivial
          refine lv_iinc (v := (nI (v5_6 + 1))) (lv' := [(5, .int (nI (v5_6 + 1))), (4, .int 1), (0, .ref (a 8)), (1, .int pt), (2, .long lt)]) hx hb dX4_keepIfBetter_93 hl (k := 0) rfl (nI_add v5_6 1) (by decide) rfl (fun ls hl => ?_)
          refine lv_goto (tgt := 62) hx hb dX4_keepIfBetter_96 (by decide) ?_
          exact ih_6 (v5_6 + 1)  (by omega) (by omega) (up f_6 34 (upd (f_6 34) v5_6 (nI p_8))) u_6 hi_9 (KK.wr (by decide) (by decide) kk_6) h84 (bp_st hbp (by omega)) _ _ _ hw (lv_sub hl [0, 1, 2, 3, 4] rfl)
    exact loop_6 _ 0  (by omega)  (Nat.lt_succ_self _) (up (up f 8 (upd (f 8) 7 1)) 8 (upd ((up f 8 (upd (f 8) 7 1)) 8) 8 pt)) (upL u 8 9 lt) hi_5 (KK.wr (by decide) (by decide) (KK.wr (by decide) (by decide) KK.rf)) rfl (fun j h => absurd h (by omega)) _ _ _ hw (lv_sub hl [0, 1, 2, 3, 4] rfl)
  · refine lv_iload_n hx hb dX4_keepIfBetter_7 rfl (lv_at hl 1 rfl) ?_
    refine lv_aload_n hx hb dX4_keepIfBetter_8 rfl (lv_at hl 0 rfl) ?_
    refine gf_X4_35 cx hw dX4_keepIfBetter_9 ?_
    refine lv_topi (fun x_10 _ => ?_)
    refine lv_icmp_lt (tgt := 32) hx hb dX4_keepIfBetter_12 (by decide) (fun _ => ?_) (fun _ => ?_)
    · refine lv_iconst (v := 1) hx hb dX4_keepIfBetter_32 (by decide) ?_
      refine lv_goto (tgt := 37) hx hb dX4_keepIfBetter_33 (by decide) ?_
      refine lv_istore (lv' := [(4, .int 1), (0, .ref (a 8)), (1, .int pt), (2, .long lt)]) hx hb dX4_keepIfBetter_37 hl (by decide) rfl (fun ls hl => ?_)
      refine lv_iload hx hb dX4_keepIfBetter_39 (lv_at hl 0 rfl) ?_
      refine lv_if_eq (tgt := 99) hx hb dX4_keepIfBetter_41 (by decide) (fun q => absurd q (by decide)) (fun _ => ?_)
      refine lv_aload_n hx hb dX4_keepIfBetter_44 rfl (lv_at hl 1 rfl) ?_
      refine lv_iconst (v := 1) hx hb dX4_keepIfBetter_45 (by decide) ?_
      refine pf_X4_31 cx hw rfl rfl dX4_keepIfBetter_46 (fun H locs hw => ?_)
      have hi_13 : IV (up f 8 (upd (f 8) 7 1)) := IV.u_8_7 hi
      refine lv_aload_n hx hb dX4_keepIfBetter_49 rfl (lv_at hl 1 rfl) ?_
      refine lv_iload_n hx hb dX4_keepIfBetter_50 rfl (lv_at hl 2 rfl) ?_
      refine pf_X4_35 cx hw dX4_keepIfBetter_51 (fun H locs hw => ?_)
      have hi_14 : IV (up (up f 8 (upd (f 8) 7 1)) 8 (upd ((up f 8 (upd (f 8) 7 1)) 8) 8 pt)) := IV.u_8_8 hi_13
      refine lv_aload_n hx hb dX4_keepIfBetter_54 rfl (lv_at hl 1 rfl) ?_
      refine lv_lload_n hx hb dX4_keepIfBetter_55 rfl (lv_at hl 3 rfl) ?_
      refine pf_X4_38 cx hw dX4_keepIfBetter_56 (fun H locs hw => ?_)
      refine lv_iconst (v := 0) hx hb dX4_keepIfBetter_59 (by decide) ?_
      refine lv_istore (lv' := [(5, .int 0), (4, .int 1), (0, .ref (a 8)), (1, .int pt), (2, .long lt)]) hx hb dX4_keepIfBetter_60 hl (by decide) rfl (fun ls hl => ?_)
      have loop_15 : ∀ (k_15 : Nat) (v5_15 : Nat), v5_15 ≤ 4 → 4 + 1 - v5_15 < k_15 → ∀ (f_15 : FF) (u_15 : UU), IV f_15 → KK [8, 34] f f_15 → (f_15 8 4 = f 8 4) → (∀ j, j < v5_15 → ∃ q, q < 32 ∧ f_15 34 j = nI q) → ∀ (H : Heap) (locs : List Loc) (ls : Array Slot), Wd D a cI cZ s f_15 u_15 H locs → lv_has ls 6 [(5, .int (nI v5_15)), (4, .int 1), (0, .ref (a 8)), (1, .int pt), (2, .long lt)] → W p l e ({ frames := 1, cells := 0, slots := 0, locals := 12 } : Room) s m ([.ref (a 8), .int pt, .long lt] : List Value).toArray below meth c H locs 0 0 (MQ below (QV D a cI cZ (fun f2 u2 => IV f2 ∧ KK [8, 34] f f2 ∧ f2 8 4 = f 8 4 ∧ BPc f2 cn)) ([.ref (a 8), .int pt, .long lt] : List Value).toArray s 0 0 (AA a)) (F0 m 62 ls []) := by
        intro k_15
        induction k_15 with
        | zero => intros; omega
        | succ k_15 ih_15 =>
          intro v5_15  hb0_15  hm_15 f_15 u_15 hi_15 kk_15 h84 hbp H locs ls hw hl
          refine lv_iload hx hb dX4_keepIfBetter_62 (lv_at hl 0 rfl) ?_
          refine lv_aload_n hx hb dX4_keepIfBetter_64 rfl (lv_at hl 2 rfl) ?_
          refine gf_X4_21 cx hw dX4_keepIfBetter_65 ?_
          refine topc (y := (nI cn)) (h84.trans hta.1) ?_
          refine lv_icmp_ge (tgt := 99) hx hb dX4_keepIfBetter_68 (by decide) (fun c_16 => ?_) (fun c_16 => ?_)
          · have c_16 : cn ≤ v5_15 := (nI_leI (a := cn) (b := v5_15) (by omega) (by omega)).mp c_16
            exact retV cx hw hr hk dX4_keepIfBetter_99 ⟨hi_15, kk_15, h84, fun _ j hj => hbp j (by omega)⟩
          · have c_16 : ¬ cn ≤ v5_15 := fun z => c_16 ((nI_leI (a := cn) (b := v5_15) (by omega) (by omega)).mpr z)
            obtain ⟨t_17, p_17, ht_17, hp_17, et_17, ep_17⟩ := hta.2.2.2.2.2 v5_15 (by omega)
            refine lv_aload_n hx hb dX4_keepIfBetter_71 rfl (lv_at hl 2 rfl) ?_
            refine gf_X4_15 cx hw dX4_keepIfBetter_72 ?_
            refine lv_iload hx hb dX4_keepIfBetter_75 (lv_at hl 0 rfl) ?_
            refine lv_aload_n hx hb dX4_keepIfBetter_77 rfl (lv_at hl 2 rfl) ?_
            refine gf_X4_42 cx hw dX4_keepIfBetter_78 ?_
            refine gf_X4_111 cx hw dX4_keepIfBetter_81 ?_
            refine lv_aload_n hx hb dX4_keepIfBetter_84 rfl (lv_at hl 2 rfl) ?_
            refine gf_X4_11 cx hw dX4_keepIfBetter_85 ?_
            refine lv_iload hx hb dX4_keepIfBetter_88 (lv_at hl 0 rfl) ?_
            refine aldN 33 v5_15 cx hw rfl (by omega) (by decide) dX4_keepIfBetter_90 ?_
            refine topc (y := (nI t_17)) ((congrFun (kk_15.1 33 rfl) v5_15).trans et_17) ?_
            refine aldN 18 t_17 cx hw rfl (by omega) (by decide) dX4_keepIfBetter_91 ?_
            refine topc (y := (nI p_17)) ((congrFun (kk_15.1 18 rfl) t_17).trans ep_17) ?_
            refine astN 34 v5_15 cx hw rfl ws_34 (by omega) (by decide) dX4_keepIfBetter_92 (fun H locs hw => ?_)
            have hi_18 : IV (up f_15 34 (upd (f_15 34) v5_15 (nI p_17))) := IV.wr hi_15 34 trivial
            refine lv_iinc (v := (nI (v5_15 + 1))) (lv' := [(5, .int (nI (v5_15 + 1))), (4, .int 1), (0, .ref (a 8)), (1, .int pt), (2, .long lt)]) hx hb dX4_keepIfBetter_93 hl (k := 0) rfl (nI_add v5_15 1) (by decide) rfl (fun ls hl => ?_)
            refine lv_goto (tgt := 62) hx hb dX4_keepIfBetter_96 (by decide) ?_
            exact ih_15 (v5_15 + 1)  (by omega) (by omega) (up f_15 34 (upd (f_15 34) v5_15 (nI p_17))) u_15 hi_18 (KK.wr (by decide) (by decide) kk_15) h84 (bp_st hbp (by omega)) _ _ _ hw (lv_sub hl [0, 1, 2, 3, 4] rfl)
      exact loop_15 _ 0  (by omega)  (Nat.lt_succ_self _) (up (up f 8 (upd (f 8) 7 1)) 8 (upd ((up f 8 (upd (f 8) 7 1)) 8) 8 pt)) (upL u 8 9 lt) hi_14 (KK.wr (by decide) (by decide) (KK.wr (by decide) (by decide) KK.rf)) rfl (fun j h => absurd h (by omega)) _ _ _ hw (lv_sub hl [0, 1, 2, 3, 4] rfl)
    · refine lv_iload_n hx hb dX4_keepIfBetter_15 rfl (lv_at hl 1 rfl) ?_
      refine lv_aload_n hx hb dX4_keepIfBetter_16 rfl (lv_at hl 0 rfl) ?_
      refine gf_X4_35 cx hw dX4_keepIfBetter_17 ?_
      refine lv_topi (fun x_19 _ => ?_)
      refine lv_icmp_ne (tgt := 36) hx hb dX4_keepIfBetter_20 (by decide) (fun _ => ?_) (fun _ => ?_)
      · refine lv_iconst (v := 0) hx hb dX4_keepIfBetter_36 (by decide) ?_
        refine lv_istore (lv' := [(4, .int 0), (0, .ref (a 8)), (1, .int pt), (2, .long lt)]) hx hb dX4_keepIfBetter_37 hl (by decide) rfl (fun ls hl => ?_)
        refine lv_iload hx hb dX4_keepIfBetter_39 (lv_at hl 0 rfl) ?_
        refine lv_if_eq (tgt := 99) hx hb dX4_keepIfBetter_41 (by decide) (fun _ => ?_) (fun q => absurd (by decide) q)
        exact retV cx hw hr hk dX4_keepIfBetter_99 ⟨hi, KK.rf, rfl, hta.2.2.2.2.1⟩
      · refine lv_lload_n hx hb dX4_keepIfBetter_23 rfl (lv_at hl 2 rfl) ?_
        refine lv_aload_n hx hb dX4_keepIfBetter_24 rfl (lv_at hl 0 rfl) ?_
        refine gf_X4_38 cx hw dX4_keepIfBetter_25 ?_
        refine lv_topl (fun y_22 _ => ?_)
        refine W.lcmp hx hb dX4_keepIfBetter_28 ?_
        refine lv_topi (fun x_23 _ => ?_)
        refine lv_if_ge (tgt := 36) hx hb dX4_keepIfBetter_29 (by decide) (fun c_24 => ?_) (fun c_24 => ?_)
        · refine lv_iconst (v := 0) hx hb dX4_keepIfBetter_36 (by decide) ?_
          refine lv_istore (lv' := [(4, .int 0), (0, .ref (a 8)), (1, .int pt), (2, .long lt)]) hx hb dX4_keepIfBetter_37 hl (by decide) rfl (fun ls hl => ?_)
          refine lv_iload hx hb dX4_keepIfBetter_39 (lv_at hl 0 rfl) ?_
          refine lv_if_eq (tgt := 99) hx hb dX4_keepIfBetter_41 (by decide) (fun _ => ?_) (fun q => absurd (by decide) q)
          exact retV cx hw hr hk dX4_keepIfBetter_99 ⟨hi, KK.rf, rfl, hta.2.2.2.2.1⟩
        · refine lv_iconst (v := 1) hx hb dX4_keepIfBetter_32 (by decide) ?_
          refine lv_goto (tgt := 37) hx hb dX4_keepIfBetter_33 (by decide) ?_
          refine lv_istore (lv' := [(4, .int 1), (0, .ref (a 8)), (1, .int pt), (2, .long lt)]) hx hb dX4_keepIfBetter_37 hl (by decide) rfl (fun ls hl => ?_)
          refine lv_iload hx hb dX4_keepIfBetter_39 (lv_at hl 0 rfl) ?_
          refine lv_if_eq (tgt := 99) hx hb dX4_keepIfBetter_41 (by decide) (fun q => absurd q (by decide)) (fun _ => ?_)
          refine lv_aload_n hx hb dX4_keepIfBetter_44 rfl (lv_at hl 1 rfl) ?_
          refine lv_iconst (v := 1) hx hb dX4_keepIfBetter_45 (by decide) ?_
          refine pf_X4_31 cx hw rfl rfl dX4_keepIfBetter_46 (fun H locs hw => ?_)
          have hi_27 : IV (up f 8 (upd (f 8) 7 1)) := IV.u_8_7 hi
          refine lv_aload_n hx hb dX4_keepIfBetter_49 rfl (lv_at hl 1 rfl) ?_
          refine lv_iload_n hx hb dX4_keepIfBetter_50 rfl (lv_at hl 2 rfl) ?_
          refine pf_X4_35 cx hw dX4_keepIfBetter_51 (fun H locs hw => ?_)
          have hi_28 : IV (up (up f 8 (upd (f 8) 7 1)) 8 (upd ((up f 8 (upd (f 8) 7 1)) 8) 8 pt)) := IV.u_8_8 hi_27
          refine lv_aload_n hx hb dX4_keepIfBetter_54 rfl (lv_at hl 1 rfl) ?_
          refine lv_lload_n hx hb dX4_keepIfBetter_55 rfl (lv_at hl 3 rfl) ?_
          refine pf_X4_38 cx hw dX4_keepIfBetter_56 (fun H locs hw => ?_)
          refine lv_iconst (v := 0) hx hb dX4_keepIfBetter_59 (by decide) ?_
          refine lv_istore (lv' := [(5, .int 0), (4, .int 1), (0, .ref (a 8)), (1, .int pt), (2, .long lt)]) hx hb dX4_keepIfBetter_60 hl (by decide) rfl (fun ls hl => ?_)
          have loop_29 : ∀ (k_29 : Nat) (v5_29 : Nat), v5_29 ≤ 4 → 4 + 1 - v5_29 < k_29 → ∀ (f_29 : FF) (u_29 : UU), IV f_29 → KK [8, 34] f f_29 → (f_29 8 4 = f 8 4) → (∀ j, j < v5_29 → ∃ q, q < 32 ∧ f_29 34 j = nI q) → ∀ (H : Heap) (locs : List Loc) (ls : Array Slot), Wd D a cI cZ s f_29 u_29 H locs → lv_has ls 6 [(5, .int (nI v5_29)), (4, .int 1), (0, .ref (a 8)), (1, .int pt), (2, .long lt)] → W p l e ({ frames := 1, cells := 0, slots := 0, locals := 12 } : Room) s m ([.ref (a 8), .int pt, .long lt] : List Value).toArray below meth c H locs 0 0 (MQ below (QV D a cI cZ (fun f2 u2 => IV f2 ∧ KK [8, 34] f f2 ∧ f2 8 4 = f 8 4 ∧ BPc f2 cn)) ([.ref (a 8), .int pt, .long lt] : List Value).toArray s 0 0 (AA a)) (F0 m 62 ls []) := by
            intro k_29
            induction k_29 with
            | zero => intros; omega
            | succ k_29 ih_29 =>
              intro v5_29  hb0_29  hm_29 f_29 u_29 hi_29 kk_29 h84 hbp H locs ls hw hl
              refine lv_iload hx hb dX4_keepIfBetter_62 (lv_at hl 0 rfl) ?_
              refine lv_aload_n hx hb dX4_keepIfBetter_64 rfl (lv_at hl 2 rfl) ?_
              refine gf_X4_21 cx hw dX4_keepIfBetter_65 ?_
              refine topc (y := (nI cn)) (h84.trans hta.1) ?_
              refine lv_icmp_ge (tgt := 99) hx hb dX4_keepIfBetter_68 (by decide) (fun c_30 => ?_) (fun c_30 => ?_)
              · have c_30 : cn ≤ v5_29 := (nI_leI (a := cn) (b := v5_29) (by omega) (by omega)).mp c_30
                exact retV cx hw hr hk dX4_keepIfBetter_99 ⟨hi_29, kk_29, h84, fun _ j hj => hbp j (by omega)⟩
              · have c_30 : ¬ cn ≤ v5_29 := fun z => c_30 ((nI_leI (a := cn) (b := v5_29) (by omega) (by omega)).mpr z)
                obtain ⟨t_31, p_31, ht_31, hp_31, et_31, ep_31⟩ := hta.2.2.2.2.2 v5_29 (by omega)
                refine lv_aload_n hx hb dX4_keepIfBetter_71 rfl (lv_at hl 2 rfl) ?_
                refine gf_X4_15 cx hw dX4_keepIfBetter_72 ?_
                refine lv_iload hx hb dX4_keepIfBetter_75 (lv_at hl 0 rfl) ?_
                refine lv_aload_n hx hb dX4_keepIfBetter_77 rfl (lv_at hl 2 rfl) ?_
                refine gf_X4_42 cx hw dX4_keepIfBetter_78 ?_
                refine gf_X4_111 cx hw dX4_keepIfBetter_81 ?_
                refine lv_aload_n hx hb dX4_keepIfBetter_84 rfl (lv_at hl 2 rfl) ?_
                refine gf_X4_11 cx hw dX4_keepIfBetter_85 ?_
                refine lv_iload hx hb dX4_keepIfBetter_88 (lv_at hl 0 rfl) ?_
                refine aldN 33 v5_29 cx hw rfl (by omega) (by decide) dX4_keepIfBetter_90 ?_
                refine topc (y := (nI t_31)) ((congrFun (kk_29.1 33 rfl) v5_29).trans et_31) ?_
                refine aldN 18 t_31 cx hw rfl (by omega) (by decide) dX4_keepIfBetter_91 ?_
                refine topc (y := (nI p_31)) ((congrFun (kk_29.1 18 rfl) t_31).trans ep_31) ?_
                refine astN 34 v5_29 cx hw rfl ws_34 (by omega) (by decide) dX4_keepIfBetter_92 (fun H locs hw => ?_)
                have hi_32 : IV (up f_29 34 (upd (f_29 34) v5_29 (nI p_31))) := IV.wr hi_29 34 trivial
                refine lv_iinc (v := (nI (v5_29 + 1))) (lv' := [(5, .int (nI (v5_29 + 1))), (4, .int 1), (0, .ref (a 8)), (1, .int pt), (2, .long lt)]) hx hb dX4_keepIfBetter_93 hl (k := 0) rfl (nI_add v5_29 1) (by decide) rfl (fun ls hl => ?_)
                refine lv_goto (tgt := 62) hx hb dX4_keepIfBetter_96 (by decide) ?_
                exact ih_29 (v5_29 + 1)  (by omega) (by omega) (up f_29 34 (upd (f_29 34) v5_29 (nI p_31))) u_29 hi_32 (KK.wr (by decide) (by decide) kk_29) h84 (bp_st hbp (by omega)) _ _ _ hw (lv_sub hl [0, 1, 2, 3, 4] rfl)
          exact loop_29 _ 0  (by omega)  (Nat.lt_succ_self _) (up (up f 8 (upd (f 8) 7 1)) 8 (upd ((up f 8 (upd (f 8) 7 1)) 8) 8 pt)) (upL u 8 9 lt) hi_28 (KK.wr (by decide) (by decide) (KK.wr (by decide) (by decide) KK.rf)) rfl (fun j h => absurd h (by omega)) _ _ _ hw (lv_sub hl [0, 1, 2, 3, 4] rfl)

set_option maxHeartbeats 4000000 in
set_option maxRecDepth 100000 in
theorem k_X4_tryAllFrom (l : Launch) (D : va_G) (a : Nat → Nat) (cI cZ : ClassId) : ∀ (d : Nat) (f : FF) (u : UU) (w : Nat) (pn : Int32) (ln : Int64) (cn : Nat) (hi : IV f) (hta : TAc f w cn) (hd : cn - w < d), KV l yX4_tryAllFrom cX4_tryAllFrom 11 none ({ frames := 14 + d, cells := 0, slots := 0, locals := 400 + 60 * d } : Room) D a cI cZ [.ref (a 8), .int (nI w), .int pn, .long ln] f u (fun f2 u2 => IV f2 ∧ KK [8, 14, 18, 34] f f2 ∧ TPc f f2 w cn) := by
  intro d
  induction d with
  | zero => intros; omega
  | succ d ih =>
    intro f u w pn ln cn hi hta hd
    refine KX.of (by decide) (Nat.le_of_ble_eq_true rfl) ?_
    intro p e s m below meth c cx hw hr hk ls hl
    have cx : Cx p s m _ c cX4_tryAllFrom RX4 11 D cI cZ := cx
    have hl : lv_has ls 11 [(0, .ref (a 8)), (1, .int (nI w)), (2, .int pn), (3, .long ln)] := hl
    have hx := cx.1.1
    have hb := cx.1.2.1
    have hA1 := hta.1
    have hc4 : cn ≤ 4 := hta.2.1
    have hwc : w ≤ cn := hta.2.2.1
    refine lv_aload_n hx hb dX4_tryAllFrom_0 rfl (lv_at hl 0 rfl) ?_
    refine gf_X4_31 cx hw dX4_tryAllFrom_1 ?_
    refine lv_topi (fun x_1 _ => ?_)
    refine lv_if_eq (tgt := 16) hx hb dX4_tryAllFrom_4 (by decide) (fun _ => ?_) (fun _ => ?_)
    · refine lv_iload_n hx hb dX4_tryAllFrom_16 rfl (lv_at hl 1 rfl) ?_
      refine lv_aload_n hx hb dX4_tryAllFrom_17 rfl (lv_at hl 0 rfl) ?_
      refine gf_X4_21 cx hw dX4_tryAllFrom_18 ?_
      refine topc (y := (nI cn)) hA1 ?_
      refine lv_icmp_lt (tgt := 34) hx hb dX4_tryAllFrom_21 (by decide) (fun c_3 => ?_) (fun c_3 => ?_)
      · have c_3 : w < cn := (nI_ltI (a := w) (b := cn) (by omega) (by omega)).mp c_3
        refine lv_aload_n hx hb dX4_tryAllFrom_34 rfl (lv_at hl 0 rfl) ?_
        refine gf_X4_11 cx hw dX4_tryAllFrom_35 ?_
        refine lv_iload_n hx hb dX4_tryAllFrom_38 rfl (lv_at hl 1 rfl) ?_
        refine aldN 33 w cx hw rfl (by omega) (by decide) dX4_tryAllFrom_39 ?_
        obtain ⟨n_4, hn_4, en_4⟩ := IV.a_33 hi (i := w) (by omega)
        refine topc (y := (nI n_4)) en_4 ?_
        refine lv_istore (lv' := [(5, .int (nI n_4)), (0, .ref (a 8)), (1, .int (nI w)), (2, .int pn), (3, .long ln)]) hx hb dX4_tryAllFrom_40 hl (by decide) rfl (fun ls hl => ?_)
        refine lv_iconst (v := 0) hx hb dX4_tryAllFrom_42 (by decide) ?_
        refine lv_istore (lv' := [(6, .int 0), (5, .int (nI n_4)), (0, .ref (a 8)), (1, .int (nI w)), (2, .int pn), (3, .long ln)]) hx hb dX4_tryAllFrom_43 hl (by decide) rfl (fun ls hl => ?_)
        have loop_5 : ∀ (k_5 : Nat) (v6_5 : Nat), v6_5 ≤ 10 → 10 + 1 - v6_5 < k_5 → ∀ (f_5 : FF) (u_5 : UU), IV f_5 → KK [8, 14, 18, 34] f f_5 → (TPc f f_5 w cn) → ∀ (H : Heap) (locs : List Loc) (ls : Array Slot), Wd D a cI cZ s f_5 u_5 H locs → lv_has ls 11 [(6, .int (nI v6_5)), (5, .int (nI n_4)), (0, .ref (a 8)), (1, .int (nI w)), (2, .int pn), (3, .long ln)] → W p l e ({ frames := 14 + (d + 1), cells := 0, slots := 0, locals := 400 + 60 * (d + 1) } : Room) s m ([.ref (a 8), .int (nI w), .int pn, .long ln] : List Value).toArray below meth c H locs 0 0 (MQ below (QV D a cI cZ (fun f2 u2 => IV f2 ∧ KK [8, 14, 18, 34] f f2 ∧ TPc f f2 w cn)) ([.ref (a 8), .int (nI w), .int pn, .long ln] : List Value).toArray s 0 0 (AA a)) (F0 m 45 ls []) := by
          intro k_5
          induction k_5 with
          | zero => intros; omega
          | succ k_5 ih_5 =>
            intro v6_5  hb0_5  hm_5 f_5 u_5 hi_5 kk_5 htp H locs ls hw hl
            refine lv_iload hx hb dX4_tryAllFrom_45 (lv_at hl 0 rfl) ?_
            refine lv_aload_n hx hb dX4_tryAllFrom_47 rfl (lv_at hl 2 rfl) ?_
            refine gf_X4_25 cx hw dX4_tryAllFrom_48 ?_
            obtain ⟨n_6, hn_6, en_6⟩ := IV.s_8_5 hi_5
            refine topc (y := (nI n_6)) en_6 ?_
            refine lv_icmp_ge (tgt := 167) hx hb dX4_tryAllFrom_51 (by decide) (fun c_7 => ?_) (fun c_7 => ?_)
            · have c_7 : n_6 ≤ v6_5 := (nI_leI (a := n_6) (b := v6_5) (by omega) (by omega)).mp c_7
              exact retV cx hw hr hk dX4_tryAllFrom_167 ⟨hi_5, kk_5, htp⟩
            · have c_7 : ¬ n_6 ≤ v6_5 := fun z => c_7 ((nI_leI (a := n_6) (b := v6_5) (by omega) (by omega)).mpr z)
              refine lv_aload_n hx hb dX4_tryAllFrom_54 rfl (lv_at hl 2 rfl) ?_
              refine gf_X4_18 cx hw dX4_tryAllFrom_55 ?_
              refine lv_iload hx hb dX4_tryAllFrom_58 (lv_at hl 0 rfl) ?_
              refine aldN 35 v6_5 cx hw rfl (by omega) (by decide) dX4_tryAllFrom_60 ?_
              obtain ⟨n_8, hn_8, en_8⟩ := IV.a_35 hi_5 (i := v6_5) (by omega)
              refine topc (y := (nI n_8)) en_8 ?_
              refine lv_istore (lv' := [(7, .int (nI n_8)), (6, .int (nI v6_5)), (5, .int (nI n_4)), (0, .ref (a 8)), (1, .int (nI w)), (2, .int pn), (3, .long ln)]) hx hb dX4_tryAllFrom_61 hl (by decide) rfl (fun ls hl => ?_)
              refine lv_aload_n hx hb dX4_tryAllFrom_63 rfl (lv_at hl 3 rfl) ?_
              refine gf_X4_42 cx hw dX4_tryAllFrom_64 ?_
              refine lv_iload hx hb dX4_tryAllFrom_67 (lv_at hl 2 rfl) ?_
              refine lv_iload hx hb dX4_tryAllFrom_69 (lv_at hl 0 rfl) ?_
              refine goI hw (runVW (k := 1) (As := [.int (nI n_4), .int (nI n_8)]) (rest := []) cx hw (k_X1_hindrance l D a cI cZ f_5 u_5 n_4 n_8  hi_5 (by omega) (by omega)) lk_X4_97 rfl rfl ⟨by show 3 + 1 ≤ 14 + (d + 1); omega, by show 8 + (5 + 11) + 61 ≤ 400 + 60 * (d + 1); omega⟩ ⟨rfl, rfl⟩ ⟨Nat.zero_le _, Nat.zero_le _⟩ rfl rfl hl.1 (Nat.le_of_ble_eq_true rfl) dX4_tryAllFrom_71) (fun r_9 f_9 u_9 H locs hp_9 hw => ?_)
              obtain ⟨rfl, rfl⟩ := hp_9
              refine lv_if_ne (tgt := 161) hx hb dX4_tryAllFrom_74 (by decide) (fun _ => ?_) (fun _ => ?_)
              · refine lv_iinc (v := (nI (v6_5 + 1))) (lv' := [(6, .int (nI (v6_5 + 1))), (7, .int (nI n_8)), (5, .int (nI n_4)), (0, .ref (a 8)), (1, .int (nI w)), (2, .int pn), (3, .long ln)]) hx hb dX4_tryAllFrom_161 hl (k := 1) rfl (nI_add v6_5 1) (by decide) rfl (fun ls hl => ?_)
                refine lv_goto (tgt := 45) hx hb dX4_tryAllFrom_164 (by decide) ?_
                exact ih_5 (v6_5 + 1)  (by omega) (by omega) f_5 u_5 hi_5 kk_5 htp _ _ _ hw (lv_sub hl [0, 2, 3, 4, 5, 6] rfl)
              · refine lv_iload hx hb dX4_tryAllFrom_77 (lv_at hl 0 rfl) ?_
                refine lv_bipush (v := 8) hx hb dX4_tryAllFrom_79 (by decide) ?_
                refine lv_idiv hx hb dX4_tryAllFrom_81 (by decide) ?_
                refine topc (y := (nI (n_8 / 8))) (pk_div (a := n_8) (d := 8) (by omega) (by decide) (by decide)) ?_
                refine lv_istore (lv' := [(8, .int (nI (n_8 / 8))), (7, .int (nI n_8)), (6, .int (nI v6_5)), (5, .int (nI n_4)), (0, .ref (a 8)), (1, .int (nI w)), (2, .int pn), (3, .long ln)]) hx hb dX4_tryAllFrom_82 hl (by decide) rfl (fun ls hl => ?_)
                refine lv_iload_n hx hb dX4_tryAllFrom_84 rfl (lv_at hl 6 rfl) ?_
                refine lv_aload_n hx hb dX4_tryAllFrom_85 rfl (lv_at hl 4 rfl) ?_
                refine gf_X4_42 cx hw dX4_tryAllFrom_86 ?_
                refine lv_iload hx hb dX4_tryAllFrom_89 (lv_at hl 0 rfl) ?_
                refine lv_bipush (v := 30) hx hb dX4_tryAllFrom_91 (by decide) ?_
                refine goI hw (runVW (k := 1) (As := [.int (nI (n_8 / 8)), .int 30]) (rest := [.int pn]) cx hw (k_X1_pushedInHold l D a cI cZ f_5 u_5 (n_8 / 8) 30  hi_5 (by omega)) lk_X4_100 rfl rfl ⟨by show 2 + 1 ≤ 14 + (d + 1); omega, by show 8 + (8 + 11) + 33 ≤ 400 + 60 * (d + 1); omega⟩ ⟨rfl, rfl⟩ ⟨Nat.zero_le _, Nat.zero_le _⟩ rfl rfl hl.1 (Nat.le_of_ble_eq_true rfl) dX4_tryAllFrom_93) (fun r_11 f_11 u_11 H locs hp_11 hw => ?_)
                obtain ⟨rfl, rfl⟩ := hp_11
                refine lv_isub hx hb dX4_tryAllFrom_96 ?_
                refine lv_topi (fun x_12 _ => ?_)
                refine lv_istore (lv' := [(9, .int x_12), (8, .int (nI (n_8 / 8))), (7, .int (nI n_8)), (6, .int (nI v6_5)), (5, .int (nI n_4)), (0, .ref (a 8)), (1, .int (nI w)), (2, .int pn), (3, .long ln)]) hx hb dX4_tryAllFrom_97 hl (by decide) rfl (fun ls hl => ?_)
                refine lv_aload_n hx hb dX4_tryAllFrom_99 rfl (lv_at hl 5 rfl) ?_
                refine gf_X4_42 cx hw dX4_tryAllFrom_100 ?_
                refine lv_iload hx hb dX4_tryAllFrom_103 (lv_at hl 4 rfl) ?_
                refine lv_iload hx hb dX4_tryAllFrom_105 (lv_at hl 2 rfl) ?_
                refine goV hw (runVW (k := 1) (As := [.int (nI n_4), .int (nI n_8)]) (rest := []) cx hw (k_X1_putIn l D a cI cZ f_5 u_5 n_4 n_8  hi_5 (by omega) (by omega)) lk_X4_83 rfl rfl ⟨by show 1 + 1 ≤ 14 + (d + 1); omega, by show 8 + (3 + 11) + 12 ≤ 400 + 60 * (d + 1); omega⟩ ⟨rfl, rfl⟩ ⟨Nat.zero_le _, Nat.zero_le _⟩ rfl rfl hl.1 (Nat.le_of_ble_eq_true rfl) dX4_tryAllFrom_107) (fun f_13 u_13 H locs hp_13 hw => ?_)
                have hi_14 : IV (putC f_5 n_4 n_8) := IV.wputC hi_5 (by omega) (by omega)
                obtain ⟨rfl, rfl⟩ := hp_13
                refine lv_iload hx hb dX4_tryAllFrom_110 (lv_at hl 0 rfl) ?_
                refine lv_aload_n hx hb dX4_tryAllFrom_112 rfl (lv_at hl 5 rfl) ?_
                refine gf_X4_42 cx hw dX4_tryAllFrom_113 ?_
                refine lv_iload hx hb dX4_tryAllFrom_116 (lv_at hl 1 rfl) ?_
                refine lv_bipush (v := 30) hx hb dX4_tryAllFrom_118 (by decide) ?_
                refine goI hw (runVW (k := 1) (As := [.int (nI (n_8 / 8)), .int 30]) (rest := [.int x_12]) cx hw (k_X1_pushedInHold l D a cI cZ (putC f_5 n_4 n_8) u_5 (n_8 / 8) 30  hi_14 (by omega)) lk_X4_100 rfl rfl ⟨by show 2 + 1 ≤ 14 + (d + 1); omega, by show 8 + (8 + 11) + 33 ≤ 400 + 60 * (d + 1); omega⟩ ⟨rfl, rfl⟩ ⟨Nat.zero_le _, Nat.zero_le _⟩ rfl rfl hl.1 (Nat.le_of_ble_eq_true rfl) dX4_tryAllFrom_120) (fun r_15 f_15 u_15 H locs hp_15 hw => ?_)
                obtain ⟨rfl, rfl⟩ := hp_15
                refine lv_iadd hx hb dX4_tryAllFrom_123 ?_
                refine lv_topi (fun x_16 _ => ?_)
                refine lv_istore (lv' := [(10, .int x_16), (9, .int x_12), (8, .int (nI (n_8 / 8))), (7, .int (nI n_8)), (6, .int (nI v6_5)), (5, .int (nI n_4)), (0, .ref (a 8)), (1, .int (nI w)), (2, .int pn), (3, .long ln)]) hx hb dX4_tryAllFrom_124 hl (by decide) rfl (fun ls hl => ?_)
                refine lv_aload_n hx hb dX4_tryAllFrom_126 rfl (lv_at hl 6 rfl) ?_
                refine lv_iload_n hx hb dX4_tryAllFrom_127 rfl (lv_at hl 7 rfl) ?_
                refine lv_iconst (v := 1) hx hb dX4_tryAllFrom_128 (by decide) ?_
                refine lv_iadd hx hb dX4_tryAllFrom_129 ?_
                refine topc (y := (nI (w + 1))) (nI_add w 1) ?_
                refine lv_iload hx hb dX4_tryAllFrom_130 (lv_at hl 0 rfl) ?_
                refine lv_lload_n hx hb dX4_tryAllFrom_132 rfl (lv_at hl 9 rfl) ?_
                refine lv_aload_n hx hb dX4_tryAllFrom_133 rfl (lv_at hl 6 rfl) ?_
                refine gf_X4_42 cx hw dX4_tryAllFrom_134 ?_
                refine lv_iload hx hb dX4_tryAllFrom_137 (lv_at hl 5 rfl) ?_
                refine lv_iload hx hb dX4_tryAllFrom_139 (lv_at hl 3 rfl) ?_
                refine lv_aload_n hx hb dX4_tryAllFrom_141 rfl (lv_at hl 6 rfl) ?_
                refine gf_X4_28 cx hw dX4_tryAllFrom_142 ?_
                refine lv_topi (fun x_17 _ => ?_)
                refine goL hw (runVW (k := 1) (As := [.int (nI n_4), .int (nI n_8), .int x_17]) (rest := [.long ln, .int x_16, .int (nI (w + 1)), .ref (a 8)]) cx hw (k_X1_leanAt l D a cI cZ (putC f_5 n_4 n_8) u_5 n_4 n_8 x_17  hi_14 (by omega) (by omega)) lk_X4_103 rfl rfl ⟨by show 1 + 1 ≤ 14 + (d + 1); omega, by show 8 + (4 + 11) + 12 ≤ 400 + 60 * (d + 1); omega⟩ ⟨rfl, rfl⟩ ⟨Nat.zero_le _, Nat.zero_le _⟩ rfl rfl hl.1 (Nat.le_of_ble_eq_true rfl) dX4_tryAllFrom_145) (fun r_18 f_18 u_18 H locs hp_18 hw => ?_)
                obtain ⟨rfl, rfl⟩ := hp_18
                refine lv_ladd hx hb dX4_tryAllFrom_148 ?_
                refine lv_topl (fun y_19 _ => ?_)
                refine goV hw (runVW (k := 8) (As := [.int (nI (w + 1)), .int x_16, .long y_19]) (rest := []) cx hw (ih (putC f_5 n_4 n_8) u_5 (w + 1) x_16 y_19 cn hi_14 (TAc_dn hta htp (by omega) (by omega) (by omega) ((congrFun (kk_5.1 33 rfl) w).trans en_4)) (by omega)) lk_X4_79 rfl rfl ⟨by show (14 + d) + 1 ≤ 14 + (d + 1); omega, by show 8 + (11 + 11) + (400 + 60 * d) ≤ 400 + 60 * (d + 1); omega⟩ ⟨rfl, rfl⟩ ⟨Nat.zero_le _, Nat.zero_le _⟩ rfl rfl hl.1 (Nat.le_of_ble_eq_true rfl) dX4_tryAllFrom_149) (fun f_20 u_20 H locs hp_20 hw => ?_)
                obtain ⟨hi_20, kk_20, ex0_20⟩ := hp_20
                refine lv_aload_n hx hb dX4_tryAllFrom_152 rfl (lv_at hl 6 rfl) ?_
                refine gf_X4_42 cx hw dX4_tryAllFrom_153 ?_
                refine lv_iload hx hb dX4_tryAllFrom_156 (lv_at hl 5 rfl) ?_
                refine goV hw (runVW (k := 1) (As := [.int (nI n_4)]) (rest := []) cx hw (k_X1_takeOut l D a cI cZ f_20 u_20 n_4 n_8 hi_20 (by omega) (by omega) (TPc_at hta htp (by omega) (by omega) ((congrFun (kk_5.1 33 rfl) w).trans en_4) ex0_20)) lk_X4_107 rfl rfl ⟨by show 1 + 1 ≤ 14 + (d + 1); omega, by show 8 + (3 + 11) + 12 ≤ 400 + 60 * (d + 1); omega⟩ ⟨rfl, rfl⟩ ⟨Nat.zero_le _, Nat.zero_le _⟩ rfl rfl hl.1 (Nat.le_of_ble_eq_true rfl) dX4_tryAllFrom_158) (fun f_21 u_21 H locs hp_21 hw => ?_)
                have hi_22 : IV (takeC f_20 n_4 n_8) := IV.wtakeC hi_20
                obtain ⟨rfl, rfl⟩ := hp_21
                refine lv_iinc (v := (nI (v6_5 + 1))) (lv' := [(6, .int (nI (v6_5 + 1))), (10, .int x_16), (9, .int x_12), (8, .int (nI (n_8 / 8))), (7, .int (nI n_8)), (5, .int (nI n_4)), (0, .ref (a 8)), (1, .int (nI w)), (2, .int pn), (3, .long ln)]) hx hb dX4_tryAllFrom_161 hl (k := 4) rfl (nI_add v6_5 1) (by decide) rfl (fun ls hl => ?_)
                refine lv_goto (tgt := 45) hx hb dX4_tryAllFrom_164 (by decide) ?_
                exact ih_5 (v6_5 + 1)  (by omega) (by omega) (takeC f_20 n_4 n_8) u_20 hi_22 (KK.wtakeC (by decide) (KK.tr (KK.wputC (by decide) kk_5) (kk_20.mono (by decide)))) (TPc_up hta htp (by omega) ((congrFun (kk_5.1 33 rfl) w).trans en_4) ex0_20) _ _ _ hw (lv_sub hl [0, 5, 6, 7, 8, 9] rfl)
        exact loop_5 _ 0  (by omega)  (Nat.lt_succ_self _) f u hi KK.rf (TPc_rf hta) _ _ _ hw (lv_sub hl [0, 1, 2, 3, 4, 5] rfl)
      · have c_3 : ¬ w < cn := fun z => c_3 ((nI_ltI (a := w) (b := cn) (by omega) (by omega)).mpr z)
        refine lv_aload_n hx hb dX4_tryAllFrom_24 rfl (lv_at hl 0 rfl) ?_
        refine lv_iload_n hx hb dX4_tryAllFrom_25 rfl (lv_at hl 2 rfl) ?_
        refine lv_lload_n hx hb dX4_tryAllFrom_26 rfl (lv_at hl 3 rfl) ?_
        refine jAbsL (rest := [.int pn, .ref (a 8)]) cx hl.1 mm_3_222 (by show 1 ≤ 14 + (d + 1); omega) (Nat.le_trans (Nat.le_of_ble_eq_true rfl : _ ≤ 21) (by show 21 ≤ 400 + 60 * (d + 1); omega)) ⟨Nat.zero_le _, Nat.zero_le _⟩ dX4_tryAllFrom_27 (fun y_23 => ?_)
        refine goV hw (runVW (k := 8) (As := [.int pn, .long y_23]) (rest := []) cx hw (k_X4_keepIfBetter l D a cI cZ f u pn y_23 cn hi (show TAc f cn cn from by have e : w = cn := (by omega); rw [e] at hta; exact hta)) lk_X4_93 rfl rfl ⟨by show 1 + 1 ≤ 14 + (d + 1); omega, by show 8 + (6 + 11) + 12 ≤ 400 + 60 * (d + 1); omega⟩ ⟨rfl, rfl⟩ ⟨Nat.zero_le _, Nat.zero_le _⟩ rfl rfl hl.1 (Nat.le_of_ble_eq_true rfl) dX4_tryAllFrom_30) (fun f_24 u_24 H locs hp_24 hw => ?_)
        obtain ⟨hi_24, kk_24, ex0_24, ex1_24⟩ := hp_24
        exact retV cx hw hr hk dX4_tryAllFrom_33 ⟨hi_24, (KK.tr KK.rf (kk_24.mono (by decide))), ex0_24, ex1_24, kk_24.1 33 rfl, fun t _ => congrFun (kk_24.1 18 rfl) t⟩
    · refine lv_iload_n hx hb dX4_tryAllFrom_7 rfl (lv_at hl 2 rfl) ?_
      refine lv_aload_n hx hb dX4_tryAllFrom_8 rfl (lv_at hl 0 rfl) ?_
      refine gf_X4_35 cx hw dX4_tryAllFrom_9 ?_
      refine lv_topi (fun x_25 _ => ?_)
      refine lv_icmp_le (tgt := 16) hx hb dX4_tryAllFrom_12 (by decide) (fun _ => ?_) (fun _ => ?_)
      · refine lv_iload_n hx hb dX4_tryAllFrom_16 rfl (lv_at hl 1 rfl) ?_
        refine lv_aload_n hx hb dX4_tryAllFrom_17 rfl (lv_at hl 0 rfl) ?_
        refine gf_X4_21 cx hw dX4_tryAllFrom_18 ?_
        refine topc (y := (nI cn)) hA1 ?_
        refine lv_icmp_lt (tgt := 34) hx hb dX4_tryAllFrom_21 (by decide) (fun c_27 => ?_) (fun c_27 => ?_)
        · have c_27 : w < cn := (nI_ltI (a := w) (b := cn) (by omega) (by omega)).mp c_27
          refine lv_aload_n hx hb dX4_tryAllFrom_34 rfl (lv_at hl 0 rfl) ?_
          refine gf_X4_11 cx hw dX4_tryAllFrom_35 ?_
          refine lv_iload_n hx hb dX4_tryAllFrom_38 rfl (lv_at hl 1 rfl) ?_
          refine aldN 33 w cx hw rfl (by omega) (by decide) dX4_tryAllFrom_39 ?_
          obtain ⟨n_28, hn_28, en_28⟩ := IV.a_33 hi (i := w) (by omega)
          refine topc (y := (nI n_28)) en_28 ?_
          refine lv_istore (lv' := [(5, .int (nI n_28)), (0, .ref (a 8)), (1, .int (nI w)), (2, .int pn), (3, .long ln)]) hx hb dX4_tryAllFrom_40 hl (by decide) rfl (fun ls hl => ?_)
          refine lv_iconst (v := 0) hx hb dX4_tryAllFrom_42 (by decide) ?_
          refine lv_istore (lv' := [(6, .int 0), (5, .int (nI n_28)), (0, .ref (a 8)), (1, .int (nI w)), (2, .int pn), (3, .long ln)]) hx hb dX4_tryAllFrom_43 hl (by decide) rfl (fun ls hl => ?_)
          have loop_29 : ∀ (k_29 : Nat) (v6_29 : Nat), v6_29 ≤ 10 → 10 + 1 - v6_29 < k_29 → ∀ (f_29 : FF) (u_29 : UU), IV f_29 → KK [8, 14, 18, 34] f f_29 → (TPc f f_29 w cn) → ∀ (H : Heap) (locs : List Loc) (ls : Array Slot), Wd D a cI cZ s f_29 u_29 H locs → lv_has ls 11 [(6, .int (nI v6_29)), (5, .int (nI n_28)), (0, .ref (a 8)), (1, .int (nI w)), (2, .int pn), (3, .long ln)] → W p l e ({ frames := 14 + (d + 1), cells := 0, slots := 0, locals := 400 + 60 * (d + 1) } : Room) s m ([.ref (a 8), .int (nI w), .int pn, .long ln] : List Value).toArray below meth c H locs 0 0 (MQ below (QV D a cI cZ (fun f2 u2 => IV f2 ∧ KK [8, 14, 18, 34] f f2 ∧ TPc f f2 w cn)) ([.ref (a 8), .int (nI w), .int pn, .long ln] : List Value).toArray s 0 0 (AA a)) (F0 m 45 ls []) := by
            intro k_29
            induction k_29 with
            | zero => intros; omega
            | succ k_29 ih_29 =>
              intro v6_29  hb0_29  hm_29 f_29 u_29 hi_29 kk_29 htp H locs ls hw hl
              refine lv_iload hx hb dX4_tryAllFrom_45 (lv_at hl 0 rfl) ?_
              refine lv_aload_n hx hb dX4_tryAllFrom_47 rfl (lv_at hl 2 rfl) ?_
              refine gf_X4_25 cx hw dX4_tryAllFrom_48 ?_
              obtain ⟨n_30, hn_30, en_30⟩ := IV.s_8_5 hi_29
              refine topc (y := (nI n_30)) en_30 ?_
              refine lv_icmp_ge (tgt := 167) hx hb dX4_tryAllFrom_51 (by decide) (fun c_31 => ?_) (fun c_31 => ?_)
              · have c_31 : n_30 ≤ v6_29 := (nI_leI (a := n_30) (b := v6_29) (by omega) (by omega)).mp c_31
                exact retV cx hw hr hk dX4_tryAllFrom_167 ⟨hi_29, kk_29, htp⟩
              · have c_31 : ¬ n_30 ≤ v6_29 := fun z => c_31 ((nI_leI (a := n_30) (b := v6_29) (by omega) (by omega)).mpr z)
                refine lv_aload_n hx hb dX4_tryAllFrom_54 rfl (lv_at hl 2 rfl) ?_
                refine gf_X4_18 cx hw dX4_tryAllFrom_55 ?_
                refine lv_iload hx hb dX4_tryAllFrom_58 (lv_at hl 0 rfl) ?_
                refine aldN 35 v6_29 cx hw rfl (by omega) (by decide) dX4_tryAllFrom_60 ?_
                obtain ⟨n_32, hn_32, en_32⟩ := IV.a_35 hi_29 (i := v6_29) (by omega)
                refine topc (y := (nI n_32)) en_32 ?_
                refine lv_istore (lv' := [(7, .int (nI n_32)), (6, .int (nI v6_29)), (5, .int (nI n_28)), (0, .ref (a 8)), (1, .int (nI w)), (2, .int pn), (3, .long ln)]) hx hb dX4_tryAllFrom_61 hl (by decide) rfl (fun ls hl => ?_)
                refine lv_aload_n hx hb dX4_tryAllFrom_63 rfl (lv_at hl 3 rfl) ?_
                refine gf_X4_42 cx hw dX4_tryAllFrom_64 ?_
                refine lv_iload hx hb dX4_tryAllFrom_67 (lv_at hl 2 rfl) ?_
                refine lv_iload hx hb dX4_tryAllFrom_69 (lv_at hl 0 rfl) ?_
                refine goI hw (runVW (k := 1) (As := [.int (nI n_28), .int (nI n_32)]) (rest := []) cx hw (k_X1_hindrance l D a cI cZ f_29 u_29 n_28 n_32  hi_29 (by omega) (by omega)) lk_X4_97 rfl rfl ⟨by show 3 + 1 ≤ 14 + (d + 1); omega, by show 8 + (5 + 11) + 61 ≤ 400 + 60 * (d + 1); omega⟩ ⟨rfl, rfl⟩ ⟨Nat.zero_le _, Nat.zero_le _⟩ rfl rfl hl.1 (Nat.le_of_ble_eq_true rfl) dX4_tryAllFrom_71) (fun r_33 f_33 u_33 H locs hp_33 hw => ?_)
                obtain ⟨rfl, rfl⟩ := hp_33
                refine lv_if_ne (tgt := 161) hx hb dX4_tryAllFrom_74 (by decide) (fun _ => ?_) (fun _ => ?_)
                · refine lv_iinc (v := (nI (v6_29 + 1))) (lv' := [(6, .int (nI (v6_29 + 1))), (7, .int (nI n_32)), (5, .int (nI n_28)), (0, .ref (a 8)), (1, .int (nI w)), (2, .int pn), (3, .long ln)]) hx hb dX4_tryAllFrom_161 hl (k := 1) rfl (nI_add v6_29 1) (by decide) rfl (fun ls hl => ?_)
                  refine lv_goto (tgt := 45) hx hb dX4_tryAllFrom_164 (by decide) ?_
                  exact ih_29 (v6_29 + 1)  (by omega) (by omega) f_29 u_29 hi_29 kk_29 htp _ _ _ hw (lv_sub hl [0, 2, 3, 4, 5, 6] rfl)
                · refine lv_iload hx hb dX4_tryAllFrom_77 (lv_at hl 0 rfl) ?_
                  refine lv_bipush (v := 8) hx hb dX4_tryAllFrom_79 (by decide) ?_
                  refine lv_idiv hx hb dX4_tryAllFrom_81 (by decide) ?_
                  refine topc (y := (nI (n_32 / 8))) (pk_div (a := n_32) (d := 8) (by omega) (by decide) (by decide)) ?_
                  refine lv_istore (lv' := [(8, .int (nI (n_32 / 8))), (7, .int (nI n_32)), (6, .int (nI v6_29)), (5, .int (nI n_28)), (0, .ref (a 8)), (1, .int (nI w)), (2, .int pn), (3, .long ln)]) hx hb dX4_tryAllFrom_82 hl (by decide) rfl (fun ls hl => ?_)
                  refine lv_iload_n hx hb dX4_tryAllFrom_84 rfl (lv_at hl 6 rfl) ?_
                  refine lv_aload_n hx hb dX4_tryAllFrom_85 rfl (lv_at hl 4 rfl) ?_
                  refine gf_X4_42 cx hw dX4_tryAllFrom_86 ?_
                  refine lv_iload hx hb dX4_tryAllFrom_89 (lv_at hl 0 rfl) ?_
                  refine lv_bipush (v := 30) hx hb dX4_tryAllFrom_91 (by decide) ?_
                  refine goI hw (runVW (k := 1) (As := [.int (nI (n_32 / 8)), .int 30]) (rest := [.int pn]) cx hw (k_X1_pushedInHold l D a cI cZ f_29 u_29 (n_32 / 8) 30  hi_29 (by omega)) lk_X4_100 rfl rfl ⟨by show 2 + 1 ≤ 14 + (d + 1); omega, by show 8 + (8 + 11) + 33 ≤ 400 + 60 * (d + 1); omega⟩ ⟨rfl, rfl⟩ ⟨Nat.zero_le _, Nat.zero_le _⟩ rfl rfl hl.1 (Nat.le_of_ble_eq_true rfl) dX4_tryAllFrom_93) (fun r_35 f_35 u_35 H locs hp_35 hw => ?_)
                  obtain ⟨rfl, rfl⟩ := hp_35
                  refine lv_isub hx hb dX4_tryAllFrom_96 ?_
                  refine lv_topi (fun x_36 _ => ?_)
                  refine lv_istore (lv' := [(9, .int x_36), (8, .int (nI (n_32 / 8))), (7, .int (nI n_32)), (6, .int (nI v6_29)), (5, .int (nI n_28)), (0, .ref (a 8)), (1, .int (nI w)), (2, .int pn), (3, .long ln)]) hx hb dX4_tryAllFrom_97 hl (by decide) rfl (fun ls hl => ?_)
                  refine lv_aload_n hx hb dX4_tryAllFrom_99 rfl (lv_at hl 5 rfl) ?_
                  refine gf_X4_42 cx hw dX4_tryAllFrom_100 ?_
                  refine lv_iload hx hb dX4_tryAllFrom_103 (lv_at hl 4 rfl) ?_
                  refine lv_iload hx hb dX4_tryAllFrom_105 (lv_at hl 2 rfl) ?_
                  refine goV hw (runVW (k := 1) (As := [.int (nI n_28), .int (nI n_32)]) (rest := []) cx hw (k_X1_putIn l D a cI cZ f_29 u_29 n_28 n_32  hi_29 (by omega) (by omega)) lk_X4_83 rfl rfl ⟨by show 1 + 1 ≤ 14 + (d + 1); omega, by show 8 + (3 + 11) + 12 ≤ 400 + 60 * (d + 1); omega⟩ ⟨rfl, rfl⟩ ⟨Nat.zero_le _, Nat.zero_le _⟩ rfl rfl hl.1 (Nat.le_of_ble_eq_true rfl) dX4_tryAllFrom_107) (fun f_37 u_37 H locs hp_37 hw => ?_)
                  have hi_38 : IV (putC f_29 n_28 n_32) := IV.wputC hi_29 (by omega) (by omega)
                  obtain ⟨rfl, rfl⟩ := hp_37
                  refine lv_iload hx hb dX4_tryAllFrom_110 (lv_at hl 0 rfl) ?_
                  refine lv_aload_n hx hb dX4_tryAllFrom_112 rfl (lv_at hl 5 rfl) ?_
                  refine gf_X4_42 cx hw dX4_tryAllFrom_113 ?_
                  refine lv_iload hx hb dX4_tryAllFrom_116 (lv_at hl 1 rfl) ?_
                  refine lv_bipush (v := 30) hx hb dX4_tryAllFrom_118 (by decide) ?_
                  refine goI hw (runVW (k := 1) (As := [.int (nI (n_32 / 8)), .int 30]) (rest := [.int x_36]) cx hw (k_X1_pushedInHold l D a cI cZ (putC f_29 n_28 n_32) u_29 (n_32 / 8) 30  hi_38 (by omega)) lk_X4_100 rfl rfl ⟨by show 2 + 1 ≤ 14 + (d + 1); omega, by show 8 + (8 + 11) + 33 ≤ 400 + 60 * (d + 1); omega⟩ ⟨rfl, rfl⟩ ⟨Nat.zero_le _, Nat.zero_le _⟩ rfl rfl hl.1 (Nat.le_of_ble_eq_true rfl) dX4_tryAllFrom_120) (fun r_39 f_39 u_39 H locs hp_39 hw => ?_)
                  obtain ⟨rfl, rfl⟩ := hp_39
                  refine lv_iadd hx hb dX4_tryAllFrom_123 ?_
                  refine lv_topi (fun x_40 _ => ?_)
                  refine lv_istore (lv' := [(10, .int x_40), (9, .int x_36), (8, .int (nI (n_32 / 8))), (7, .int (nI n_32)), (6, .int (nI v6_29)), (5, .int (nI n_28)), (0, .ref (a 8)), (1, .int (nI w)), (2, .int pn), (3, .long ln)]) hx hb dX4_tryAllFrom_124 hl (by decide) rfl (fun ls hl => ?_)
                  refine lv_aload_n hx hb dX4_tryAllFrom_126 rfl (lv_at hl 6 rfl) ?_
                  refine lv_iload_n hx hb dX4_tryAllFrom_127 rfl (lv_at hl 7 rfl) ?_
                  refine lv_iconst (v := 1) hx hb dX4_tryAllFrom_128 (by decide) ?_
                  refine lv_iadd hx hb dX4_tryAllFrom_129 ?_
                  refine topc (y := (nI (w + 1))) (nI_add w 1) ?_
                  refine lv_iload hx hb dX4_tryAllFrom_130 (lv_at hl 0 rfl) ?_
                  refine lv_lload_n hx hb dX4_tryAllFrom_132 rfl (lv_at hl 9 rfl) ?_
                  refine lv_aload_n hx hb dX4_tryAllFrom_133 rfl (lv_at hl 6 rfl) ?_
                  refine gf_X4_42 cx hw dX4_tryAllFrom_134 ?_
                  refine lv_iload hx hb dX4_tryAllFrom_137 (lv_at hl 5 rfl) ?_
                  refine lv_iload hx hb dX4_tryAllFrom_139 (lv_at hl 3 rfl) ?_
                  refine lv_aload_n hx hb dX4_tryAllFrom_141 rfl (lv_at hl 6 rfl) ?_
                  refine gf_X4_28 cx hw dX4_tryAllFrom_142 ?_
                  refine lv_topi (fun x_41 _ => ?_)
                  refine goL hw (runVW (k := 1) (As := [.int (nI n_28), .int (nI n_32), .int x_41]) (rest := [.long ln, .int x_40, .int (nI (w + 1)), .ref (a 8)]) cx hw (k_X1_leanAt l D a cI cZ (putC f_29 n_28 n_32) u_29 n_28 n_32 x_41  hi_38 (by omega) (by omega)) lk_X4_103 rfl rfl ⟨by show 1 + 1 ≤ 14 + (d + 1); omega, by show 8 + (4 + 11) + 12 ≤ 400 + 60 * (d + 1); omega⟩ ⟨rfl, rfl⟩ ⟨Nat.zero_le _, Nat.zero_le _⟩ rfl rfl hl.1 (Nat.le_of_ble_eq_true rfl) dX4_tryAllFrom_145) (fun r_42 f_42 u_42 H locs hp_42 hw => ?_)
                  obtain ⟨rfl, rfl⟩ := hp_42
                  refine lv_ladd hx hb dX4_tryAllFrom_148 ?_
                  refine lv_topl (fun y_43 _ => ?_)
                  refine goV hw (runVW (k := 8) (As := [.int (nI (w + 1)), .int x_40, .long y_43]) (rest := []) cx hw (ih (putC f_29 n_28 n_32) u_29 (w + 1) x_40 y_43 cn hi_38 (TAc_dn hta htp (by omega) (by omega) (by omega) ((congrFun (kk_29.1 33 rfl) w).trans en_28)) (by omega)) lk_X4_79 rfl rfl ⟨by show (14 + d) + 1 ≤ 14 + (d + 1); omega, by show 8 + (11 + 11) + (400 + 60 * d) ≤ 400 + 60 * (d + 1); omega⟩ ⟨rfl, rfl⟩ ⟨Nat.zero_le _, Nat.zero_le _⟩ rfl rfl hl.1 (Nat.le_of_ble_eq_true rfl) dX4_tryAllFrom_149) (fun f_44 u_44 H locs hp_44 hw => ?_)
                  obtain ⟨hi_44, kk_44, ex0_44⟩ := hp_44
                  refine lv_aload_n hx hb dX4_tryAllFrom_152 rfl (lv_at hl 6 rfl) ?_
                  refine gf_X4_42 cx hw dX4_tryAllFrom_153 ?_
                  refine lv_iload hx hb dX4_tryAllFrom_156 (lv_at hl 5 rfl) ?_
                  refine goV hw (runVW (k := 1) (As := [.int (nI n_28)]) (rest := []) cx hw (k_X1_takeOut l D a cI cZ f_44 u_44 n_28 n_32 hi_44 (by omega) (by omega) (TPc_at hta htp (by omega) (by omega) ((congrFun (kk_29.1 33 rfl) w).trans en_28) ex0_44)) lk_X4_107 rfl rfl ⟨by show 1 + 1 ≤ 14 + (d + 1); omega, by show 8 + (3 + 11) + 12 ≤ 400 + 60 * (d + 1); omega⟩ ⟨rfl, rfl⟩ ⟨Nat.zero_le _, Nat.zero_le _⟩ rfl rfl hl.1 (Nat.le_of_ble_eq_true rfl) dX4_tryAllFrom_158) (fun f_45 u_45 H locs hp_45 hw => ?_)
                  have hi_46 : IV (takeC f_44 n_28 n_32) := IV.wtakeC hi_44
                  obtain ⟨rfl, rfl⟩ := hp_45
                  refine lv_iinc (v := (nI (v6_29 + 1))) (lv' := [(6, .int (nI (v6_29 + 1))), (10, .int x_40), (9, .int x_36), (8, .int (nI (n_32 / 8))), (7, .int (nI n_32)), (5, .int (nI n_28)), (0, .ref (a 8)), (1, .int (nI w)), (2, .int pn), (3, .long ln)]) hx hb dX4_tryAllFrom_161 hl (k := 4) rfl (nI_add v6_29 1) (by decide) rfl (fun ls hl => ?_)
                  refine lv_goto (tgt := 45) hx hb dX4_tryAllFrom_164 (by decide) ?_
                  exact ih_29 (v6_29 + 1)  (by omega) (by omega) (takeC f_44 n_28 n_32) u_44 hi_46 (KK.wtakeC (by decide) (KK.tr (KK.wputC (by decide) kk_29) (kk_44.mono (by decide)))) (TPc_up hta htp (by omega) ((congrFun (kk_29.1 33 rfl) w).trans en_28) ex0_44) _ _ _ hw (lv_sub hl [0, 5, 6, 7, 8, 9] rfl)
          exact loop_29 _ 0  (by omega)  (Nat.lt_succ_self _) f u hi KK.rf (TPc_rf hta) _ _ _ hw (lv_sub hl [0, 1, 2, 3, 4, 5] rfl)
        · have c_27 : ¬ w < cn := fun z => c_27 ((nI_ltI (a := w) (b := cn) (by omega) (by omega)).mpr z)
          refine lv_aload_n hx hb dX4_tryAllFrom_24 rfl (lv_at hl 0 rfl) ?_
          refine lv_iload_n hx hb dX4_tryAllFrom_25 rfl (lv_at hl 2 rfl) ?_
          refine lv_lload_n hx hb dX4_tryAllFrom_26 rfl (lv_at hl 3 rfl) ?_
          refine jAbsL (rest := [.int pn, .ref (a 8)]) cx hl.1 mm_3_222 (by show 1 ≤ 14 + (d + 1); omega) (Nat.le_trans (Nat.le_of_ble_eq_true rfl : _ ≤ 21) (by show 21 ≤ 400 + 60 * (d + 1); omega)) ⟨Nat.zero_le _, Nat.zero_le _⟩ dX4_tryAllFrom_27 (fun y_47 => ?_)
          refine goV hw (runVW (k := 8) (As := [.int pn, .long y_47]) (rest := []) cx hw (k_X4_keepIfBetter l D a cI cZ f u pn y_47 cn hi (show TAc f cn cn from by have e : w = cn := (by omega); rw [e] at hta; exact hta)) lk_X4_93 rfl rfl ⟨by show 1 + 1 ≤ 14 + (d + 1); omega, by show 8 + (6 + 11) + 12 ≤ 400 + 60 * (d + 1); omega⟩ ⟨rfl, rfl⟩ ⟨Nat.zero_le _, Nat.zero_le _⟩ rfl rfl hl.1 (Nat.le_of_ble_eq_true rfl) dX4_tryAllFrom_30) (fun f_48 u_48 H locs hp_48 hw => ?_)
          obtain ⟨hi_48, kk_48, ex0_48, ex1_48⟩ := hp_48
          exact retV cx hw hr hk dX4_tryAllFrom_33 ⟨hi_48, (KK.tr KK.rf (kk_48.mono (by decide))), ex0_48, ex1_48, kk_48.1 33 rfl, fun t _ => congrFun (kk_48.1 18 rfl) t⟩
      · exact retV cx hw hr hk dX4_tryAllFrom_15 ⟨hi, KK.rf, TPc_rf hta⟩

set_option maxHeartbeats 4000000 in
set_option maxRecDepth 100000 in
theorem k_X4_loadBest (l : Launch) (D : va_G) (a : Nat → Nat) (cI cZ : ClassId) (f : FF) (u : UU) (ta : Int32) (le : Int64) (cn : Nat) (hi : IV f) (hc4 : cn ≤ 4) (h84 : f 8 4 = nI cn) (hdw : DWc f cn) : KI l yX4_loadBest cX4_loadBest 5 (some .int) ({ frames := 21, cells := 0, slots := 0, locals := 790 } : Room) D a cI cZ [.ref (a 8), .int ta, .long le] f u (fun r f2 u2 => IV f2 ∧ KK [8, 14, 18, 34] f f2) := by
  refine KX.of (by decide) (Nat.le_of_ble_eq_true rfl) ?_
  intro p e s m below meth c cx hw hr hk ls hl
  have cx : Cx p s m _ c cX4_loadBest RX4 5 D cI cZ := cx
  have hl : lv_has ls 5 [(0, .ref (a 8)), (1, .int ta), (2, .long le)] := hl
  have hx := cx.1.1
  have hb := cx.1.2.1
  refine lv_aload_n hx hb dX4_loadBest_0 rfl (lv_at hl 0 rfl) ?_
  refine lv_iload_n hx hb dX4_loadBest_1 rfl (lv_at hl 1 rfl) ?_
  refine pf_X4_28 cx hw dX4_loadBest_2 (fun H locs hw => ?_)
  have hi_1 : IV (up f 8 (upd (f 8) 6 ta)) := IV.u_8_6 hi
  refine lv_aload_n hx hb dX4_loadBest_5 rfl (lv_at hl 0 rfl) ?_
  refine lv_iconst (v := 0) hx hb dX4_loadBest_6 (by decide) ?_
  refine pf_X4_31 cx hw rfl rfl dX4_loadBest_7 (fun H locs hw => ?_)
  have hi_2 : IV (up (up f 8 (upd (f 8) 6 ta)) 8 (upd ((up f 8 (upd (f 8) 6 ta)) 8) 7 0)) := IV.u_8_7 hi_1
  refine lv_aload_n hx hb dX4_loadBest_10 rfl (lv_at hl 0 rfl) ?_
  refine lv_iconst (v := 0) hx hb dX4_loadBest_11 (by decide) ?_
  refine lv_aload_n hx hb dX4_loadBest_12 rfl (lv_at hl 0 rfl) ?_
  refine gf_X4_42 cx hw dX4_loadBest_13 ?_
  refine lv_bipush (v := 30) hx hb dX4_loadBest_16 (by decide) ?_
  refine goI hw (runVW (k := 1) (As := [.int 30]) (rest := [.int 0, .ref (a 8)]) cx hw (k_X1_pushedInAll l D a cI cZ (up (up f 8 (upd (f 8) 6 ta)) 8 (upd ((up f 8 (upd (f 8) 6 ta)) 8) 7 0)) u 30  hi_2) lk_X4_75 rfl rfl ⟨Nat.le_of_ble_eq_true rfl, Nat.le_of_ble_eq_true rfl⟩ ⟨rfl, rfl⟩ ⟨Nat.zero_le _, Nat.zero_le _⟩ rfl rfl hl.1 (Nat.le_of_ble_eq_true rfl) dX4_loadBest_18) (fun r_3 f_3 u_3 H locs hp_3 hw => ?_)
  obtain ⟨rfl, rfl⟩ := hp_3
  refine lv_lload_n hx hb dX4_loadBest_21 rfl (lv_at hl 2 rfl) ?_
  refine goV hw (runVW (k := 8) (As := [.int 0, .int r_3, .long le]) (rest := []) cx hw (k_X4_tryAllFrom l D a cI cZ 6 (up (up f 8 (upd (f 8) 6 ta)) 8 (upd ((up f 8 (upd (f 8) 6 ta)) 8) 7 0)) u 0 r_3 le cn hi_2 ⟨h84, hc4, by omega, hdw, fun h => absurd rfl h, fun j h => absurd h (by omega)⟩ (by omega)) lk_X4_79 rfl rfl ⟨Nat.le_of_ble_eq_true rfl, Nat.le_of_ble_eq_true rfl⟩ ⟨rfl, rfl⟩ ⟨Nat.zero_le _, Nat.zero_le _⟩ rfl rfl hl.1 (Nat.le_of_ble_eq_true rfl) dX4_loadBest_22) (fun f_4 u_4 H locs hp_4 hw => ?_)
  obtain ⟨hi_4, kk_4, ex0_4⟩ := hp_4
  refine lv_aload_n hx hb dX4_loadBest_25 rfl (lv_at hl 0 rfl) ?_
  refine gf_X4_31 cx hw dX4_loadBest_26 ?_
  refine lv_if_ne (tgt := 35) hx hb dX4_loadBest_29 (by decide) (fun c_5 => ?_) (fun c_5 => ?_)
  · refine lv_iconst (v := 0) hx hb dX4_loadBest_35 (by decide) ?_
    refine lv_istore (lv' := [(4, .int 0), (0, .ref (a 8)), (1, .int ta), (2, .long le)]) hx hb dX4_loadBest_36 hl (by decide) rfl (fun ls hl => ?_)
    have loop_6 : ∀ (k_6 : Nat) (v4_6 : Nat), v4_6 ≤ 4 → 4 + 1 - v4_6 < k_6 → ∀ (f_6 : FF) (u_6 : UU), IV f_6 → KK [8, 14, 18, 34] f f_6 → (f_6 8 4 = nI cn) → (∀ j, j < cn → ∃ q, q < 32 ∧ f_6 34 j = nI q) → ∀ (H : Heap) (locs : List Loc) (ls : Array Slot), Wd D a cI cZ s f_6 u_6 H locs → lv_has ls 5 [(4, .int (nI v4_6)), (0, .ref (a 8)), (1, .int ta), (2, .long le)] → W p l e ({ frames := 21, cells := 0, slots := 0, locals := 790 } : Room) s m ([.ref (a 8), .int ta, .long le] : List Value).toArray below meth c H locs 0 0 (MQ below (QI D a cI cZ (fun r f2 u2 => IV f2 ∧ KK [8, 14, 18, 34] f f2)) ([.ref (a 8), .int ta, .long le] : List Value).toArray s 0 0 (AA a)) (F0 m 38 ls []) := by
      intro k_6
      induction k_6 with
      | zero => intros; omega
      | succ k_6 ih_6 =>
        intro v4_6  hb0_6  hm_6 f_6 u_6 hi_6 kk_6 h84b hbp H locs ls hw hl
        refine lv_iload hx hb dX4_loadBest_38 (lv_at hl 0 rfl) ?_
        refine lv_aload_n hx hb dX4_loadBest_40 rfl (lv_at hl 1 rfl) ?_
        refine gf_X4_21 cx hw dX4_loadBest_41 ?_
        refine topc (y := (nI cn)) h84b ?_
        refine lv_icmp_ge (tgt := 74) hx hb dX4_loadBest_44 (by decide) (fun c_7 => ?_) (fun c_7 => ?_)
        · have c_7 : cn ≤ v4_6 := (nI_leI (a := cn) (b := v4_6) (by omega) (by omega)).mp c_7
          refine lv_aload_n hx hb dX4_loadBest_74 rfl (lv_at hl 1 rfl) ?_
          refine gf_X4_35 cx hw dX4_loadBest_75 ?_
          refine lv_topi (fun x_8 _ => ?_)
          exact retI cx hw hr hk dX4_loadBest_78 ⟨hi_6, kk_6⟩
        · have c_7 : ¬ cn ≤ v4_6 := fun z => c_7 ((nI_leI (a := cn) (b := v4_6) (by omega) (by omega)).mpr z)
          obtain ⟨q_9, hq_9, eq_9⟩ := hbp v4_6 (by omega)
          refine lv_aload_n hx hb dX4_loadBest_47 rfl (lv_at hl 1 rfl) ?_
          refine gf_X4_42 cx hw dX4_loadBest_48 ?_
          refine lv_aload_n hx hb dX4_loadBest_51 rfl (lv_at hl 1 rfl) ?_
          refine gf_X4_11 cx hw dX4_loadBest_52 ?_
          refine lv_iload hx hb dX4_loadBest_55 (lv_at hl 0 rfl) ?_
          refine aldN 33 v4_6 cx hw rfl (by omega) (by decide) dX4_loadBest_57 ?_
          obtain ⟨n_10, hn_10, en_10⟩ := IV.a_33 hi_6 (i := v4_6) (by omega)
          refine topc (y := (nI n_10)) en_10 ?_
          refine lv_aload_n hx hb dX4_loadBest_58 rfl (lv_at hl 1 rfl) ?_
          refine gf_X4_15 cx hw dX4_loadBest_59 ?_
          refine lv_iload hx hb dX4_loadBest_62 (lv_at hl 0 rfl) ?_
          refine aldN 34 v4_6 cx hw rfl (by omega) (by decide) dX4_loadBest_64 ?_
          refine topc (y := (nI q_9)) eq_9 ?_
          refine goV hw (runVW (k := 1) (As := [.int (nI n_10), .int (nI q_9)]) (rest := []) cx hw (k_X1_putIn l D a cI cZ f_6 u_6 n_10 q_9  hi_6 (by omega) (by omega)) lk_X4_83 rfl rfl ⟨Nat.le_of_ble_eq_true rfl, Nat.le_of_ble_eq_true rfl⟩ ⟨rfl, rfl⟩ ⟨Nat.zero_le _, Nat.zero_le _⟩ rfl rfl hl.1 (Nat.le_of_ble_eq_true rfl) dX4_loadBest_65) (fun f_11 u_11 H locs hp_11 hw => ?_)
          have hi_12 : IV (putC f_6 n_10 q_9) := IV.wputC hi_6 (by omega) (by omega)
          obtain ⟨rfl, rfl⟩ := hp_11
          refine lv_iinc (v := (nI (v4_6 + 1))) (lv' := [(4, .int (nI (v4_6 + 1))), (0, .ref (a 8)), (1, .int ta), (2, .long le)]) hx hb dX4_loadBest_68 hl (k := 0) rfl (nI_add v4_6 1) (by decide) rfl (fun ls hl => ?_)
          refine lv_goto (tgt := 38) hx hb dX4_loadBest_71 (by decide) ?_
          exact ih_6 (v4_6 + 1)  (by omega) (by omega) (putC f_6 n_10 q_9) u_6 hi_12 (KK.wputC (by decide) kk_6) h84b hbp _ _ _ hw (lv_sub hl [0, 1, 2, 3] rfl)
    exact loop_6 _ 0  (by omega)  (Nat.lt_succ_self _) f_4 u_4 hi_4 (KK.tr (KK.wr (by decide) (by decide) (KK.wr (by decide) (by decide) KK.rf)) (kk_4.mono (by decide))) (ex0_4.1.trans h84) (ex0_4.2.1 c_5) _ _ _ hw (lv_sub hl [0, 1, 2, 3] rfl)
  · refine lv_bipush (v := (-5)) hx hb dX4_loadBest_32 (by decide) ?_
    exact retI cx hw hr hk dX4_loadBest_34 ⟨hi_4, (KK.tr (KK.wr (by decide) (by decide) (KK.wr (by decide) (by decide) KK.rf)) (kk_4.mono (by decide)))⟩

set_option maxHeartbeats 4000000 in
set_option maxRecDepth 100000 in
theorem k_X7_best (l : Launch) (D : va_G) (a : Nat → Nat) (cI cZ : ClassId) (f : FF) (u : UU) (ar : Int32) (hi : IV f)  : KI l yX7_best cX7_best 2 (some .int) ({ frames := 22, cells := 0, slots := 0, locals := 814 } : Room) D a cI cZ [.ref (a 0), .int ar] f u (fun r f2 u2 => IV f2 ∧ KK [8, 14, 18, 33, 34, 35] f f2) := by
  refine KX.of (by decide) (Nat.le_of_ble_eq_true rfl) ?_
  intro p e s m below meth c cx hw hr hk ls hl
  have cx : Cx p s m _ c cX7_best RX7 2 D cI cZ := cx
  have hl : lv_has ls 2 [(0, .ref (a 0)), (1, .int ar)] := hl
  have hx := cx.1.1
  have hb := cx.1.2.1
  refine lv_iload_n hx hb dX7_best_0 rfl (lv_at hl 1 rfl) ?_
  refine goI hw (runSW (As := [.int ar]) (rest := []) cx hw (c_X7_isArm l D a cI cZ f u ar  ) lk_X7_79 ⟨Nat.le_of_ble_eq_true rfl, Nat.le_of_ble_eq_true rfl⟩ ⟨rfl, rfl⟩ ⟨Nat.zero_le _, Nat.zero_le _⟩ rfl rfl hl.1 (Nat.le_of_ble_eq_true rfl) dX7_best_1) (fun r_1 f_1 u_1 H locs hp_1 hw => ?_)
  obtain ⟨rfl, rfl, e_1⟩ := hp_1
  refine topc e_1 ?_
  refine lv_if_ne (tgt := 10) hx hb dX7_best_4 (by decide) (fun c_2 => ?_) (fun c_2 => ?_)
  · obtain ⟨t_2, ht_2, et_2⟩ := rg_nat (n := 5000) rfl c_2
    subst et_2
    refine lv_aload_n hx hb dX7_best_10 rfl (lv_at hl 0 rfl) ?_
    refine gf_X7_70 cx hw dX7_best_11 ?_
    refine goI hw (runVW (k := 8) (As := []) (rest := []) cx hw (k_X4_gather l D a cI cZ f u   hi) lk_X7_251 rfl rfl ⟨Nat.le_of_ble_eq_true rfl, Nat.le_of_ble_eq_true rfl⟩ ⟨rfl, rfl⟩ ⟨Nat.zero_le _, Nat.zero_le _⟩ rfl rfl hl.1 (Nat.le_of_ble_eq_true rfl) dX7_best_14) (fun r_3 f_3 u_3 H locs hp_3 hw => ?_)
    obtain ⟨hi_3, kk_3, ha_3⟩ := hp_3
    rcases ha_3 with er_3 | ⟨er_3, b1_3_c, q1_3_0, q1_3_1, q1_3_2⟩
    · subst er_3
      refine lv_if_ne (tgt := 23) hx hb dX7_best_17 (by decide) (fun q => absurd (by decide) q) (fun _ => ?_)
      refine lv_bipush (v := (-3)) hx hb dX7_best_20 (by decide) ?_
      exact retI cx hw hr hk dX7_best_22 ⟨hi_3, (KK.tr KK.rf (kk_3.mono (by decide)))⟩
    · subst er_3
      refine lv_if_ne (tgt := 23) hx hb dX7_best_17 (by decide) (fun _ => ?_) (fun q => absurd q (by decide))
      refine lv_aload_n hx hb dX7_best_23 rfl (lv_at hl 0 rfl) ?_
      refine gf_X7_70 cx hw dX7_best_24 ?_
      refine lv_iload_n hx hb dX7_best_27 rfl (lv_at hl 1 rfl) ?_
      refine lv_aload_n hx hb dX7_best_28 rfl (lv_at hl 0 rfl) ?_
      refine lv_iload_n hx hb dX7_best_29 rfl (lv_at hl 1 rfl) ?_
      refine goL hw (runVW (k := 0) (As := [.int (nI t_2)]) (rest := [.int (nI t_2), .ref (a 8)]) cx hw (k_X7_lean l D a cI cZ f_3 u_3 (nI t_2)  hi_3) lk_X7_237 rfl rfl ⟨Nat.le_of_ble_eq_true rfl, Nat.le_of_ble_eq_true rfl⟩ ⟨rfl, rfl⟩ ⟨Nat.zero_le _, Nat.zero_le _⟩ rfl rfl hl.1 (Nat.le_of_ble_eq_true rfl) dX7_best_30) (fun r_6 f_6 u_6 H locs hp_6 hw => ?_)
      obtain ⟨rfl, rfl⟩ := hp_6
      refine goI hw (runVW (k := 8) (As := [.int (nI t_2), .long r_6]) (rest := []) cx hw (k_X4_loadBest l D a cI cZ f_3 u_3 (nI t_2) r_6 b1_3_c hi_3 (by omega) q1_3_1 q1_3_2) lk_X7_255 rfl rfl ⟨Nat.le_of_ble_eq_true rfl, Nat.le_of_ble_eq_true rfl⟩ ⟨rfl, rfl⟩ ⟨Nat.zero_le _, Nat.zero_le _⟩ rfl rfl hl.1 (Nat.le_of_ble_eq_true rfl) dX7_best_33) (fun r_7 f_7 u_7 H locs hp_7 hw => ?_)
      obtain ⟨hi_7, kk_7⟩ := hp_7
      exact retI cx hw hr hk dX7_best_36 ⟨hi_7, (KK.tr (KK.tr KK.rf (kk_3.mono (by decide))) (kk_7.mono (by decide)))⟩
  · refine lv_bipush (v := (-2)) hx hb dX7_best_7 (by decide) ?_
    exact retI cx hw hr hk dX7_best_9 ⟨hi, KK.rf⟩
