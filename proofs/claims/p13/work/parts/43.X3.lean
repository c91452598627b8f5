set_option maxHeartbeats 4000000 in
set_option maxRecDepth 100000 in
theorem k_X3_lastWeight_4 (l : Launch) (D : va_G) (a : Nat → Nat) (cI cZ : ClassId) (f : FF) (u : UU)  (hi : IV f)  : KI l yX3_lastWeight cX3_lastWeight 1 (some .int) ({ frames := 1, cells := 0, slots := 0, locals := 12 } : Room) D a cI cZ [.ref (a 4)] f u (fun r f2 u2 => f = f2 ∧ u = u2 ∧ ((∃ j, j ≤ 1000000 ∧ r = nI j ∧ nI j = lst 0 (vC f)))) := by
  refine KX.of (by decide) (Nat.le_of_ble_eq_true rfl) ?_
  intro p e s m below meth c cx hw hr hk ls hl
  have cx : Cx p s m _ c cX3_lastWeight RX3 1 D cI cZ := cx
  have hl : lv_has ls 1 [(0, .ref (a 4))] := hl
  have hx := cx.1.1
  have hb := cx.1.2.1
  refine lv_aload_n hx hb dX3_lastWeight_0 rfl (lv_at hl 0 rfl) ?_
  refine gf_X3_21_4 cx hw dX3_lastWeight_1 ?_
  obtain ⟨n_1, hn_1, en_1⟩ := IV.s_4_3 hi
  refine topc (y := (nI n_1)) en_1 ?_
  refine lv_if_ne (tgt := 11) hx hb dX3_lastWeight_4 (by decide) (fun c_2 => ?_) (fun c_2 => ?_)
  · have c_2 : ¬ n_1 = 0 := fun z => c_2 ((nI_eq (a := n_1) (b := 0) (by omega) (by omega)).mpr z)
    refine lv_aload_n hx hb dX3_lastWeight_11 rfl (lv_at hl 0 rfl) ?_
    refine gf_X3_11_4 cx hw dX3_lastWeight_12 ?_
    refine lv_aload_n hx hb dX3_lastWeight_15 rfl (lv_at hl 0 rfl) ?_
    refine gf_X3_21_4 cx hw dX3_lastWeight_16 ?_
    refine topc (y := (nI n_1)) en_1 ?_
    refine lv_iconst (v := 1) hx hb dX3_lastWeight_19 (by decide) ?_
    refine lv_isub hx hb dX3_lastWeight_20 ?_
    refine topc (y := (nI (n_1 - 1))) (pk_sub (a := n_1) (b := 1) (by omega)) ?_
    refine aldN 27 (n_1 - 1) cx hw rfl (by omega) (by decide) dX3_lastWeight_21 ?_
    obtain ⟨n_3, hn_3, en_3⟩ := IV.a_27 hi (i := (n_1 - 1)) (by omega)
    refine topc (y := (nI n_3)) en_3 ?_
    exact retI cx hw hr hk dX3_lastWeight_22 ⟨rfl, rfl, n_3, by omega, rfl, lstC0 en_1 (by omega) (by omega) en_3⟩
  · have c_2 : n_1 = 0 := (nI_eq (a := n_1) (b := 0) (by omega) (by omega)).mp c_2
    refine lv_iconst (v := 0) hx hb dX3_lastWeight_7 (by decide) ?_
    refine lv_goto (tgt := 22) hx hb dX3_lastWeight_8 (by decide) ?_
    exact retI cx hw hr hk dX3_lastWeight_22 ⟨rfl, rfl, 0, by omega, rfl, (lst_z (q := 0) (v := vC f) en_1 (by omega)).symm⟩

set_option maxHeartbeats 4000000 in
set_option maxRecDepth 100000 in
theorem k_X3_addPoint_4 (l : Launch) (D : va_G) (a : Nat → Nat) (cI cZ : ClassId) (f : FF) (u : UU) (we : Nat) (lo : Int32) (hg : Int32) (hi : IV f) (h_w : we ≤ 1000000) : KI l yX3_addPoint cX3_addPoint 4 (some .int) ({ frames := 1, cells := 0, slots := 0, locals := 12 } : Room) D a cI cZ [.ref (a 4), .int (nI we), .int lo, .int hg] f u (fun r f2 u2 => IV f2 ∧ (r, vC f2) = S_pa 0 (nI we) (vC f) ∧ KP f f2) := by
  refine KX.of (by decide) (Nat.le_of_ble_eq_true rfl) ?_
  intro p e s m below meth c cx hw hr hk ls hl
  have cx : Cx p s m _ c cX3_addPoint RX3 4 D cI cZ := cx
  have hl : lv_has ls 4 [(0, .ref (a 4)), (1, .int (nI we)), (2, .int lo), (3, .int hg)] := hl
  have hx := cx.1.1
  have hb := cx.1.2.1
  refine lv_aload_n hx hb dX3_addPoint_0 rfl (lv_at hl 0 rfl) ?_
  refine gf_X3_21_4 cx hw dX3_addPoint_1 ?_
  obtain ⟨n_1, hn_1, en_1⟩ := IV.s_4_3 hi
  refine topc (y := (nI n_1)) en_1 ?_
  refine lv_bipush (v := 10) hx hb dX3_addPoint_4 (by decide) ?_
  refine lv_icmp_lt (tgt := 12) hx hb dX3_addPoint_6 (by decide) (fun c_2 => ?_) (fun c_2 => ?_)
  · have c_2 : n_1 < 10 := (nI_ltI (a := n_1) (b := 10) (by omega) (by omega)).mp c_2
    refine lv_aload_n hx hb dX3_addPoint_12 rfl (lv_at hl 0 rfl) ?_
    refine gf_X3_11_4 cx hw dX3_addPoint_13 ?_
    refine lv_aload_n hx hb dX3_addPoint_16 rfl (lv_at hl 0 rfl) ?_
    refine gf_X3_21_4 cx hw dX3_addPoint_17 ?_
    refine topc (y := (nI n_1)) en_1 ?_
    refine lv_iload_n hx hb dX3_addPoint_20 rfl (lv_at hl 1 rfl) ?_
    refine astN 27 n_1 cx hw rfl ws_27 (by omega) (by decide) dX3_addPoint_21 (fun H locs hw => ?_)
    have hi_3 : IV (up f 27 (upd (f 27) n_1 (nI we))) := IV.b_27 hi (okc_n (j := we) (by omega))
    have vp_4 : vC (up f 27 (upd (f 27) n_1 (nI we))) = (up (vC f) 5 (upd ((vC f) 5) n_1 (nI we))) := (vC_w_27 (by omega)).trans (congrArg (fun z : FF => up z 5 (upd (z 5) n_1 (nI we))) (rfl : vC f = (vC f)))
    refine lv_aload_n hx hb dX3_addPoint_22 rfl (lv_at hl 0 rfl) ?_
    refine gf_X3_15_4 cx hw dX3_addPoint_23 ?_
    refine lv_aload_n hx hb dX3_addPoint_26 rfl (lv_at hl 0 rfl) ?_
    refine gf_X3_21_4 cx hw dX3_addPoint_27 ?_
    refine topc (y := (nI n_1)) en_1 ?_
    refine lv_iload_n hx hb dX3_addPoint_30 rfl (lv_at hl 2 rfl) ?_
    refine astN 28 n_1 cx hw rfl ws_28 (by omega) (by decide) dX3_addPoint_31 (fun H locs hw => ?_)
    have hi_5 : IV (up (up f 27 (upd (f 27) n_1 (nI we))) 28 (upd ((up f 27 (upd (f 27) n_1 (nI we))) 28) n_1 lo)) := IV.wr hi_3 28 trivial
    refine lv_aload_n hx hb dX3_addPoint_32 rfl (lv_at hl 0 rfl) ?_
    refine gf_X3_18_4 cx hw dX3_addPoint_33 ?_
    refine lv_aload_n hx hb dX3_addPoint_36 rfl (lv_at hl 0 rfl) ?_
    refine gf_X3_21_4 cx hw dX3_addPoint_37 ?_
    refine topc (y := (nI n_1)) en_1 ?_
    refine lv_iload_n hx hb dX3_addPoint_40 rfl (lv_at hl 3 rfl) ?_
    refine astN 29 n_1 cx hw rfl ws_29 (by omega) (by decide) dX3_addPoint_41 (fun H locs hw => ?_)
    have hi_6 : IV (up (up (up f 27 (upd (f 27) n_1 (nI we))) 28 (upd ((up f 27 (upd (f 27) n_1 (nI we))) 28) n_1 lo)) 29 (upd ((up (up f 27 (upd (f 27) n_1 (nI we))) 28 (upd ((up f 27 (upd (f 27) n_1 (nI we))) 28) n_1 lo)) 29) n_1 hg)) := IV.wr hi_5 29 trivial
    refine lv_aload_n hx hb dX3_addPoint_42 rfl (lv_at hl 0 rfl) ?_
    refine lv_dup hx hb dX3_addPoint_43 rfl ?_
    refine gf_X3_21_4 cx hw dX3_addPoint_44 ?_
    refine topc (y := (nI n_1)) en_1 ?_
    refine lv_iconst (v := 1) hx hb dX3_addPoint_47 (by decide) ?_
    refine lv_iadd hx hb dX3_addPoint_48 ?_
    refine topc (y := (nI (n_1 + 1))) (nI_add n_1 1) ?_
    refine lv_dup_x1 hx hb dX3_addPoint_49 rfl rfl ?_
    refine pf_X3_21_4 cx hw dX3_addPoint_50 (fun H locs hw => ?_)
    have hi_7 : IV (up (up (up (up f 27 (upd (f 27) n_1 (nI we))) 28 (upd ((up f 27 (upd (f 27) n_1 (nI we))) 28) n_1 lo)) 29 (upd ((up (up f 27 (upd (f 27) n_1 (nI we))) 28 (upd ((up f 27 (upd (f 27) n_1 (nI we))) 28) n_1 lo)) 29) n_1 hg)) 4 (upd ((up (up (up f 27 (upd (f 27) n_1 (nI we))) 28 (upd ((up f 27 (upd (f 27) n_1 (nI we))) 28) n_1 lo)) 29 (upd ((up (up f 27 (upd (f 27) n_1 (nI we))) 28 (upd ((up f 27 (upd (f 27) n_1 (nI we))) 28) n_1 lo)) 29) n_1 hg)) 4) 3 (nI (n_1 + 1)))) := IV.t_4_3 hi_6 (okc_n (j := (n_1 + 1)) (by omega))
    have vp_8 : vC (up (up (up (up f 27 (upd (f 27) n_1 (nI we))) 28 (upd ((up f 27 (upd (f 27) n_1 (nI we))) 28) n_1 lo)) 29 (upd ((up (up f 27 (upd (f 27) n_1 (nI we))) 28 (upd ((up f 27 (upd (f 27) n_1 (nI we))) 28) n_1 lo)) 29) n_1 hg)) 4 (upd ((up (up (up f 27 (upd (f 27) n_1 (nI we))) 28 (upd ((up f 27 (upd (f 27) n_1 (nI we))) 28) n_1 lo)) 29 (upd ((up (up f 27 (upd (f 27) n_1 (nI we))) 28 (upd ((up f 27 (upd (f 27) n_1 (nI we))) 28) n_1 lo)) 29) n_1 hg)) 4) 3 (nI (n_1 + 1)))) = (up (up (vC f) 5 (upd ((vC f) 5) n_1 (nI we))) 4 (upd ((up (vC f) 5 (upd ((vC f) 5) n_1 (nI we))) 4) 0 (nI (n_1 + 1)))) := (vC_s_4_3).trans (congrArg (fun z : FF => up z 4 (upd (z 4) 0 (nI (n_1 + 1)))) (vp_4 : vC (up (up (up f 27 (upd (f 27) n_1 (nI we))) 28 (upd ((up f 27 (upd (f 27) n_1 (nI we))) 28) n_1 lo)) 29 (upd ((up (up f 27 (upd (f 27) n_1 (nI we))) 28 (upd ((up f 27 (upd (f 27) n_1 (nI we))) 28) n_1 lo)) 29) n_1 hg)) = (up (vC f) 5 (upd ((vC f) 5) n_1 (nI we)))))
    exact retI cx hw hr hk dX3_addPoint_53 ⟨hi_7, ((congrArg (Prod.mk (nI (n_1 + 1))) (vp_8 : vC (up (up (up (up f 27 (upd (f 27) n_1 (nI we))) 28 (upd ((up f 27 (upd (f 27) n_1 (nI we))) 28) n_1 lo)) 29 (upd ((up (up f 27 (upd (f 27) n_1 (nI we))) 28 (upd ((up f 27 (upd (f 27) n_1 (nI we))) 28) n_1 lo)) 29) n_1 hg)) 4 (upd ((up (up (up f 27 (upd (f 27) n_1 (nI we))) 28 (upd ((up f 27 (upd (f 27) n_1 (nI we))) 28) n_1 lo)) 29 (upd ((up (up f 27 (upd (f 27) n_1 (nI we))) 28 (upd ((up f 27 (upd (f 27) n_1 (nI we))) 28) n_1 lo)) 29) n_1 hg)) 4) 3 (nI (n_1 + 1)))) = (up (up (vC f) 5 (upd ((vC f) 5) n_1 (nI we))) 4 (upd ((up (vC f) 5 (upd ((vC f) 5) n_1 (nI we))) 4) 0 (nI (n_1 + 1)))))).trans (show _ = S_pa 0 (nI we) (vC f) from (S_pa_n (q := 0) (v := vC f) (k := n_1) en_1 (by omega) (by omega)).symm)), (KP.up (by decide) (KP.up (by decide) (KP.up (by decide) (KP.up (by decide) KP.rf))))⟩
  · have c_2 : ¬ n_1 < 10 := fun z => c_2 ((nI_ltI (a := n_1) (b := 10) (by omega) (by omega)).mpr z)
    refine lv_bipush (v := (-4)) hx hb dX3_addPoint_9 (by decide) ?_
    exact retI cx hw hr hk dX3_addPoint_11 ⟨hi, ((congrArg (Prod.mk (-4)) (rfl : vC f = (vC f))).trans (show _ = S_pa 0 (nI we) (vC f) from (S_pa_f (q := 0) (v := vC f) (k := n_1) en_1 (by omega)).symm)), KP.rf⟩

set_option maxHeartbeats 4000000 in
set_option maxRecDepth 100000 in
theorem k_X3_spans_4 (l : Launch) (D : va_G) (a : Nat → Nat) (cI cZ : ClassId) (f : FF) (u : UU) (we : Int32) (hi : IV f)  : KI l yX3_spans cX3_spans 2 (some .boolean) ({ frames := 2, cells := 0, slots := 0, locals := 32 } : Room) D a cI cZ [.ref (a 4), .int we] f u (fun r f2 u2 => f = f2 ∧ u = u2) := by
  refine KX.of (by decide) (Nat.le_of_ble_eq_true rfl) ?_
  intro p e s m below meth c cx hw hr hk ls hl
  have cx : Cx p s m _ c cX3_spans RX3 2 D cI cZ := cx
  have hl : lv_has ls 2 [(0, .ref (a 4)), (1, .int we)] := hl
  have hx := cx.1.1
  have hb := cx.1.2.1
  refine lv_iload_n hx hb dX3_spans_0 rfl (lv_at hl 1 rfl) ?_
  refine lv_aload_n hx hb dX3_spans_1 rfl (lv_at hl 0 rfl) ?_
  refine gf_X3_11_4 cx hw dX3_spans_2 ?_
  refine lv_iconst (v := 0) hx hb dX3_spans_5 (by decide) ?_
  refine aldN 27 0 cx hw rfl (by omega) (by decide) dX3_spans_6 ?_
  obtain ⟨n_1, hn_1, en_1⟩ := IV.a_27 hi (i := 0) (by omega)
  refine topc (y := (nI n_1)) en_1 ?_
  refine lv_icmp_lt (tgt := 22) hx hb dX3_spans_7 (by decide) (fun _ => ?_) (fun _ => ?_)
  · refine lv_iconst (v := 0) hx hb dX3_spans_22 (by decide) ?_
    exact retZ cx hw hr hk rfl dX3_spans_23 ⟨rfl, rfl⟩
  · refine lv_iload_n hx hb dX3_spans_10 rfl (lv_at hl 1 rfl) ?_
    refine lv_aload_n hx hb dX3_spans_11 rfl (lv_at hl 0 rfl) ?_
    refine goI hw (runVW (k := 4) (As := []) (rest := [.int we]) cx hw (k_X3_lastWeight_4 l D a cI cZ f u   hi) lk_X3_25 rfl rfl ⟨Nat.le_of_ble_eq_true rfl, Nat.le_of_ble_eq_true rfl⟩ ⟨rfl, rfl⟩ ⟨Nat.zero_le _, Nat.zero_le _⟩ rfl rfl hl.1 (Nat.le_of_ble_eq_true rfl) dX3_spans_12) (fun r_3 f_3 u_3 H locs hp_3 hw => ?_)
    obtain ⟨rfl, rfl, ha_3⟩ := hp_3
    obtain ⟨b0_3_j, q0_3_0, q0_3_1, q0_3_2⟩ := ha_3
    · subst q0_3_1
      refine lv_icmp_gt (tgt := 22) hx hb dX3_spans_15 (by decide) (fun _ => ?_) (fun _ => ?_)
      · refine lv_iconst (v := 0) hx hb dX3_spans_22 (by decide) ?_
        exact retZ cx hw hr hk rfl dX3_spans_23 ⟨rfl, rfl⟩
      · refine lv_iconst (v := 1) hx hb dX3_spans_18 (by decide) ?_
        refine lv_goto (tgt := 23) hx hb dX3_spans_19 (by decide) ?_
        exact retZ cx hw hr hk rfl dX3_spans_23 ⟨rfl, rfl⟩

set_option maxHeartbeats 4000000 in
set_option maxRecDepth 100000 in
theorem k_X3_lineAt_4 (l : Launch) (D : va_G) (a : Nat → Nat) (cI cZ : ClassId) (f : FF) (u : UU) (we : Int32) (hi : IV f)  : KI l yX3_lineAt cX3_lineAt 3 (some .int) ({ frames := 1, cells := 0, slots := 0, locals := 12 } : Room) D a cI cZ [.ref (a 4), .int we] f u (fun r f2 u2 => f = f2 ∧ u = u2 ∧ ((∃ j, j < 9 ∧ r = nI j))) := by
  refine KX.of (by decide) (Nat.le_of_ble_eq_true rfl) ?_
  intro p e s m below meth c cx hw hr hk ls hl
  have cx : Cx p s m _ c cX3_lineAt RX3 3 D cI cZ := cx
  have hl : lv_has ls 3 [(0, .ref (a 4)), (1, .int we)] := hl
  have hx := cx.1.1
  have hb := cx.1.2.1
  refine lv_iconst (v := 0) hx hb dX3_lineAt_0 (by decide) ?_
  refine lv_istore_n (lv' := [(2, .int 0), (0, .ref (a 4)), (1, .int we)]) hx hb dX3_lineAt_1 rfl hl (by decide) rfl (fun ls hl => ?_)
  have loop_1 : ∀ (k_1 : Nat) (v2_1 : Nat), v2_1 ≤ 8 → 8 + 1 - v2_1 < k_1 → ∀ (H : Heap) (locs : List Loc) (ls : Array Slot), Wd D a cI cZ s f u H locs → lv_has ls 3 [(2, .int (nI v2_1)), (0, .ref (a 4)), (1, .int we)] → W p l e ({ frames := 1, cells := 0, slots := 0, locals := 12 } : Room) s m ([.ref (a 4), .int we] : List Value).toArray below meth c H locs 0 0 (MQ below (QI D a cI cZ (fun r f2 u2 => f = f2 ∧ u = u2 ∧ ((∃ j, j < 9 ∧ r = nI j)))) ([.ref (a 4), .int we] : List Value).toArray s 0 0 (AA a)) (F0 m 2 ls []) := by
    intro k_1
    induction k_1 with
    | zero => intros; omega
    | succ k_1 ih_1 =>
      intro v2_1  hb0_1  hm_1  H locs ls hw hl
      refine lv_iload_n hx hb dX3_lineAt_2 rfl (lv_at hl 0 rfl) ?_
      refine lv_iconst (v := 2) hx hb dX3_lineAt_3 (by decide) ?_
      refine lv_iadd hx hb dX3_lineAt_4 ?_
      refine topc (y := (nI (v2_1 + 2))) (nI_add v2_1 2) ?_
      refine lv_aload_n hx hb dX3_lineAt_5 rfl (lv_at hl 1 rfl) ?_
      refine gf_X3_21_4 cx hw dX3_lineAt_6 ?_
      obtain ⟨n_2, hn_2, en_2⟩ := IV.s_4_3 hi
      refine topc (y := (nI n_2)) en_2 ?_
      refine lv_icmp_ge (tgt := 30) hx hb dX3_lineAt_9 (by decide) (fun c_3 => ?_) (fun c_3 => ?_)
      · have c_3 : n_2 ≤ (v2_1 + 2) := (nI_leI (a := n_2) (b := (v2_1 + 2)) (by omega) (by omega)).mp c_3
        refine lv_iload_n hx hb dX3_lineAt_30 rfl (lv_at hl 0 rfl) ?_
        exact retI cx hw hr hk dX3_lineAt_31 ⟨rfl, rfl, v2_1, by omega, rfl⟩
      · have c_3 : ¬ n_2 ≤ (v2_1 + 2) := fun z => c_3 ((nI_leI (a := n_2) (b := (v2_1 + 2)) (by omega) (by omega)).mpr z)
        refine lv_iload_n hx hb dX3_lineAt_12 rfl (lv_at hl 2 rfl) ?_
        refine lv_aload_n hx hb dX3_lineAt_13 rfl (lv_at hl 1 rfl) ?_
        refine gf_X3_11_4 cx hw dX3_lineAt_14 ?_
        refine lv_iload_n hx hb dX3_lineAt_17 rfl (lv_at hl 0 rfl) ?_
        refine lv_iconst (v := 1) hx hb dX3_lineAt_18 (by decide) ?_
        refine lv_iadd hx hb dX3_lineAt_19 ?_
        refine topc (y := (nI (v2_1 + 1))) (nI_add v2_1 1) ?_
        refine aldN 27 (v2_1 + 1) cx hw rfl (by omega) (by decide) dX3_lineAt_20 ?_
        obtain ⟨n_4, hn_4, en_4⟩ := IV.a_27 hi (i := (v2_1 + 1)) (by omega)
        refine topc (y := (nI n_4)) en_4 ?_
        refine lv_icmp_le (tgt := 30) hx hb dX3_lineAt_21 (by decide) (fun _ => ?_) (fun _ => ?_)
        · refine lv_iload_n hx hb dX3_lineAt_30 rfl (lv_at hl 0 rfl) ?_
          exact retI cx hw hr hk dX3_lineAt_31 ⟨rfl, rfl, v2_1, by omega, rfl⟩
        · refine lv_iinc (v := (nI (v2_1 + 1))) (lv' := [(2, .int (nI (v2_1 + 1))), (0, .ref (a 4)), (1, .int we)]) hx hb dX3_lineAt_24 hl (k := 0) rfl (nI_add v2_1 1) (by decide) rfl (fun ls hl => ?_)
          refine lv_goto (tgt := 2) hx hb dX3_lineAt_27 (by decide) ?_
          exact ih_1 (v2_1 + 1)  (by omega) (by omega) _ _ _ hw (lv_sub hl [0, 1, 2] rfl)
  exact loop_1 _ 0  (by omega)  (Nat.lt_succ_self _) _ _ _ hw (lv_sub hl [0, 1, 2] rfl)

set_option maxHeartbeats 4000000 in
set_option maxRecDepth 100000 in
theorem k_X3_rise_4_28 (l : Launch) (D : va_G) (a : Nat → Nat) (cI cZ : ClassId) (f : FF) (u : UU) (li : Nat) (hi : IV f) (h_li : li < 9) : KL l yX3_rise cX3_rise 3 (some .long) ({ frames := 1, cells := 0, slots := 0, locals := 12 } : Room) D a cI cZ [.ref (a 4), .ref (a 28), .int (nI li)] f u (fun r f2 u2 => f = f2 ∧ u = u2) := by
  refine KX.of (by decide) (Nat.le_of_ble_eq_true rfl) ?_
  intro p e s m below meth c cx hw hr hk ls hl
  have cx : Cx p s m _ c cX3_rise RX3 3 D cI cZ := cx
  have hl : lv_has ls 3 [(0, .ref (a 4)), (1, .ref (a 28)), (2, .int (nI li))] := hl
  have hx := cx.1.1
  have hb := cx.1.2.1
  refine lv_iload_n hx hb dX3_rise_0 rfl (lv_at hl 2 rfl) ?_
  refine lv_iconst (v := 1) hx hb dX3_rise_1 (by decide) ?_
  refine lv_iadd hx hb dX3_rise_2 ?_
  refine topc (y := (nI (li + 1))) (nI_add li 1) ?_
  refine lv_aload_n hx hb dX3_rise_3 rfl (lv_at hl 0 rfl) ?_
  refine gf_X3_21_4 cx hw dX3_rise_4 ?_
  obtain ⟨n_1, hn_1, en_1⟩ := IV.s_4_3 hi
  refine topc (y := (nI n_1)) en_1 ?_
  refine lv_icmp_ge (tgt := 23) hx hb dX3_rise_7 (by decide) (fun c_2 => ?_) (fun c_2 => ?_)
  · have c_2 : n_1 ≤ (li + 1) := (nI_leI (a := n_1) (b := (li + 1)) (by omega) (by omega)).mp c_2
    refine lv_lconst (v := 0) hx hb dX3_rise_23 (by decide) ?_
    exact retL cx hw hr hk dX3_rise_24 ⟨rfl, rfl⟩
  · have c_2 : ¬ n_1 ≤ (li + 1) := fun z => c_2 ((nI_leI (a := n_1) (b := (li + 1)) (by omega) (by omega)).mpr z)
    refine lv_aload_n hx hb dX3_rise_10 rfl (lv_at hl 1 rfl) ?_
    refine lv_iload_n hx hb dX3_rise_11 rfl (lv_at hl 2 rfl) ?_
    refine lv_iconst (v := 1) hx hb dX3_rise_12 (by decide) ?_
    refine lv_iadd hx hb dX3_rise_13 ?_
    refine topc (y := (nI (li + 1))) (nI_add li 1) ?_
    refine aldN 28 (li + 1) cx hw rfl (by omega) (by decide) dX3_rise_14 ?_
    refine lv_topi (fun x_3 _ => ?_)
    refine lv_aload_n hx hb dX3_rise_15 rfl (lv_at hl 1 rfl) ?_
    refine lv_iload_n hx hb dX3_rise_16 rfl (lv_at hl 2 rfl) ?_
    refine aldN 28 li cx hw rfl (by omega) (by decide) dX3_rise_17 ?_
    refine lv_topi (fun x_4 _ => ?_)
    refine lv_isub hx hb dX3_rise_18 ?_
    refine lv_topi (fun x_5 _ => ?_)
    refine lv_i2l hx hb dX3_rise_19 rfl ?_
    refine lv_topl (fun y_6 _ => ?_)
    refine lv_goto (tgt := 24) hx hb dX3_rise_20 (by decide) ?_
    exact retL cx hw hr hk dX3_rise_24 ⟨rfl, rfl⟩

set_option maxHeartbeats 4000000 in
set_option maxRecDepth 100000 in
theorem k_X3_excess_4_28 (l : Launch) (D : va_G) (a : Nat → Nat) (cI cZ : ClassId) (f : FF) (u : UU) (li : Nat) (we : Int32) (mo : Int64) (hi : IV f) (h_li : li < 9) : KL l yX3_excess cX3_excess 12 (some .long) ({ frames := 2, cells := 0, slots := 0, locals := 34 } : Room) D a cI cZ [.ref (a 4), .ref (a 28), .int (nI li), .int we, .long mo] f u (fun r f2 u2 => f = f2 ∧ u = u2) := by
  refine KX.of (by decide) (Nat.le_of_ble_eq_true rfl) ?_
  intro p e s m below meth c cx hw hr hk ls hl
  have cx : Cx p s m _ c cX3_excess RX3 12 D cI cZ := cx
  have hl : lv_has ls 12 [(0, .ref (a 4)), (1, .ref (a 28)), (2, .int (nI li)), (3, .int we), (4, .long mo)] := hl
  have hx := cx.1.1
  have hb := cx.1.2.1
  refine lv_iload_n hx hb dX3_excess_0 rfl (lv_at hl 2 rfl) ?_
  refine lv_iconst (v := 1) hx hb dX3_excess_1 (by decide) ?_
  refine lv_iadd hx hb dX3_excess_2 ?_
  refine topc (y := (nI (li + 1))) (nI_add li 1) ?_
  refine lv_aload_n hx hb dX3_excess_3 rfl (lv_at hl 0 rfl) ?_
  refine gf_X3_21_4 cx hw dX3_excess_4 ?_
  obtain ⟨n_1, hn_1, en_1⟩ := IV.s_4_3 hi
  refine topc (y := (nI n_1)) en_1 ?_
  refine lv_icmp_lt (tgt := 21) hx hb dX3_excess_7 (by decide) (fun c_2 => ?_) (fun c_2 => ?_)
  · have c_2 : (li + 1) < n_1 := (nI_ltI (a := (li + 1)) (b := n_1) (by omega) (by omega)).mp c_2
    refine lv_aload_n hx hb dX3_excess_21 rfl (lv_at hl 0 rfl) ?_
    refine gf_X3_11_4 cx hw dX3_excess_22 ?_
    refine lv_iload_n hx hb dX3_excess_25 rfl (lv_at hl 2 rfl) ?_
    refine lv_iconst (v := 1) hx hb dX3_excess_26 (by decide) ?_
    refine lv_iadd hx hb dX3_excess_27 ?_
    refine topc (y := (nI (li + 1))) (nI_add li 1) ?_
    refine aldN 27 (li + 1) cx hw rfl (by omega) (by decide) dX3_excess_28 ?_
    obtain ⟨n_3, hn_3, en_3⟩ := IV.a_27 hi (i := (li + 1)) (by omega)
    refine topc (y := (nI n_3)) en_3 ?_
    refine lv_aload_n hx hb dX3_excess_29 rfl (lv_at hl 0 rfl) ?_
    refine gf_X3_11_4 cx hw dX3_excess_30 ?_
    refine lv_iload_n hx hb dX3_excess_33 rfl (lv_at hl 2 rfl) ?_
    refine aldN 27 li cx hw rfl (by omega) (by decide) dX3_excess_34 ?_
    obtain ⟨n_4, hn_4, en_4⟩ := IV.a_27 hi (i := li) (by omega)
    refine topc (y := (nI n_4)) en_4 ?_
    refine lv_isub hx hb dX3_excess_35 ?_
    refine lv_topi (fun x_5 _ => ?_)
    refine lv_i2l hx hb dX3_excess_36 rfl ?_
    refine lv_topl (fun y_6 _ => ?_)
    refine lv_lstore (lv' := [(6, .long y_6), (0, .ref (a 4)), (1, .ref (a 28)), (2, .int (nI li)), (3, .int we), (4, .long mo)]) hx hb dX3_excess_37 hl (by decide) rfl (fun ls hl => ?_)
    refine lv_iload_n hx hb dX3_excess_39 rfl (lv_at hl 4 rfl) ?_
    refine lv_aload_n hx hb dX3_excess_40 rfl (lv_at hl 1 rfl) ?_
    refine gf_X3_11_4 cx hw dX3_excess_41 ?_
    refine lv_iload_n hx hb dX3_excess_44 rfl (lv_at hl 3 rfl) ?_
    refine aldN 27 li cx hw rfl (by omega) (by decide) dX3_excess_45 ?_
    refine topc (y := (nI n_4)) en_4 ?_
    refine lv_isub hx hb dX3_excess_46 ?_
    refine lv_topi (fun x_7 _ => ?_)
    refine lv_i2l hx hb dX3_excess_47 rfl ?_
    refine lv_topl (fun y_8 _ => ?_)
    refine lv_lstore (lv' := [(8, .long y_8), (6, .long y_6), (0, .ref (a 4)), (1, .ref (a 28)), (2, .int (nI li)), (3, .int we), (4, .long mo)]) hx hb dX3_excess_48 hl (by decide) rfl (fun ls hl => ?_)
    refine lv_aload_n hx hb dX3_excess_50 rfl (lv_at hl 3 rfl) ?_
    refine lv_iload_n hx hb dX3_excess_51 rfl (lv_at hl 4 rfl) ?_
    refine aldN 28 li cx hw rfl (by omega) (by decide) dX3_excess_52 ?_
    refine lv_topi (fun x_9 _ => ?_)
    refine lv_i2l hx hb dX3_excess_53 rfl ?_
    refine lv_topl (fun y_10 _ => ?_)
    refine lv_lload hx hb dX3_excess_54 (lv_at hl 1 rfl) ?_
    refine lv_lmul hx hb dX3_excess_56 ?_
    refine lv_topl (fun y_11 _ => ?_)
    refine lv_aload_n hx hb dX3_excess_57 rfl (lv_at hl 2 rfl) ?_
    refine lv_aload_n hx hb dX3_excess_58 rfl (lv_at hl 3 rfl) ?_
    refine lv_iload_n hx hb dX3_excess_59 rfl (lv_at hl 4 rfl) ?_
    refine goL hw (runVW (k := 4) (As := [.ref (a 28), .int (nI li)]) (rest := [.long y_11]) cx hw (k_X3_rise_4_28 l D a cI cZ f u li  hi (by omega)) lk_X3_37 rfl rfl ⟨Nat.le_of_ble_eq_true rfl, Nat.le_of_ble_eq_true rfl⟩ ⟨rfl, rfl⟩ ⟨Nat.zero_le _, Nat.zero_le _⟩ rfl rfl hl.1 (Nat.le_of_ble_eq_true rfl) dX3_excess_60) (fun r_12 f_12 u_12 H locs hp_12 hw => ?_)
    obtain ⟨rfl, rfl⟩ := hp_12
    refine lv_lload hx hb dX3_excess_63 (lv_at hl 0 rfl) ?_
    refine lv_lmul hx hb dX3_excess_65 ?_
    refine lv_topl (fun y_13 _ => ?_)
    refine lv_ladd hx hb dX3_excess_66 ?_
    refine lv_topl (fun y_14 _ => ?_)
    refine lv_lstore (lv' := [(10, .long y_14), (8, .long y_8), (6, .long y_6), (0, .ref (a 4)), (1, .ref (a 28)), (2, .int (nI li)), (3, .int we), (4, .long mo)]) hx hb dX3_excess_67 hl (by decide) rfl (fun ls hl => ?_)
    refine lv_lload hx hb dX3_excess_69 (lv_at hl 7 rfl) ?_
    refine lv_lload hx hb dX3_excess_71 (lv_at hl 2 rfl) ?_
    refine lv_lmul hx hb dX3_excess_73 ?_
    refine lv_topl (fun y_15 _ => ?_)
    refine lv_iload_n hx hb dX3_excess_74 rfl (lv_at hl 6 rfl) ?_
    refine lv_i2l hx hb dX3_excess_75 rfl ?_
    refine lv_topl (fun y_16 _ => ?_)
    refine lv_lload hx hb dX3_excess_76 (lv_at hl 0 rfl) ?_
    refine lv_lmul hx hb dX3_excess_78 ?_
    refine lv_topl (fun y_17 _ => ?_)
    refine lv_lsub hx hb dX3_excess_79 ?_
    refine lv_topl (fun y_18 _ => ?_)
    exact retL cx hw hr hk dX3_excess_80 ⟨rfl, rfl⟩
  · have c_2 : ¬ (li + 1) < n_1 := fun z => c_2 ((nI_ltI (a := (li + 1)) (b := n_1) (by omega) (by omega)).mpr z)
    refine lv_lload hx hb dX3_excess_10 (lv_at hl 4 rfl) ?_
    refine lv_iload_n hx hb dX3_excess_12 rfl (lv_at hl 3 rfl) ?_
    refine lv_i2l hx hb dX3_excess_13 rfl ?_
    refine lv_topl (fun y_19 _ => ?_)
    refine lv_aload_n hx hb dX3_excess_14 rfl (lv_at hl 1 rfl) ?_
    refine lv_iload_n hx hb dX3_excess_15 rfl (lv_at hl 2 rfl) ?_
    refine aldN 28 li cx hw rfl (by omega) (by decide) dX3_excess_16 ?_
    refine lv_topi (fun x_20 _ => ?_)
    refine lv_i2l hx hb dX3_excess_17 rfl ?_
    refine lv_topl (fun y_21 _ => ?_)
    refine lv_lmul hx hb dX3_excess_18 ?_
    refine lv_topl (fun y_22 _ => ?_)
    refine lv_lsub hx hb dX3_excess_19 ?_
    refine lv_topl (fun y_23 _ => ?_)
    exact retL cx hw hr hk dX3_excess_20 ⟨rfl, rfl⟩

set_option maxHeartbeats 4000000 in
set_option maxRecDepth 100000 in
theorem k_X3_rise_4_29 (l : Launch) (D : va_G) (a : Nat → Nat) (cI cZ : ClassId) (f : FF) (u : UU) (li : Nat) (hi : IV f) (h_li : li < 9) : KL l yX3_rise cX3_rise 3 (some .long) ({ frames := 1, cells := 0, slots := 0, locals := 12 } : Room) D a cI cZ [.ref (a 4), .ref (a 29), .int (nI li)] f u (fun r f2 u2 => f = f2 ∧ u = u2) := by
  refine KX.of (by decide) (Nat.le_of_ble_eq_true rfl) ?_
  intro p e s m below meth c cx hw hr hk ls hl
  have cx : Cx p s m _ c cX3_rise RX3 3 D cI cZ := cx
  have hl : lv_has ls 3 [(0, .ref (a 4)), (1, .ref (a 29)), (2, .int (nI li))] := hl
  have hx := cx.1.1
  have hb := cx.1.2.1
  refine lv_iload_n hx hb dX3_rise_0 rfl (lv_at hl 2 rfl) ?_
  refine lv_iconst (v := 1) hx hb dX3_rise_1 (by decide) ?_
  refine lv_iadd hx hb dX3_rise_2 ?_
  refine topc (y := (nI (li + 1))) (nI_add li 1) ?_
  refine lv_aload_n hx hb dX3_rise_3 rfl (lv_at hl 0 rfl) ?_
  refine gf_X3_21_4 cx hw dX3_rise_4 ?_
  obtain ⟨n_1, hn_1, en_1⟩ := IV.s_4_3 hi
  refine topc (y := (nI n_1)) en_1 ?_
  refine lv_icmp_ge (tgt := 23) hx hb dX3_rise_7 (by decide) (fun c_2 => ?_) (fun c_2 => ?_)
  · have c_2 : n_1 ≤ (li + 1) := (nI_leI (a := n_1) (b := (li + 1)) (by omega) (by omega)).mp c_2
    refine lv_lconst (v := 0) hx hb dX3_rise_23 (by decide) ?_
    exact retL cx hw hr hk dX3_rise_24 ⟨rfl, rfl⟩
  · have c_2 : ¬ n_1 ≤ (li + 1) := fun z => c_2 ((nI_leI (a := n_1) (b := (li + 1)) (by omega) (by omega)).mpr z)
    refine lv_aload_n hx hb dX3_rise_10 rfl (lv_at hl 1 rfl) ?_
    refine lv_iload_n hx hb dX3_rise_11 rfl (lv_at hl 2 rfl) ?_
    refine lv_iconst (v := 1) hx hb dX3_rise_12 (by decide) ?_
    refine lv_iadd hx hb dX3_rise_13 ?_
    refine topc (y := (nI (li + 1))) (nI_add li 1) ?_
    refine aldN 29 (li + 1) cx hw rfl (by omega) (by decide) dX3_rise_14 ?_
    refine lv_topi (fun x_3 _ => ?_)
    refine lv_aload_n hx hb dX3_rise_15 rfl (lv_at hl 1 rfl) ?_
    refine lv_iload_n hx hb dX3_rise_16 rfl (lv_at hl 2 rfl) ?_
    refine aldN 29 li cx hw rfl (by omega) (by decide) dX3_rise_17 ?_
    refine lv_topi (fun x_4 _ => ?_)
    refine lv_isub hx hb dX3_rise_18 ?_
    refine lv_topi (fun x_5 _ => ?_)
    refine lv_i2l hx hb dX3_rise_19 rfl ?_
    refine lv_topl (fun y_6 _ => ?_)
    refine lv_goto (tgt := 24) hx hb dX3_rise_20 (by decide) ?_
    exact retL cx hw hr hk dX3_rise_24 ⟨rfl, rfl⟩

set_option maxHeartbeats 4000000 in
set_option maxRecDepth 100000 in
theorem k_X3_excess_4_29 (l : Launch) (D : va_G) (a : Nat → Nat) (cI cZ : ClassId) (f : FF) (u : UU) (li : Nat) (we : Int32) (mo : Int64) (hi : IV f) (h_li : li < 9) : KL l yX3_excess cX3_excess 12 (some .long) ({ frames := 2, cells := 0, slots := 0, locals := 34 } : Room) D a cI cZ [.ref (a 4), .ref (a 29), .int (nI li), .int we, .long mo] f u (fun r f2 u2 => f = f2 ∧ u = u2) := by
  refine KX.of (by decide) (Nat.le_of_ble_eq_true rfl) ?_
  intro p e s m below meth c cx hw hr hk ls hl
  have cx : Cx p s m _ c cX3_excess RX3 12 D cI cZ := cx
  have hl : lv_has ls 12 [(0, .ref (a 4)), (1, .ref (a 29)), (2, .int (nI li)), (3, .int we), (4, .long mo)] := hl
  have hx := cx.1.1
  have hb := cx.1.2.1
  refine lv_iload_n hx hb dX3_excess_0 rfl (lv_at hl 2 rfl) ?_
  refine lv_iconst (v := 1) hx hb dX3_excess_1 (by decide) ?_
  refine lv_iadd hx hb dX3_excess_2 ?_
  refine topc (y := (nI (li + 1))) (nI_add li 1) ?_
  refine lv_aload_n hx hb dX3_excess_3 rfl (lv_at hl 0 rfl) ?_
  refine gf_X3_21_4 cx hw dX3_excess_4 ?_
  obtain ⟨n_1, hn_1, en_1⟩ := IV.s_4_3 hi
  refine topc (y := (nI n_1)) en_1 ?_
  refine lv_icmp_lt (tgt := 21) hx hb dX3_excess_7 (by decide) (fun c_2 => ?_) (fun c_2 => ?_)
  · have c_2 : (li + 1) < n_1 := (nI_ltI (a := (li + 1)) (b := n_1) (by omega) (by omega)).mp c_2
    refine lv_aload_n hx hb dX3_excess_21 rfl (lv_at hl 0 rfl) ?_
    refine gf_X3_11_4 cx hw dX3_excess_22 ?_
    refine lv_iload_n hx hb dX3_excess_25 rfl (lv_at hl 2 rfl) ?_
    refine lv_iconst (v := 1) hx hb dX3_excess_26 (by decide) ?_
    refine lv_iadd hx hb dX3_excess_27 ?_
    refine topc (y := (nI (li + 1))) (nI_add li 1) ?_
    refine aldN 27 (li + 1) cx hw rfl (by omega) (by decide) dX3_excess_28 ?_
    obtain ⟨n_3, hn_3, en_3⟩ := IV.a_27 hi (i := (li + 1)) (by omega)
    refine topc (y := (nI n_3)) en_3 ?_
    refine lv_aload_n hx hb dX3_excess_29 rfl (lv_at hl 0 rfl) ?_
    refine gf_X3_11_4 cx hw dX3_excess_30 ?_
    refine lv_iload_n hx hb dX3_excess_33 rfl (lv_at hl 2 rfl) ?_
    refine aldN 27 li cx hw rfl (by omega) (by decide) dX3_excess_34 ?_
    obtain ⟨n_4, hn_4, en_4⟩ := IV.a_27 hi (i := li) (by omega)
    refine topc (y := (nI n_4)) en_4 ?_
    refine lv_isub hx hb dX3_excess_35 ?_
    refine lv_topi (fun x_5 _ => ?_)
    refine lv_i2l hx hb dX3_excess_36 rfl ?_
    refine lv_topl (fun y_6 _ => ?_)
    refine lv_lstore (lv' := [(6, .long y_6), (0, .ref (a 4)), (1, .ref (a 29)), (2, .int (nI li)), (3, .int we), (4, .long mo)]) hx hb dX3_excess_37 hl (by decide) rfl (fun ls hl => ?_)
    refine lv_iload_n hx hb dX3_excess_39 rfl (lv_at hl 4 rfl) ?_
    refine lv_aload_n hx hb dX3_excess_40 rfl (lv_at hl 1 rfl) ?_
    refine gf_X3_11_4 cx hw dX3_excess_41 ?_
    refine lv_iload_n hx hb dX3_excess_44 rfl (lv_at hl 3 rfl) ?_
    refine aldN 27 li cx hw rfl (by omega) (by decide) dX3_excess_45 ?_
    refine topc (y := (nI n_4)) en_4 ?_
    refine lv_isub hx hb dX3_excess_46 ?_
    refine lv_topi (fun x_7 _ => ?_)
    refine lv_i2l hx hb dX3_excess_47 rfl ?_
    refine lv_topl (fun y_8 _ => ?_)
    refine lv_lstore (lv' := [(8, .long y_8), (6, .long y_6), (0, .ref (a 4)), (1, .ref (a 29)), (2, .int (nI li)), (3, .int we), (4, .long mo)]) hx hb dX3_excess_48 hl (by decide) rfl (fun ls hl => ?_)
    refine lv_aload_n hx hb dX3_excess_50 rfl (lv_at hl 3 rfl) ?_
    refine lv_iload_n hx hb dX3_excess_51 rfl (lv_at hl 4 rfl) ?_
    refine aldN 29 li cx hw rfl (by omega) (by decide) dX3_excess_52 ?_
    refine lv_topi (fun x_9 _ => ?_)
    refine lv_i2l hx hb dX3_excess_53 rfl ?_
    refine lv_topl (fun y_10 _ => ?_)
    refine lv_lload hx hb dX3_excess_54 (lv_at hl 1 rfl) ?_
    refine lv_lmul hx hb dX3_excess_56 ?_
    refine lv_topl (fun y_11 _ => ?_)
    refine lv_aload_n hx hb dX3_excess_57 rfl (lv_at hl 2 rfl) ?_
    refine lv_aload_n hx hb dX3_excess_58 rfl (lv_at hl 3 rfl) ?_
    refine lv_iload_n hx hb dX3_excess_59 rfl (lv_at hl 4 rfl) ?_
    refine goL hw (runVW (k := 4) (As := [.ref (a 29), .int (nI li)]) (rest := [.long y_11]) cx hw (k_X3_rise_4_29 l D a cI cZ f u li  hi (by omega)) lk_X3_37 rfl rfl ⟨Nat.le_of_ble_eq_true rfl, Nat.le_of_ble_eq_true rfl⟩ ⟨rfl, rfl⟩ ⟨Nat.zero_le _, Nat.zero_le _⟩ rfl rfl hl.1 (Nat.le_of_ble_eq_true rfl) dX3_excess_60) (fun r_12 f_12 u_12 H locs hp_12 hw => ?_)
    obtain ⟨rfl, rfl⟩ := hp_12
    refine lv_lload hx hb dX3_excess_63 (lv_at hl 0 rfl) ?_
    refine lv_lmul hx hb dX3_excess_65 ?_
    refine lv_topl (fun y_13 _ => ?_)
    refine lv_ladd hx hb dX3_excess_66 ?_
    refine lv_topl (fun y_14 _ => ?_)
    refine lv_lstore (lv' := [(10, .long y_14), (8, .long y_8), (6, .long y_6), (0, .ref (a 4)), (1, .ref (a 29)), (2, .int (nI li)), (3, .int we), (4, .long mo)]) hx hb dX3_excess_67 hl (by decide) rfl (fun ls hl => ?_)
    refine lv_lload hx hb dX3_excess_69 (lv_at hl 7 rfl) ?_
    refine lv_lload hx hb dX3_excess_71 (lv_at hl 2 rfl) ?_
    refine lv_lmul hx hb dX3_excess_73 ?_
    refine lv_topl (fun y_15 _ => ?_)
    refine lv_iload_n hx hb dX3_excess_74 rfl (lv_at hl 6 rfl) ?_
    refine lv_i2l hx hb dX3_excess_75 rfl ?_
    refine lv_topl (fun y_16 _ => ?_)
    refine lv_lload hx hb dX3_excess_76 (lv_at hl 0 rfl) ?_
    refine lv_lmul hx hb dX3_excess_78 ?_
    refine lv_topl (fun y_17 _ => ?_)
    refine lv_lsub hx hb dX3_excess_79 ?_
    refine lv_topl (fun y_18 _ => ?_)
    exact retL cx hw hr hk dX3_excess_80 ⟨rfl, rfl⟩
  · have c_2 : ¬ (li + 1) < n_1 := fun z => c_2 ((nI_ltI (a := (li + 1)) (b := n_1) (by omega) (by omega)).mpr z)
    refine lv_lload hx hb dX3_excess_10 (lv_at hl 4 rfl) ?_
    refine lv_iload_n hx hb dX3_excess_12 rfl (lv_at hl 3 rfl) ?_
    refine lv_i2l hx hb dX3_excess_13 rfl ?_
    refine lv_topl (fun y_19 _ => ?_)
    refine lv_aload_n hx hb dX3_excess_14 rfl (lv_at hl 1 rfl) ?_
    refine lv_iload_n hx hb dX3_excess_15 rfl (lv_at hl 2 rfl) ?_
    refine aldN 29 li cx hw rfl (by omega) (by decide) dX3_excess_16 ?_
    refine lv_topi (fun x_20 _ => ?_)
    refine lv_i2l hx hb dX3_excess_17 rfl ?_
    refine lv_topl (fun y_21 _ => ?_)
    refine lv_lmul hx hb dX3_excess_18 ?_
    refine lv_topl (fun y_22 _ => ?_)
    refine lv_lsub hx hb dX3_excess_19 ?_
    refine lv_topl (fun y_23 _ => ?_)
    exact retL cx hw hr hk dX3_excess_20 ⟨rfl, rfl⟩

set_option maxHeartbeats 4000000 in
set_option maxRecDepth 100000 in
theorem k_X3_judge_4 (l : Launch) (D : va_G) (a : Nat → Nat) (cI cZ : ClassId) (f : FF) (u : UU) (we : Int32) (mo : Int64) (hi : IV f)  : KI l yX3_judge cX3_judge 5 (some .int) ({ frames := 3, cells := 0, slots := 0, locals := 65 } : Room) D a cI cZ [.ref (a 4), .int we, .long mo] f u (fun r f2 u2 => f = f2 ∧ u = u2) := by
  refine KX.of (by decide) (Nat.le_of_ble_eq_true rfl) ?_
  intro p e s m below meth c cx hw hr hk ls hl
  have cx : Cx p s m _ c cX3_judge RX3 5 D cI cZ := cx
  have hl : lv_has ls 5 [(0, .ref (a 4)), (1, .int we), (2, .long mo)] := hl
  have hx := cx.1.1
  have hb := cx.1.2.1
  refine lv_iload_n hx hb dX3_judge_0 rfl (lv_at hl 1 rfl) ?_
  refine lv_aload_n hx hb dX3_judge_1 rfl (lv_at hl 0 rfl) ?_
  refine gf_X3_11_4 cx hw dX3_judge_2 ?_
  refine lv_iconst (v := 0) hx hb dX3_judge_5 (by decide) ?_
  refine aldN 27 0 cx hw rfl (by omega) (by decide) dX3_judge_6 ?_
  obtain ⟨n_1, hn_1, en_1⟩ := IV.a_27 hi (i := 0) (by omega)
  refine topc (y := (nI n_1)) en_1 ?_
  refine lv_icmp_ge (tgt := 12) hx hb dX3_judge_7 (by decide) (fun _ => ?_) (fun _ => ?_)
  · refine lv_iload_n hx hb dX3_judge_12 rfl (lv_at hl 1 rfl) ?_
    refine lv_aload_n hx hb dX3_judge_13 rfl (lv_at hl 0 rfl) ?_
    refine goI hw (runVW (k := 4) (As := []) (rest := [.int we]) cx hw (k_X3_lastWeight_4 l D a cI cZ f u   hi) lk_X3_25 rfl rfl ⟨Nat.le_of_ble_eq_true rfl, Nat.le_of_ble_eq_true rfl⟩ ⟨rfl, rfl⟩ ⟨Nat.zero_le _, Nat.zero_le _⟩ rfl rfl hl.1 (Nat.le_of_ble_eq_true rfl) dX3_judge_14) (fun r_3 f_3 u_3 H locs hp_3 hw => ?_)
    obtain ⟨rfl, rfl, ha_3⟩ := hp_3
    obtain ⟨b0_3_j, q0_3_0, q0_3_1, q0_3_2⟩ := ha_3
    · subst q0_3_1
      refine lv_icmp_le (tgt := 22) hx hb dX3_judge_17 (by decide) (fun _ => ?_) (fun _ => ?_)
      · refine lv_aload_n hx hb dX3_judge_22 rfl (lv_at hl 0 rfl) ?_
        refine lv_iload_n hx hb dX3_judge_23 rfl (lv_at hl 1 rfl) ?_
        refine goI hw (runVW (k := 4) (As := [.int we]) (rest := []) cx hw (k_X3_lineAt_4 l D a cI cZ f u we  hi) lk_X3_29 rfl rfl ⟨Nat.le_of_ble_eq_true rfl, Nat.le_of_ble_eq_true rfl⟩ ⟨rfl, rfl⟩ ⟨Nat.zero_le _, Nat.zero_le _⟩ rfl rfl hl.1 (Nat.le_of_ble_eq_true rfl) dX3_judge_24) (fun r_5 f_5 u_5 H locs hp_5 hw => ?_)
        obtain ⟨rfl, rfl, ha_5⟩ := hp_5
        obtain ⟨b0_5_j, q0_5_0, q0_5_1⟩ := ha_5
        · subst q0_5_1
          refine lv_istore (lv' := [(4, .int (nI b0_5_j)), (0, .ref (a 4)), (1, .int we), (2, .long mo)]) hx hb dX3_judge_27 hl (by decide) rfl (fun ls hl => ?_)
          refine lv_aload_n hx hb dX3_judge_29 rfl (lv_at hl 1 rfl) ?_
          refine lv_aload_n hx hb dX3_judge_30 rfl (lv_at hl 1 rfl) ?_
          refine gf_X3_15_4 cx hw dX3_judge_31 ?_
          refine lv_iload hx hb dX3_judge_34 (lv_at hl 0 rfl) ?_
          refine lv_iload_n hx hb dX3_judge_36 rfl (lv_at hl 2 rfl) ?_
          refine lv_lload_n hx hb dX3_judge_37 rfl (lv_at hl 3 rfl) ?_
          refine goL hw (runVW (k := 4) (As := [.ref (a 28), .int (nI b0_5_j), .int we, .long mo]) (rest := []) cx hw (k_X3_excess_4_28 l D a cI cZ f u b0_5_j we mo  hi (by omega)) lk_X3_33 rfl rfl ⟨Nat.le_of_ble_eq_true rfl, Nat.le_of_ble_eq_true rfl⟩ ⟨rfl, rfl⟩ ⟨Nat.zero_le _, Nat.zero_le _⟩ rfl rfl hl.1 (Nat.le_of_ble_eq_true rfl) dX3_judge_38) (fun r_6 f_6 u_6 H locs hp_6 hw => ?_)
          obtain ⟨rfl, rfl⟩ := hp_6
          refine lv_lconst (v := 0) hx hb dX3_judge_41 (by decide) ?_
          refine W.lcmp hx hb dX3_judge_42 ?_
          refine lv_topi (fun x_7 _ => ?_)
          refine lv_if_ge (tgt := 48) hx hb dX3_judge_43 (by decide) (fun c_8 => ?_) (fun c_8 => ?_)
          · refine lv_aload_n hx hb dX3_judge_48 rfl (lv_at hl 1 rfl) ?_
            refine lv_aload_n hx hb dX3_judge_49 rfl (lv_at hl 1 rfl) ?_
            refine gf_X3_18_4 cx hw dX3_judge_50 ?_
            refine lv_iload hx hb dX3_judge_53 (lv_at hl 0 rfl) ?_
            refine lv_iload_n hx hb dX3_judge_55 rfl (lv_at hl 2 rfl) ?_
            refine lv_lload_n hx hb dX3_judge_56 rfl (lv_at hl 3 rfl) ?_
            refine goL hw (runVW (k := 4) (As := [.ref (a 29), .int (nI b0_5_j), .int we, .long mo]) (rest := []) cx hw (k_X3_excess_4_29 l D a cI cZ f u b0_5_j we mo  hi (by omega)) lk_X3_33 rfl rfl ⟨Nat.le_of_ble_eq_true rfl, Nat.le_of_ble_eq_true rfl⟩ ⟨rfl, rfl⟩ ⟨Nat.zero_le _, Nat.zero_le _⟩ rfl rfl hl.1 (Nat.le_of_ble_eq_true rfl) dX3_judge_57) (fun r_9 f_9 u_9 H locs hp_9 hw => ?_)
            obtain ⟨rfl, rfl⟩ := hp_9
            refine lv_lconst (v := 0) hx hb dX3_judge_60 (by decide) ?_
            refine W.lcmp hx hb dX3_judge_61 ?_
            refine lv_topi (fun x_10 _ => ?_)
            refine lv_if_le (tgt := 69) hx hb dX3_judge_62 (by decide) (fun _ => ?_) (fun _ => ?_)
            · refine lv_iconst (v := 0) hx hb dX3_judge_69 (by decide) ?_
              exact retI cx hw hr hk dX3_judge_70 ⟨rfl, rfl⟩
            · refine lv_iconst (v := 4) hx hb dX3_judge_65 (by decide) ?_
              refine lv_goto (tgt := 70) hx hb dX3_judge_66 (by decide) ?_
              exact retI cx hw hr hk dX3_judge_70 ⟨rfl, rfl⟩
          · refine lv_iconst (v := 3) hx hb dX3_judge_46 (by decide) ?_
            exact retI cx hw hr hk dX3_judge_47 ⟨rfl, rfl⟩
      · refine lv_iconst (v := 2) hx hb dX3_judge_20 (by decide) ?_
        exact retI cx hw hr hk dX3_judge_21 ⟨rfl, rfl⟩
  · refine lv_iconst (v := 1) hx hb dX3_judge_10 (by decide) ?_
    exact retI cx hw hr hk dX3_judge_11 ⟨rfl, rfl⟩

set_option maxHeartbeats 4000000 in
set_option maxRecDepth 100000 in
theorem k_X3_lastWeight_5 (l : Launch) (D : va_G) (a : Nat → Nat) (cI cZ : ClassId) (f : FF) (u : UU)  (hi : IV f)  : KI l yX3_lastWeight cX3_lastWeight 1 (some .int) ({ frames := 1, cells := 0, slots := 0, locals := 12 } : Room) D a cI cZ [.ref (a 5)] f u (fun r f2 u2 => f = f2 ∧ u = u2 ∧ ((∃ j, j ≤ 1000000 ∧ r = nI j ∧ nI j = lst 1 (vC f)))) := by
  refine KX.of (by decide) (Nat.le_of_ble_eq_true rfl) ?_
  intro p e s m below meth c cx hw hr hk ls hl
  have cx : Cx p s m _ c cX3_lastWeight RX3 1 D cI cZ := cx
  have hl : lv_has ls 1 [(0, .ref (a 5))] := hl
  have hx := cx.1.1
  have hb := cx.1.2.1
  refine lv_aload_n hx hb dX3_lastWeight_0 rfl (lv_at hl 0 rfl) ?_
  refine gf_X3_21_5 cx hw dX3_lastWeight_1 ?_
  obtain ⟨n_1, hn_1, en_1⟩ := IV.s_5_3 hi
  refine topc (y := (nI n_1)) en_1 ?_
  refine lv_if_ne (tgt := 11) hx hb dX3_lastWeight_4 (by decide) (fun c_2 => ?_) (fun c_2 => ?_)
  · have c_2 : ¬ n_1 = 0 := fun z => c_2 ((nI_eq (a := n_1) (b := 0) (by omega) (by omega)).mpr z)
    refine lv_aload_n hx hb dX3_lastWeight_11 rfl (lv_at hl 0 rfl) ?_
    refine gf_X3_11_5 cx hw dX3_lastWeight_12 ?_
    refine lv_aload_n hx hb dX3_lastWeight_15 rfl (lv_at hl 0 rfl) ?_
    refine gf_X3_21_5 cx hw dX3_lastWeight_16 ?_
    refine topc (y := (nI n_1)) en_1 ?_
    refine lv_iconst (v := 1) hx hb dX3_lastWeight_19 (by decide) ?_
    refine lv_isub hx hb dX3_lastWeight_20 ?_
    refine topc (y := (nI (n_1 - 1))) (pk_sub (a := n_1) (b := 1) (by omega)) ?_
    refine aldN 30 (n_1 - 1) cx hw rfl (by omega) (by decide) dX3_lastWeight_21 ?_
    obtain ⟨n_3, hn_3, en_3⟩ := IV.a_30 hi (i := (n_1 - 1)) (by omega)
    refine topc (y := (nI n_3)) en_3 ?_
    exact retI cx hw hr hk dX3_lastWeight_22 ⟨rfl, rfl, n_3, by omega, rfl, lstC1 en_1 (by omega) (by omega) en_3⟩
  · have c_2 : n_1 = 0 := (nI_eq (a := n_1) (b := 0) (by omega) (by omega)).mp c_2
    refine lv_iconst (v := 0) hx hb dX3_lastWeight_7 (by decide) ?_
    refine lv_goto (tgt := 22) hx hb dX3_lastWeight_8 (by decide) ?_
    exact retI cx hw hr hk dX3_lastWeight_22 ⟨rfl, rfl, 0, by omega, rfl, (lst_z (q := 1) (v := vC f) en_1 (by omega)).symm⟩

set_option maxHeartbeats 4000000 in
set_option maxRecDepth 100000 in
theorem k_X3_addPoint_5 (l : Launch) (D : va_G) (a : Nat → Nat) (cI cZ : ClassId) (f : FF) (u : UU) (we : Nat) (lo : Int32) (hg : Int32) (hi : IV f) (h_w : we ≤ 1000000) : KI l yX3_addPoint cX3_addPoint 4 (some .int) ({ frames := 1, cells := 0, slots := 0, locals := 12 } : Room) D a cI cZ [.ref (a 5), .int (nI we), .int lo, .int hg] f u (fun r f2 u2 => IV f2 ∧ (r, vC f2) = S_pa 1 (nI we) (vC f) ∧ KP f f2) := by
  refine KX.of (by decide) (Nat.le_of_ble_eq_true rfl) ?_
  intro p e s m below meth c cx hw hr hk ls hl
  have cx : Cx p s m _ c cX3_addPoint RX3 4 D cI cZ := cx
  have hl : lv_has ls 4 [(0, .ref (a 5)), (1, .int (nI we)), (2, .int lo), (3, .int hg)] := hl
  have hx := cx.1.1
  have hb := cx.1.2.1
  refine lv_aload_n hx hb dX3_addPoint_0 rfl (lv_at hl 0 rfl) ?_
  refine gf_X3_21_5 cx hw dX3_addPoint_1 ?_
  obtain ⟨n_1, hn_1, en_1⟩ := IV.s_5_3 hi
  refine topc (y := (nI n_1)) en_1 ?_
  refine lv_bipush (v := 10) hx hb dX3_addPoint_4 (by decide) ?_
  refine lv_icmp_lt (tgt := 12) hx hb dX3_addPoint_6 (by decide) (fun c_2 => ?_) (fun c_2 => ?_)
  · have c_2 : n_1 < 10 := (nI_ltI (a := n_1) (b := 10) (by omega) (by omega)).mp c_2
    refine lv_aload_n hx hb dX3_addPoint_12 rfl (lv_at hl 0 rfl) ?_
    refine gf_X3_11_5 cx hw dX3_addPoint_13 ?_
    refine lv_aload_n hx hb dX3_addPoint_16 rfl (lv_at hl 0 rfl) ?_
    refine gf_X3_21_5 cx hw dX3_addPoint_17 ?_
    refine topc (y := (nI n_1)) en_1 ?_
    refine lv_iload_n hx hb dX3_addPoint_20 rfl (lv_at hl 1 rfl) ?_
    refine astN 30 n_1 cx hw rfl ws_30 (by omega) (by decide) dX3_addPoint_21 (fun H locs hw => ?_)
    have hi_3 : IV (up f 30 (upd (f 30) n_1 (nI we))) := IV.b_30 hi (okc_n (j := we) (by omega))
    have vp_4 : vC (up f 30 (upd (f 30) n_1 (nI we))) = (up (vC f) 6 (upd ((vC f) 6) n_1 (nI we))) := (vC_w_30 (by omega)).trans (congrArg (fun z : FF => up z 6 (upd (z 6) n_1 (nI we))) (rfl : vC f = (vC f)))
    refine lv_aload_n hx hb dX3_addPoint_22 rfl (lv_at hl 0 rfl) ?_
    refine gf_X3_15_5 cx hw dX3_addPoint_23 ?_
    refine lv_aload_n hx hb dX3_addPoint_26 rfl (lv_at hl 0 rfl) ?_
    refine gf_X3_21_5 cx hw dX3_addPoint_27 ?_
    refine topc (y := (nI n_1)) en_1 ?_
    refine lv_iload_n hx hb dX3_addPoint_30 rfl (lv_at hl 2 rfl) ?_
    refine astN 31 n_1 cx hw rfl ws_31 (by omega) (by decide) dX3_addPoint_31 (fun H locs hw => ?_)
    have hi_5 : IV (up (up f 30 (upd (f 30) n_1 (nI we))) 31 (upd ((up f 30 (upd (f 30) n_1 (nI we))) 31) n_1 lo)) := IV.wr hi_3 31 trivial
    refine lv_aload_n hx hb dX3_addPoint_32 rfl (lv_at hl 0 rfl) ?_
    refine gf_X3_18_5 cx hw dX3_addPoint_33 ?_
    refine lv_aload_n hx hb dX3_addPoint_36 rfl (lv_at hl 0 rfl) ?_
    refine gf_X3_21_5 cx hw dX3_addPoint_37 ?_
    refine topc (y := (nI n_1)) en_1 ?_
    refine lv_iload_n hx hb dX3_addPoint_40 rfl (lv_at hl 3 rfl) ?_
    refine astN 32 n_1 cx hw rfl ws_32 (by omega) (by decide) dX3_addPoint_41 (fun H locs hw => ?_)
    have hi_6 : IV (up (up (up f 30 (upd (f 30) n_1 (nI we))) 31 (upd ((up f 30 (upd (f 30) n_1 (nI we))) 31) n_1 lo)) 32 (upd ((up (up f 30 (upd (f 30) n_1 (nI we))) 31 (upd ((up f 30 (upd (f 30) n_1 (nI we))) 31) n_1 lo)) 32) n_1 hg)) := IV.wr hi_5 32 trivial
    refine lv_aload_n hx hb dX3_addPoint_42 rfl (lv_at hl 0 rfl) ?_
    refine lv_dup hx hb dX3_addPoint_43 rfl ?_
    refine gf_X3_21_5 cx hw dX3_addPoint_44 ?_
    refine topc (y := (nI n_1)) en_1 ?_
    refine lv_iconst (v := 1) hx hb dX3_addPoint_47 (by decide) ?_
    refine lv_iadd hx hb dX3_addPoint_48 ?_
    refine topc (y := (nI (n_1 + 1))) (nI_add n_1 1) ?_
    refine lv_dup_x1 hx hb dX3_addPoint_49 rfl rfl ?_
    refine pf_X3_21_5 cx hw dX3_addPoint_50 (fun H locs hw => ?_)
    have hi_7 : IV (up (up (up (up f 30 (upd (f 30) n_1 (nI we))) 31 (upd ((up f 30 (upd (f 30) n_1 (nI we))) 31) n_1 lo)) 32 (upd ((up (up f 30 (upd (f 30) n_1 (nI we))) 31 (upd ((up f 30 (upd (f 30) n_1 (nI we))) 31) n_1 lo)) 32) n_1 hg)) 5 (upd ((up (up (up f 30 (upd (f 30) n_1 (nI we))) 31 (upd ((up f 30 (upd (f 30) n_1 (nI we))) 31) n_1 lo)) 32 (upd ((up (up f 30 (upd (f 30) n_1 (nI we))) 31 (upd ((up f 30 (upd (f 30) n_1 (nI we))) 31) n_1 lo)) 32) n_1 hg)) 5) 3 (nI (n_1 + 1)))) := IV.t_5_3 hi_6 (okc_n (j := (n_1 + 1)) (by omega))
    have vp_8 : vC (up (up (up (up f 30 (upd (f 30) n_1 (nI we))) 31 (upd ((up f 30 (upd (f 30) n_1 (nI we))) 31) n_1 lo)) 32 (upd ((up (up f 30 (upd (f 30) n_1 (nI we))) 31 (upd ((up f 30 (upd (f 30) n_1 (nI we))) 31) n_1 lo)) 32) n_1 hg)) 5 (upd ((up (up (up f 30 (upd (f 30) n_1 (nI we))) 31 (upd ((up f 30 (upd (f 30) n_1 (nI we))) 31) n_1 lo)) 32 (upd ((up (up f 30 (upd (f 30) n_1 (nI we))) 31 (upd ((up f 30 (upd (f 30) n_1 (nI we))) 31) n_1 lo)) 32) n_1 hg)) 5) 3 (nI (n_1 + 1)))) = (up (up (vC f) 6 (upd ((vC f) 6) n_1 (nI we))) 4 (upd ((up (vC f) 6 (upd ((vC f) 6) n_1 (nI we))) 4) 1 (nI (n_1 + 1)))) := (vC_s_5_3).trans (congrArg (fun z : FF => up z 4 (upd (z 4) 1 (nI (n_1 + 1)))) (vp_4 : vC (up (up (up f 30 (upd (f 30) n_1 (nI we))) 31 (upd ((up f 30 (upd (f 30) n_1 (nI we))) 31) n_1 lo)) 32 (upd ((up (up f 30 (upd (f 30) n_1 (nI we))) 31 (upd ((up f 30 (upd (f 30) n_1 (nI we))) 31) n_1 lo)) 32) n_1 hg)) = (up (vC f) 6 (upd ((vC f) 6) n_1 (nI we)))))
    exact retI cx hw hr hk dX3_addPoint_53 ⟨hi_7, ((congrArg (Prod.mk (nI (n_1 + 1))) (vp_8 : vC (up (up (up (up f 30 (upd (f 30) n_1 (nI we))) 31 (upd ((up f 30 (upd (f 30) n_1 (nI we))) 31) n_1 lo)) 32 (upd ((up (up f 30 (upd (f 30) n_1 (nI we))) 31 (upd ((up f 30 (upd (f 30) n_1 (nI we))) 31) n_1 lo)) 32) n_1 hg)) 5 (upd ((up (up (up f 30 (upd (f 30) n_1 (nI we))) 31 (upd ((up f 30 (upd (f 30) n_1 (nI we))) 31) n_1 lo)) 32 (upd ((up (up f 30 (upd (f 30) n_1 (nI we))) 31 (upd ((up f 30 (upd (f 30) n_1 (nI we))) 31) n_1 lo)) 32) n_1 hg)) 5) 3 (nI (n_1 + 1)))) = (up (up (vC f) 6 (upd ((vC f) 6) n_1 (nI we))) 4 (upd ((up (vC f) 6 (upd ((vC f) 6) n_1 (nI we))) 4) 1 (nI (n_1 + 1)))))).trans (show _ = S_pa 1 (nI we) (vC f) from (S_pa_n (q := 1) (v := vC f) (k := n_1) en_1 (by omega) (by omega)).symm)), (KP.up (by decide) (KP.up (by decide) (KP.up (by decide) (KP.up (by decide) KP.rf))))⟩
  · have c_2 : ¬ n_1 < 10 := fun z => c_2 ((nI_ltI (a := n_1) (b := 10) (by omega) (by omega)).mpr z)
    refine lv_bipush (v := (-4)) hx hb dX3_addPoint_9 (by decide) ?_
    exact retI cx hw hr hk dX3_addPoint_11 ⟨hi, ((congrArg (Prod.mk (-4)) (rfl : vC f = (vC f))).trans (show _ = S_pa 1 (nI we) (vC f) from (S_pa_f (q := 1) (v := vC f) (k := n_1) en_1 (by omega)).symm)), KP.rf⟩

set_option maxHeartbeats 4000000 in
set_option maxRecDepth 100000 in
theorem k_X3_spans_5 (l : Launch) (D : va_G) (a : Nat → Nat) (cI cZ : ClassId) (f : FF) (u : UU) (we : Int32) (hi : IV f)  : KI l yX3_spans cX3_spans 2 (some .boolean) ({ frames := 2, cells := 0, slots := 0, locals := 32 } : Room) D a cI cZ [.ref (a 5), .int we] f u (fun r f2 u2 => f = f2 ∧ u = u2) := by
  refine KX.of (by decide) (Nat.le_of_ble_eq_true rfl) ?_
  intro p e s m below meth c cx hw hr hk ls hl
  have cx : Cx p s m _ c cX3_spans RX3 2 D cI cZ := cx
  have hl : lv_has ls 2 [(0, .ref (a 5)), (1, .int we)] := hl
  have hx := cx.1.1
  have hb := cx.1.2.1
  refine lv_iload_n hx hb dX3_spans_0 rfl (lv_at hl 1 rfl) ?_
  refine lv_aload_n hx hb dX3_spans_1 rfl (lv_at hl 0 rfl) ?_
  refine gf_X3_11_5 cx hw dX3_spans_2 ?_
  refine lv_iconst (v := 0) hx hb dX3_spans_5 (by decide) ?_
  refine aldN 30 0 cx hw rfl (by omega) (by decide) dX3_spans_6 ?_
  obtain ⟨n_1, hn_1, en_1⟩ := IV.a_30 hi (i := 0) (by omega)
  refine topc (y := (nI n_1)) en_1 ?_
  refine lv_icmp_lt (tgt := 22) hx hb dX3_spans_7 (by decide) (fun _ => ?_) (fun _ => ?_)
  · refine lv_iconst (v := 0) hx hb dX3_spans_22 (by decide) ?_
    exact retZ cx hw hr hk rfl dX3_spans_23 ⟨rfl, rfl⟩
  · refine lv_iload_n hx hb dX3_spans_10 rfl (lv_at hl 1 rfl) ?_
    refine lv_aload_n hx hb dX3_spans_11 rfl (lv_at hl 0 rfl) ?_
    refine goI hw (runVW (k := 5) (As := []) (rest := [.int we]) cx hw (k_X3_lastWeight_5 l D a cI cZ f u   hi) lk_X3_25 rfl rfl ⟨Nat.le_of_ble_eq_true rfl, Nat.le_of_ble_eq_true rfl⟩ ⟨rfl, rfl⟩ ⟨Nat.zero_le _, Nat.zero_le _⟩ rfl rfl hl.1 (Nat.le_of_ble_eq_true rfl) dX3_spans_12) (fun r_3 f_3 u_3 H locs hp_3 hw => ?_)
    obtain ⟨rfl, rfl, ha_3⟩ := hp_3
    obtain ⟨b0_3_j, q0_3_0, q0_3_1, q0_3_2⟩ := ha_3
    · subst q0_3_1
      refine lv_icmp_gt (tgt := 22) hx hb dX3_spans_15 (by decide) (fun _ => ?_) (fun _ => ?_)
      · refine lv_iconst (v := 0) hx hb dX3_spans_22 (by decide) ?_
        exact retZ cx hw hr hk rfl dX3_spans_23 ⟨rfl, rfl⟩
      · refine lv_iconst (v := 1) hx hb dX3_spans_18 (by decide) ?_
        refine lv_goto (tgt := 23) hx hb dX3_spans_19 (by decide) ?_
        exact retZ cx hw hr hk rfl dX3_spans_23 ⟨rfl, rfl⟩

set_option maxHeartbeats 4000000 in
set_option maxRecDepth 100000 in
theorem k_X3_lineAt_5 (l : Launch) (D : va_G) (a : Nat → Nat) (cI cZ : ClassId) (f : FF) (u : UU) (we : Int32) (hi : IV f)  : KI l yX3_lineAt cX3_lineAt 3 (some .int) ({ frames := 1, cells := 0, slots := 0, locals := 12 } : Room) D a cI cZ [.ref (a 5), .int we] f u (fun r f2 u2 => f = f2 ∧ u = u2 ∧ ((∃ j, j < 9 ∧ r = nI j))) := by
  refine KX.of (by decide) (Nat.le_of_ble_eq_true rfl) ?_
  intro p e s m below meth c cx hw hr hk ls hl
  have cx : Cx p s m _ c cX3_lineAt RX3 3 D cI cZ := cx
  have hl : lv_has ls 3 [(0, .ref (a 5)), (1, .int we)] := hl
  have hx := cx.1.1
  have hb := cx.1.2.1
  refine lv_iconst (v := 0) hx hb dX3_lineAt_0 (by decide) ?_
  refine lv_istore_n (lv' := [(2, .int 0), (0, .ref (a 5)), (1, .int we)]) hx hb dX3_lineAt_1 rfl hl (by decide) rfl (fun ls hl => ?_)
  have loop_1 : ∀ (k_1 : Nat) (v2_1 : Nat), v2_1 ≤ 8 → 8 + 1 - v2_1 < k_1 → ∀ (H : Heap) (locs : List Loc) (ls : Array Slot), Wd D a cI cZ s f u H locs → lv_has ls 3 [(2, .int (nI v2_1)), (0, .ref (a 5)), (1, .int we)] → W p l e ({ frames := 1, cells := 0, slots := 0, locals := 12 } : Room) s m ([.ref (a 5), .int we] : List Value).toArray below meth c H locs 0 0 (MQ below (QI D a cI cZ (fun r f2 u2 => f = f2 ∧ u = u2 ∧ ((∃ j, j < 9 ∧ r = nI j)))) ([.ref (a 5), .int we] : List Value).toArray s 0 0 (AA a)) (F0 m 2 ls []) := by
    intro k_1
    induction k_1 with
    | zero => intros; omega
    | succ k_1 ih_1 =>
      intro v2_1  hb0_1  hm_1  H locs ls hw hl
      refine lv_iload_n hx hb dX3_lineAt_2 rfl (lv_at hl 0 rfl) ?_
      refine lv_iconst (v := 2) hx hb dX3_lineAt_3 (by decide) ?_
      refine lv_iadd hx hb dX3_lineAt_4 ?_
      refine topc (y := (nI (v2_1 + 2))) (nI_add v2_1 2) ?_
      refine lv_aload_n hx hb dX3_lineAt_5 rfl (lv_at hl 1 rfl) ?_
      refine gf_X3_21_5 cx hw dX3_lineAt_6 ?_
      obtain ⟨n_2, hn_2, en_2⟩ := IV.s_5_3 hi
      refine topc (y := (nI n_2)) en_2 ?_
      refine lv_icmp_ge (tgt := 30) hx hb dX3_lineAt_9 (by decide) (fun c_3 => ?_) (fun c_3 => ?_)
      · have c_3 : n_2 ≤ (v2_1 + 2) := (nI_leI (a := n_2) (b := (v2_1 + 2)) (by omega) (by omega)).mp c_3
        refine lv_iload_n hx hb dX3_lineAt_30 rfl (lv_at hl 0 rfl) ?_
        exact retI cx hw hr hk dX3_lineAt_31 ⟨rfl, rfl, v2_1, by omega, rfl⟩
      · have c_3 : ¬ n_2 ≤ (v2_1 + 2) := fun z => c_3 ((nI_leI (a := n_2) (b := (v2_1 + 2)) (by omega) (by omega)).mpr z)
        refine lv_iload_n hx hb dX3_lineAt_12 rfl (lv_at hl 2 rfl) ?_
        refine lv_aload_n hx hb dX3_lineAt_13 rfl (lv_at hl 1 rfl) ?_
        refine gf_X3_11_5 cx hw dX3_lineAt_14 ?_
        refine lv_iload_n hx hb dX3_lineAt_17 rfl (lv_at hl 0 rfl) ?_
        refine lv_iconst (v := 1) hx hb dX3_lineAt_18 (by decide) ?_
        refine lv_iadd hx hb dX3_lineAt_19 ?_
        refine topc (y := (nI (v2_1 + 1))) (nI_add v2_1 1) ?_
        refine aldN 30 (v2_1 + 1) cx hw rfl (by omega) (by decide) dX3_lineAt_20 ?_
        obtain ⟨n_4, hn_4, en_4⟩ := IV.a_30 hi (i := (v2_1 + 1)) (by omega)
        refine topc (y := (nI n_4)) en_4 ?_
        refine lv_icmp_le (tgt := 30) hx hb dX3_lineAt_21 (by decide) (fun _ => ?_) (fun _ => ?_)
        · refine lv_iload_n hx hb dX3_lineAt_30 rfl (lv_at hl 0 rfl) ?_
          exact retI cx hw hr hk dX3_lineAt_31 ⟨rfl, rfl, v2_1, by omega, rfl⟩
        · refine lv_iinc (v := (nI (v2_1 + 1))) (lv' := [(2, .int (nI (v2_1 + 1))), (0, .ref (a 5)), (1, .int we)]) hx hb dX3_lineAt_24 hl (k := 0) rfl (nI_add v2_1 1) (by decide) rfl (fun ls hl => ?_)
          refine lv_goto (tgt := 2) hx hb dX3_lineAt_27 (by decide) ?_
          exact ih_1 (v2_1 + 1)  (by omega) (by omega) _ _ _ hw (lv_sub hl [0, 1, 2] rfl)
  exact loop_1 _ 0  (by omega)  (Nat.lt_succ_self _) _ _ _ hw (lv_sub hl [0, 1, 2] rfl)

set_option maxHeartbeats 4000000 in
set_option maxRecDepth 100000 in
theorem k_X3_rise_5_31 (l : Launch) (D : va_G) (a : Nat → Nat) (cI cZ : ClassId) (f : FF) (u : UU) (li : Nat) (hi : IV f) (h_li : li < 9) : KL l yX3_rise cX3_rise 3 (some .long) ({ frames := 1, cells := 0, slots := 0, locals := 12 } : Room) D a cI cZ [.ref (a 5), .ref (a 31), .int (nI li)] f u (fun r f2 u2 => f = f2 ∧ u = u2) := by
  refine KX.of (by decide) (Nat.le_of_ble_eq_true rfl) ?_
  intro p e s m below meth c cx hw hr hk ls hl
  have cx : Cx p s m _ c cX3_rise RX3 3 D cI cZ := cx
  have hl : lv_has ls 3 [(0, .ref (a 5)), (1, .ref (a 31)), (2, .int (nI li))] := hl
  have hx := cx.1.1
  have hb := cx.1.2.1
  refine lv_iload_n hx hb dX3_rise_0 rfl (lv_at hl 2 rfl) ?_
  refine lv_iconst (v := 1) hx hb dX3_rise_1 (by decide) ?_
  refine lv_iadd hx hb dX3_rise_2 ?_
  refine topc (y := (nI (li + 1))) (nI_add li 1) ?_
  refine lv_aload_n hx hb dX3_rise_3 rfl (lv_at hl 0 rfl) ?_
  refine gf_X3_21_5 cx hw dX3_rise_4 ?_
  obtain ⟨n_1, hn_1, en_1⟩ := IV.s_5_3 hi
  refine topc (y := (nI n_1)) en_1 ?_
  refine lv_icmp_ge (tgt := 23) hx hb dX3_rise_7 (by decide) (fun c_2 => ?_) (fun c_2 => ?_)
  · have c_2 : n_1 ≤ (li + 1) := (nI_leI (a := n_1) (b := (li + 1)) (by omega) (by omega)).mp c_2
    refine lv_lconst (v := 0) hx hb dX3_rise_23 (by decide) ?_
    exact retL cx hw hr hk dX3_rise_24 ⟨rfl, rfl⟩
  · have c_2 : ¬ n_1 ≤ (li + 1) := fun z => c_2 ((nI_leI (a := n_1) (b := (li + 1)) (by omega) (by omega)).mpr z)
    refine lv_aload_n hx hb dX3_rise_10 rfl (lv_at hl 1 rfl) ?_
    refine lv_iload_n hx hb dX3_rise_11 rfl (lv_at hl 2 rfl) ?_
    refine lv_iconst (v := 1) hx hb dX3_rise_12 (by decide) ?_
    refine lv_iadd hx hb dX3_rise_13 ?_
    refine topc (y := (nI (li + 1))) (nI_add li 1) ?_
    refine aldN 31 (li + 1) cx hw rfl (by omega) (by decide) dX3_rise_14 ?_
    refine lv_topi (fun x_3 _ => ?_)
    refine lv_aload_n hx hb dX3_rise_15 rfl (lv_at hl 1 rfl) ?_
    refine lv_iload_n hx hb dX3_rise_16 rfl (lv_at hl 2 rfl) ?_
    refine aldN 31 li cx hw rfl (by omega) (by decide) dX3_rise_17 ?_
    refine lv_topi (fun x_4 _ => ?_)
    refine lv_isub hx hb dX3_rise_18 ?_
    refine lv_topi (fun x_5 _ => ?_)
    refine lv_i2l hx hb dX3_rise_19 rfl ?_
    refine lv_topl (fun y_6 _ => ?_)
    refine lv_goto (tgt := 24) hx hb dX3_rise_20 (by decide) ?_
    exact retL cx hw hr hk dX3_rise_24 ⟨rfl, rfl⟩

set_option maxHeartbeats 4000000 in
set_option maxRecDepth 100000 in
theorem k_X3_excess_5_31 (l : Launch) (D : va_G) (a : Nat → Nat) (cI cZ : ClassId) (f : FF) (u : UU) (li : Nat) (we : Int32) (mo : Int64) (hi : IV f) (h_li : li < 9) : KL l yX3_excess cX3_excess 12 (some .long) ({ frames := 2, cells := 0, slots := 0, locals := 34 } : Room) D a cI cZ [.ref (a 5), .ref (a 31), .int (nI li), .int we, .long mo] f u (fun r f2 u2 => f = f2 ∧ u = u2) := by
  refine KX.of (by decide) (Nat.le_of_ble_eq_true rfl) ?_
  intro p e s m below meth c cx hw hr hk ls hl
  have cx : Cx p s m _ c cX3_excess RX3 12 D cI cZ := cx
  have hl : lv_has ls 12 [(0, .ref (a 5)), (1, .ref (a 31)), (2, .int (nI li)), (3, .int we), (4, .long mo)] := hl
  have hx := cx.1.1
  have hb := cx.1.2.1
  refine lv_iload_n hx hb dX3_excess_0 rfl (lv_at hl 2 rfl) ?_
  refine lv_iconst (v := 1) hx hb dX3_excess_1 (by decide) ?_
  refine lv_iadd hx hb dX3_excess_2 ?_
  refine topc (y := (nI (li + 1))) (nI_add li 1) ?_
  refine lv_aload_n hx hb dX3_excess_3 rfl (lv_at hl 0 rfl) ?_
  refine gf_X3_21_5 cx hw dX3_excess_4 ?_
  obtain ⟨n_1, hn_1, en_1⟩ := IV.s_5_3 hi
  refine topc (y := (nI n_1)) en_1 ?_
  refine lv_icmp_lt (tgt := 21) hx hb dX3_excess_7 (by decide) (fun c_2 => ?_) (fun c_2 => ?_)
  · have c_2 : (li + 1) < n_1 := (nI_ltI (a := (li + 1)) (b := n_1) (by omega) (by omega)).mp c_2
    refine lv_aload_n hx hb dX3_excess_21 rfl (lv_at hl 0 rfl) ?_
    refine gf_X3_11_5 cx hw dX3_excess_22 ?_
    refine lv_iload_n hx hb dX3_excess_25 rfl (lv_at hl 2 rfl) ?_
    refine lv_iconst (v := 1) hx hb dX3_excess_26 (by decide) ?_
    refine lv_iadd hx hb dX3_excess_27 ?_
    refine topc (y := (nI (li + 1))) (nI_add li 1) ?_
    refine aldN 30 (li + 1) cx hw rfl (by omega) (by decide) dX3_excess_28 ?_
    obtain ⟨n_3, hn_3, en_3⟩ := IV.a_30 hi (i := (li + 1)) (by omega)
    refine topc (y := (nI n_3)) en_3 ?_
    refine lv_aload_n hx hb dX3_excess_29 rfl (lv_at hl 0 rfl) ?_
    refine gf_X3_11_5 cx hw dX3_excess_30 ?_
    refine lv_iload_n hx hb dX3_excess_33 rfl (lv_at hl 2 rfl) ?_
    refine aldN 30 li cx hw rfl (by omega) (by decide) dX3_excess_34 ?_
    obtain ⟨n_4, hn_4, en_4⟩ := IV.a_30 hi (i := li) (by omega)
    refine topc (y := (nI n_4)) en_4 ?_
    refine lv_isub hx hb dX3_excess_35 ?_
    refine lv_topi (fun x_5 _ => ?_)
    refine lv_i2l hx hb dX3_excess_36 rfl ?_
    refine lv_topl (fun y_6 _ => ?_)
    refine lv_lstore (lv' := [(6, .long y_6), (0, .ref (a 5)), (1, .ref (a 31)), (2, .int (nI li)), (3, .int we), (4, .long mo)]) hx hb dX3_excess_37 hl (by decide) rfl (fun ls hl => ?_)
    refine lv_iload_n hx hb dX3_excess_39 rfl (lv_at hl 4 rfl) ?_
    refine lv_aload_n hx hb dX3_excess_40 rfl (lv_at hl 1 rfl) ?_
    refine gf_X3_11_5 cx hw dX3_excess_41 ?_
    refine lv_iload_n hx hb dX3_excess_44 rfl (lv_at hl 3 rfl) ?_
    refine aldN 30 li cx hw rfl (by omega) (by decide) dX3_excess_45 ?_
    refine topc (y := (nI n_4)) en_4 ?_
    refine lv_isub hx hb dX3_excess_46 ?_
    refine lv_topi (fun x_7 _ => ?_)
    refine lv_i2l hx hb dX3_excess_47 rfl ?_
    refine lv_topl (fun y_8 _ => ?_)
    refine lv_lstore (lv' := [(8, .long y_8), (6, .long y_6), (0, .ref (a 5)), (1, .ref (a 31)), (2, .int (nI li)), (3, .int we), (4, .long mo)]) hx hb dX3_excess_48 hl (by decide) rfl (fun ls hl => ?_)
    refine lv_aload_n hx hb dX3_excess_50 rfl (lv_at hl 3 rfl) ?_
    refine lv_iload_n hx hb dX3_excess_51 rfl (lv_at hl 4 rfl) ?_
    refine aldN 31 li cx hw rfl (by omega) (by decide) dX3_excess_52 ?_
    refine lv_topi (fun x_9 _ => ?_)
    refine lv_i2l hx hb dX3_excess_53 rfl ?_
    refine lv_topl (fun y_10 _ => ?_)
    refine lv_lload hx hb dX3_excess_54 (lv_at hl 1 rfl) ?_
    refine lv_lmul hx hb dX3_excess_56 ?_
    refine lv_topl (fun y_11 _ => ?_)
    refine lv_aload_n hx hb dX3_excess_57 rfl (lv_at hl 2 rfl) ?_
    refine lv_aload_n hx hb dX3_excess_58 rfl (lv_at hl 3 rfl) ?_
    refine lv_iload_n hx hb dX3_excess_59 rfl (lv_at hl 4 rfl) ?_
    refine goL hw (runVW (k := 5) (As := [.ref (a 31), .int (nI li)]) (rest := [.long y_11]) cx hw (k_X3_rise_5_31 l D a cI cZ f u li  hi (by omega)) lk_X3_37 rfl rfl ⟨Nat.le_of_ble_eq_true rfl, Nat.le_of_ble_eq_true rfl⟩ ⟨rfl, rfl⟩ ⟨Nat.zero_le _, Nat.zero_le _⟩ rfl rfl hl.1 (Nat.le_of_ble_eq_true rfl) dX3_excess_60) (fun r_12 f_12 u_12 H locs hp_12 hw => ?_)
    obtain ⟨rfl, rfl⟩ := hp_12
    refine lv_lload hx hb dX3_excess_63 (lv_at hl 0 rfl) ?_
    refine lv_lmul hx hb dX3_excess_65 ?_
    refine lv_topl (fun y_13 _ => ?_)
    refine lv_ladd hx hb dX3_excess_66 ?_
    refine lv_topl (fun y_14 _ => ?_)
    refine lv_lstore (lv' := [(10, .long y_14), (8, .long y_8), (6, .long y_6), (0, .ref (a 5)), (1, .ref (a 31)), (2, .int (nI li)), (3, .int we), (4, .long mo)]) hx hb dX3_excess_67 hl (by decide) rfl (fun ls hl => ?_)
    refine lv_lload hx hb dX3_excess_69 (lv_at hl 7 rfl) ?_
    refine lv_lload hx hb dX3_excess_71 (lv_at hl 2 rfl) ?_
    refine lv_lmul hx hb dX3_excess_73 ?_
    refine lv_topl (fun y_15 _ => ?_)
    refine lv_iload_n hx hb dX3_excess_74 rfl (lv_at hl 6 rfl) ?_
    refine lv_i2l hx hb dX3_excess_75 rfl ?_
    refine lv_topl (fun y_16 _ => ?_)
    refine lv_lload hx hb dX3_excess_76 (lv_at hl 0 rfl) ?_
    refine lv_lmul hx hb dX3_excess_78 ?_
    refine lv_topl (fun y_17 _ => ?_)
    refine lv_lsub hx hb dX3_excess_79 ?_
    refine lv_topl (fun y_18 _ => ?_)
    exact retL cx hw hr hk dX3_excess_80 ⟨rfl, rfl⟩
  · have c_2 : ¬ (li + 1) < n_1 := fun z => c_2 ((nI_ltI (a := (li + 1)) (b := n_1) (by omega) (by omega)).mpr z)
    refine lv_lload hx hb dX3_excess_10 (lv_at hl 4 rfl) ?_
    refine lv_iload_n hx hb dX3_excess_12 rfl (lv_at hl 3 rfl) ?_
    refine lv_i2l hx hb dX3_excess_13 rfl ?_
    refine lv_topl (fun y_19 _ => ?_)
    refine lv_aload_n hx hb dX3_excess_14 rfl (lv_at hl 1 rfl) ?_
    refine lv_iload_n hx hb dX3_excess_15 rfl (lv_at hl 2 rfl) ?_
    refine aldN 31 li cx hw rfl (by omega) (by decide) dX3_excess_16 ?_
    refine lv_topi (fun x_20 _ => ?_)
    refine lv_i2l hx hb dX3_excess_17 rfl ?_
    refine lv_topl (fun y_21 _ => ?_)
    refine lv_lmul hx hb dX3_excess_18 ?_
    refine lv_topl (fun y_22 _ => ?_)
    refine lv_lsub hx hb dX3_excess_19 ?_
    refine lv_topl (fun y_23 _ => ?_)
    exact retL cx hw hr hk dX3_excess_20 ⟨rfl, rfl⟩

set_option maxHeartbeats 4000000 in
set_option maxRecDepth 100000 in
theorem k_X3_rise_5_32 (l : Launch) (D : va_G) (a : Nat → Nat) (cI cZ : ClassId) (f : FF) (u : UU) (li : Nat) (hi : IV f) (h_li : li < 9) : KL l yX3_rise cX3_rise 3 (some .long) ({ frames := 1, cells := 0, slots := 0, locals := 12 } : Room) D a cI cZ [.ref (a 5), .ref (a 32), .int (nI li)] f u (fun r f2 u2 => f = f2 ∧ u = u2) := by
  refine KX.of (by decide) (Nat.le_of_ble_eq_true rfl) ?_
  intro p e s m below meth c cx hw hr hk ls hl
  have cx : Cx p s m _ c cX3_rise RX3 3 D cI cZ := cx
  have hl : lv_has ls 3 [(0, .ref (a 5)), (1, .ref (a 32)), (2, .int (nI li))] := hl
  have hx := cx.1.1
  have hb := cx.1.2.1
  refine lv_iload_n hx hb dX3_rise_0 rfl (lv_at hl 2 rfl) ?_
  refine lv_iconst (v := 1) hx hb dX3_rise_1 (by decide) ?_
  refine lv_iadd hx hb dX3_rise_2 ?_
  refine topc (y := (nI (li + 1))) (nI_add li 1) ?_
  refine lv_aload_n hx hb dX3_rise_3 rfl (lv_at hl 0 rfl) ?_
  refine gf_X3_21_5 cx hw dX3_rise_4 ?_
  obtain ⟨n_1, hn_1, en_1⟩ := IV.s_5_3 hi
  refine topc (y := (nI n_1)) en_1 ?_
  refine lv_icmp_ge (tgt := 23) hx hb dX3_rise_7 (by decide) (fun c_2 => ?_) (fun c_2 => ?_)
  · have c_2 : n_1 ≤ (li + 1) := (nI_leI (a := n_1) (b := (li + 1)) (by omega) (by omega)).mp c_2
    refine lv_lconst (v := 0) hx hb dX3_rise_23 (by decide) ?_
    exact retL cx hw hr hk dX3_rise_24 ⟨rfl, rfl⟩
  · have c_2 : ¬ n_1 ≤ (li + 1) := fun z => c_2 ((nI_leI (a := n_1) (b := (li + 1)) (by omega) (by omega)).mpr z)
    refine lv_aload_n hx hb dX3_rise_10 rfl (lv_at hl 1 rfl) ?_
    refine lv_iload_n hx hb dX3_rise_11 rfl (lv_at hl 2 rfl) ?_
    refine lv_iconst (v := 1) hx hb dX3_rise_12 (by decide) ?_
    refine lv_iadd hx hb dX3_rise_13 ?_
    refine topc (y := (nI (li + 1))) (nI_add li 1) ?_
    refine aldN 32 (li + 1) cx hw rfl (by omega) (by decide) dX3_rise_14 ?_
    refine lv_topi (fun x_3 _ => ?_)
    refine lv_aload_n hx hb dX3_rise_15 rfl (lv_at hl 1 rfl) ?_
    refine lv_iload_n hx hb dX3_rise_16 rfl (lv_at hl 2 rfl) ?_
    refine aldN 32 li cx hw rfl (by omega) (by decide) dX3_rise_17 ?_
    refine lv_topi (fun x_4 _ => ?_)
    refine lv_isub hx hb dX3_rise_18 ?_
    refine lv_topi (fun x_5 _ => ?_)
    refine lv_i2l hx hb dX3_rise_19 rfl ?_
    refine lv_topl (fun y_6 _ => ?_)
    refine lv_goto (tgt := 24) hx hb dX3_rise_20 (by decide) ?_
    exact retL cx hw hr hk dX3_rise_24 ⟨rfl, rfl⟩

set_option maxHeartbeats 4000000 in
set_option maxRecDepth 100000 in
theorem k_X3_excess_5_32 (l : Launch) (D : va_G) (a : Nat → Nat) (cI cZ : ClassId) (f : FF) (u : UU) (li : Nat) (we : Int32) (mo : Int64) (hi : IV f) (h_li : li < 9) : KL l yX3_excess cX3_excess 12 (some .long) ({ frames := 2, cells := 0, slots := 0, locals := 34 } : Room) D a cI cZ [.ref (a 5), .ref (a 32), .int (nI li), .int we, .long mo] f u (fun r f2 u2 => f = f2 ∧ u = u2) := by
  refine KX.of (by decide) (Nat.le_of_ble_eq_true rfl) ?_
  intro p e s m below meth c cx hw hr hk ls hl
  have cx : Cx p s m _ c cX3_excess RX3 12 D cI cZ := cx
  have hl : lv_has ls 12 [(0, .ref (a 5)), (1, .ref (a 32)), (2, .int (nI li)), (3, .int we), (4, .long mo)] := hl
  have hx := cx.1.1
  have hb := cx.1.2.1
  refine lv_iload_n hx hb dX3_excess_0 rfl (lv_at hl 2 rfl) ?_
  refine lv_iconst (v := 1) hx hb dX3_excess_1 (by decide) ?_
  refine lv_iadd hx hb dX3_excess_2 ?_
  refine topc (y := (nI (li + 1))) (nI_add li 1) ?_
  refine lv_aload_n hx hb dX3_excess_3 rfl (lv_at hl 0 rfl) ?_
  refine gf_X3_21_5 cx hw dX3_excess_4 ?_
  obtain ⟨n_1, hn_1, en_1⟩ := IV.s_5_3 hi
  refine topc (y := (nI n_1)) en_1 ?_
  refine lv_icmp_lt (tgt := 21) hx hb dX3_excess_7 (by decide) (fun c_2 => ?_) (fun c_2 => ?_)
  · have c_2 : (li + 1) < n_1 := (nI_ltI (a := (li + 1)) (b := n_1) (by omega) (by omega)).mp c_2
    refine lv_aload_n hx hb dX3_excess_21 rfl (lv_at hl 0 rfl) ?_
    refine gf_X3_11_5 cx hw dX3_excess_22 ?_
    refine lv_iload_n hx hb dX3_excess_25 rfl (lv_at hl 2 rfl) ?_
    refine lv_iconst (v := 1) hx hb dX3_excess_26 (by decide) ?_
    refine lv_iadd hx hb dX3_excess_27 ?_
    refine topc (y := (nI (li + 1))) (nI_add li 1) ?_
    refine aldN 30 (li + 1) cx hw rfl (by omega) (by decide) dX3_excess_28 ?_
    obtain ⟨n_3, hn_3, en_3⟩ := IV.a_30 hi (i := (li + 1)) (by omega)
    refine topc (y := (nI n_3)) en_3 ?_
    refine lv_aload_n hx hb dX3_excess_29 rfl (lv_at hl 0 rfl) ?_
    refine gf_X3_11_5 cx hw dX3_excess_30 ?_
    refine lv_iload_n hx hb dX3_excess_33 rfl (lv_at hl 2 rfl) ?_
    refine aldN 30 li cx hw rfl (by omega) (by decide) dX3_excess_34 ?_
    obtain ⟨n_4, hn_4, en_4⟩ := IV.a_30 hi (i := li) (by omega)
    refine topc (y := (nI n_4)) en_4 ?_
    refine lv_isub hx hb dX3_excess_35 ?_
    refine lv_topi (fun x_5 _ => ?_)
    refine lv_i2l hx hb dX3_excess_36 rfl ?_
    refine lv_topl (fun y_6 _ => ?_)
    refine lv_lstore (lv' := [(6, .long y_6), (0, .ref (a 5)), (1, .ref (a 32)), (2, .int (nI li)), (3, .int we), (4, .long mo)]) hx hb dX3_excess_37 hl (by decide) rfl (fun ls hl => ?_)
    refine lv_iload_n hx hb dX3_excess_39 rfl (lv_at hl 4 rfl) ?_
    refine lv_aload_n hx hb dX3_excess_40 rfl (lv_at hl 1 rfl) ?_
    refine gf_X3_11_5 cx hw dX3_excess_41 ?_
    refine lv_iload_n hx hb dX3_excess_44 rfl (lv_at hl 3 rfl) ?_
    refine aldN 30 li cx hw rfl (by omega) (by decide) dX3_excess_45 ?_
    refine topc (y := (nI n_4)) en_4 ?_
    refine lv_isub hx hb dX3_excess_46 ?_
    refine lv_topi (fun x_7 _ => ?_)
    refine lv_i2l hx hb dX3_excess_47 rfl ?_
    refine lv_topl (fun y_8 _ => ?_)
    refine lv_lstore (lv' := [(8, .long y_8), (6, .long y_6), (0, .ref (a 5)), (1, .ref (a 32)), (2, .int (nI li)), (3, .int we), (4, .long mo)]) hx hb dX3_excess_48 hl (by decide) rfl (fun ls hl => ?_)
    refine lv_aload_n hx hb dX3_excess_50 rfl (lv_at hl 3 rfl) ?_
    refine lv_iload_n hx hb dX3_excess_51 rfl (lv_at hl 4 rfl) ?_
    refine aldN 32 li cx hw rfl (by omega) (by decide) dX3_excess_52 ?_
    refine lv_topi (fun x_9 _ => ?_)
    refine lv_i2l hx hb dX3_excess_53 rfl ?_
    refine lv_topl (fun y_10 _ => ?_)
    refine lv_lload hx hb dX3_excess_54 (lv_at hl 1 rfl) ?_
    refine lv_lmul hx hb dX3_excess_56 ?_
    refine lv_topl (fun y_11 _ => ?_)
    refine lv_aload_n hx hb dX3_excess_57 rfl (lv_at hl 2 rfl) ?_
    refine lv_aload_n hx hb dX3_excess_58 rfl (lv_at hl 3 rfl) ?_
    refine lv_iload_n hx hb dX3_excess_59 rfl (lv_at hl 4 rfl) ?_
    refine goL hw (runVW (k := 5) (As := [.ref (a 32), .int (nI li)]) (rest := [.long y_11]) cx hw (k_X3_rise_5_32 l D a cI cZ f u li  hi (by omega)) lk_X3_37 rfl rfl ⟨Nat.le_of_ble_eq_true rfl, Nat.le_of_ble_eq_true rfl⟩ ⟨rfl, rfl⟩ ⟨Nat.zero_le _, Nat.zero_le _⟩ rfl rfl hl.1 (Nat.le_of_ble_eq_true rfl) dX3_excess_60) (fun r_12 f_12 u_12 H locs hp_12 hw => ?_)
    obtain ⟨rfl, rfl⟩ := hp_12
    refine lv_lload hx hb dX3_excess_63 (lv_at hl 0 rfl) ?_
    refine lv_lmul hx hb dX3_excess_65 ?_
    refine lv_topl (fun y_13 _ => ?_)
    refine lv_ladd hx hb dX3_excess_66 ?_
    refine lv_topl (fun y_14 _ => ?_)
    refine lv_lstore (lv' := [(10, .long y_14), (8, .long y_8), (6, .long y_6), (0, .ref (a 5)), (1, .ref (a 32)), (2, .int (nI li)), (3, .int we), (4, .long mo)]) hx hb dX3_excess_67 hl (by decide) rfl (fun ls hl => ?_)
    refine lv_lload hx hb dX3_excess_69 (lv_at hl 7 rfl) ?_
    refine lv_lload hx hb dX3_excess_71 (lv_at hl 2 rfl) ?_
    refine lv_lmul hx hb dX3_excess_73 ?_
    refine lv_topl (fun y_15 _ => ?_)
    refine lv_iload_n hx hb dX3_excess_74 rfl (lv_at hl 6 rfl) ?_
    refine lv_i2l hx hb dX3_excess_75 rfl ?_
    refine lv_topl (fun y_16 _ => ?_)
    refine lv_lload hx hb dX3_excess_76 (lv_at hl 0 rfl) ?_
    refine lv_lmul hx hb dX3_excess_78 ?_
    refine lv_topl (fun y_17 _ => ?_)
    refine lv_lsub hx hb dX3_excess_79 ?_
    refine lv_topl (fun y_18 _ => ?_)
    exact retL cx hw hr hk dX3_excess_80 ⟨rfl, rfl⟩
  · have c_2 : ¬ (li + 1) < n_1 := fun z => c_2 ((nI_ltI (a := (li + 1)) (b := n_1) (by omega) (by omega)).mpr z)
    refine lv_lload hx hb dX3_excess_10 (lv_at hl 4 rfl) ?_
    refine lv_iload_n hx hb dX3_excess_12 rfl (lv_at hl 3 rfl) ?_
    refine lv_i2l hx hb dX3_excess_13 rfl ?_
    refine lv_topl (fun y_19 _ => ?_)
    refine lv_aload_n hx hb dX3_excess_14 rfl (lv_at hl 1 rfl) ?_
    refine lv_iload_n hx hb dX3_excess_15 rfl (lv_at hl 2 rfl) ?_
    refine aldN 32 li cx hw rfl (by omega) (by decide) dX3_excess_16 ?_
    refine lv_topi (fun x_20 _ => ?_)
    refine lv_i2l hx hb dX3_excess_17 rfl ?_
    refine lv_topl (fun y_21 _ => ?_)
    refine lv_lmul hx hb dX3_excess_18 ?_
    refine lv_topl (fun y_22 _ => ?_)
    refine lv_lsub hx hb dX3_excess_19 ?_
    refine lv_topl (fun y_23 _ => ?_)
    exact retL cx hw hr hk dX3_excess_20 ⟨rfl, rfl⟩

set_option maxHeartbeats 4000000 in
set_option maxRecDepth 100000 in
theorem k_X3_judge_5 (l : Launch) (D : va_G) (a : Nat → Nat) (cI cZ : ClassId) (f : FF) (u : UU) (we : Int32) (mo : Int64) (hi : IV f)  : KI l yX3_judge cX3_judge 5 (some .int) ({ frames := 3, cells := 0, slots := 0, locals := 65 } : Room) D a cI cZ [.ref (a 5), .int we, .long mo] f u (fun r f2 u2 => f = f2 ∧ u = u2) := by
  refine KX.of (by decide) (Nat.le_of_ble_eq_true rfl) ?_
  intro p e s m below meth c cx hw hr hk ls hl
  have cx : Cx p s m _ c cX3_judge RX3 5 D cI cZ := cx
  have hl : lv_has ls 5 [(0, .ref (a 5)), (1, .int we), (2, .long mo)] := hl
  have hx := cx.1.1
  have hb := cx.1.2.1
  refine lv_iload_n hx hb dX3_judge_0 rfl (lv_at hl 1 rfl) ?_
  refine lv_aload_n hx hb dX3_judge_1 rfl (lv_at hl 0 rfl) ?_
  refine gf_X3_11_5 cx hw dX3_judge_2 ?_
  refine lv_iconst (v := 0) hx hb dX3_judge_5 (by decide) ?_
  refine aldN 30 0 cx hw rfl (by omega) (by decide) dX3_judge_6 ?_
  obtain ⟨n_1, hn_1, en_1⟩ := IV.a_30 hi (i := 0) (by omega)
  refine topc (y := (nI n_1)) en_1 ?_
  refine lv_icmp_ge (tgt := 12) hx hb dX3_judge_7 (by decide) (fun _ => ?_) (fun _ => ?_)
  · refine lv_iload_n hx hb dX3_judge_12 rfl (lv_at hl 1 rfl) ?_
    refine lv_aload_n hx hb dX3_judge_13 rfl (lv_at hl 0 rfl) ?_
    refine goI hw (runVW (k := 5) (As := []) (rest := [.int we]) cx hw (k_X3_lastWeight_5 l D a cI cZ f u   hi) lk_X3_25 rfl rfl ⟨Nat.le_of_ble_eq_true rfl, Nat.le_of_ble_eq_true rfl⟩ ⟨rfl, rfl⟩ ⟨Nat.zero_le _, Nat.zero_le _⟩ rfl rfl hl.1 (Nat.le_of_ble_eq_true rfl) dX3_judge_14) (fun r_3 f_3 u_3 H locs hp_3 hw => ?_)
    obtain ⟨rfl, rfl, ha_3⟩ := hp_3
    obtain ⟨b0_3_j, q0_3_0, q0_3_1, q0_3_2⟩ := ha_3
    · subst q0_3_1
      refine lv_icmp_le (tgt := 22) hx hb dX3_judge_17 (by decide) (fun _ => ?_) (fun _ => ?_)
      · refine lv_aload_n hx hb dX3_judge_22 rfl (lv_at hl 0 rfl) ?_
        refine lv_iload_n hx hb dX3_judge_23 rfl (lv_at hl 1 rfl) ?_
        refine goI hw (runVW (k := 5) (As := [.int we]) (rest := []) cx hw (k_X3_lineAt_5 l D a cI cZ f u we  hi) lk_X3_29 rfl rfl ⟨Nat.le_of_ble_eq_true rfl, Nat.le_of_ble_eq_true rfl⟩ ⟨rfl, rfl⟩ ⟨Nat.zero_le _, Nat.zero_le _⟩ rfl rfl hl.1 (Nat.le_of_ble_eq_true rfl) dX3_judge_24) (fun r_5 f_5 u_5 H locs hp_5 hw => ?_)
        obtain ⟨rfl, rfl, ha_5⟩ := hp_5
        obtain ⟨b0_5_j, q0_5_0, q0_5_1⟩ := ha_5
        · subst q0_5_1
          refine lv_istore (lv' := [(4, .int (nI b0_5_j)), (0, .ref (a 5)), (1, .int we), (2, .long mo)]) hx hb dX3_judge_27 hl (by decide) rfl (fun ls hl => ?_)
          refine lv_aload_n hx hb dX3_judge_29 rfl (lv_at hl 1 rfl) ?_
          refine lv_aload_n hx hb dX3_judge_30 rfl (lv_at hl 1 rfl) ?_
          refine gf_X3_15_5 cx hw dX3_judge_31 ?_
          refine lv_iload hx hb dX3_judge_34 (lv_at hl 0 rfl) ?_
          refine lv_iload_n hx hb dX3_judge_36 rfl (lv_at hl 2 rfl) ?_
          refine lv_lload_n hx hb dX3_judge_37 rfl (lv_at hl 3 rfl) ?_
          refine goL hw (runVW (k := 5) (As := [.ref (a 31), .int (nI b0_5_j), .int we, .long mo]) (rest := []) cx hw (k_X3_excess_5_31 l D a cI cZ f u b0_5_j we mo  hi (by omega)) lk_X3_33 rfl rfl ⟨Nat.le_of_ble_eq_true rfl, Nat.le_of_ble_eq_true rfl⟩ ⟨rfl, rfl⟩ ⟨Nat.zero_le _, Nat.zero_le _⟩ rfl rfl hl.1 (Nat.le_of_ble_eq_true rfl) dX3_judge_38) (fun r_6 f_6 u_6 H locs hp_6 hw => ?_)
          obtain ⟨rfl, rfl⟩ := hp_6
          refine lv_lconst (v := 0) hx hb dX3_judge_41 (by decide) ?_
          refine W.lcmp hx hb dX3_judge_42 ?_
          refine lv_topi (fun x_7 _ => ?_)
          refine lv_if_ge (tgt := 48) hx hb dX3_judge_43 (by decide) (fun c_8 => ?_) (fun c_8 => ?_)
          · refine lv_aload_n hx hb dX3_judge_48 rfl (lv_at hl 1 rfl) ?_
            refine lv_aload_n hx hb dX3_judge_49 rfl (lv_at hl 1 rfl) ?_
            refine gf_X3_18_5 cx hw dX3_judge_50 ?_
            refine lv_iload hx hb dX3_judge_53 (lv_at hl 0 rfl) ?_
            refine lv_iload_n hx hb dX3_judge_55 rfl (lv_at hl 2 rfl) ?_
            refine lv_lload_n hx hb dX3_judge_56 rfl (lv_at hl 3 rfl) ?_
            refine goL hw (runVW (k := 5) (As := [.ref (a 32), .int (nI b0_5_j), .int we, .long mo]) (rest := []) cx hw (k_X3_excess_5_32 l D a cI cZ f u b0_5_j we mo  hi (by omega)) lk_X3_33 rfl rfl ⟨Nat.le_of_ble_eq_true rfl, Nat.le_of_ble_eq_true rfl⟩ ⟨rfl, rfl⟩ ⟨Nat.zero_le _, Nat.zero_le _⟩ rfl rfl hl.1 (Nat.le_of_ble_eq_true rfl) dX3_judge_57) (fun r_9 f_9 u_9 H locs hp_9 hw => ?_)
            obtain ⟨rfl, rfl⟩ := hp_9
            refine lv_lconst (v := 0) hx hb dX3_judge_60 (by decide) ?_
            refine W.lcmp hx hb dX3_judge_61 ?_
            refine lv_topi (fun x_10 _ => ?_)
            refine lv_if_le (tgt := 69) hx hb dX3_judge_62 (by decide) (fun _ => ?_) (fun _ => ?_)
            · refine lv_iconst (v := 0) hx hb dX3_judge_69 (by decide) ?_
              exact retI cx hw hr hk dX3_judge_70 ⟨rfl, rfl⟩
            · refine lv_iconst (v := 4) hx hb dX3_judge_65 (by decide) ?_
              refine lv_goto (tgt := 70) hx hb dX3_judge_66 (by decide) ?_
              exact retI cx hw hr hk dX3_judge_70 ⟨rfl, rfl⟩
          · refine lv_iconst (v := 3) hx hb dX3_judge_46 (by decide) ?_
            exact retI cx hw hr hk dX3_judge_47 ⟨rfl, rfl⟩
      · refine lv_iconst (v := 2) hx hb dX3_judge_20 (by decide) ?_
        exact retI cx hw hr hk dX3_judge_21 ⟨rfl, rfl⟩
  · refine lv_iconst (v := 1) hx hb dX3_judge_10 (by decide) ?_
    exact retI cx hw hr hk dX3_judge_11 ⟨rfl, rfl⟩
