set_option maxHeartbeats 4000000 in
set_option maxRecDepth 100000 in
theorem law_loop {p : Program} {l : Launch} {e : Env} {s : State} {m : MethodId} {below : List Frame} {meth : Method} {c : Code} {b L : Nat} {xs : Nat → Int32} {D : va_G} {a : Nat → Nat} {cI cZ : ClassId} (hL : L ≤ 2560) (C0 : lw_At p s m meth c b L xs) (hge : ∀ k, k < 61 → s.heap.size ≤ a k) (cx : Cx p s m #[Value.ref b] c cL_law RL 4 D cI cZ) : ∀ (k i : Nat), i ≤ L → L - i < k → ∀ (f : FF) (u : UU) (H : Heap) (locs : List Loc) (ls : Array Slot), JJ f → Wd D a cI cZ s f u H locs → lv_has ls 4 [(3, .int (nI i)), (2, .ref (a 36)), (1, .ref (a 0)), (0, .ref b)] → W p l e room_1 s m #[Value.ref b] below meth c H locs 61 1071 (lw_Z below #[Value.ref b] s) (F0 m 18 ls []) := by
  intro k
  induction k with
  | zero => intros; omega
  | succ k ih =>
    intro i hiL hk f u H locs ls hj hw hl
    obtain ⟨hx, hb, hr, hml, hown, hts, hX, hbl, hlocks, hgv⟩ := id C0
    have hbA : ¬ AA a b := fun ⟨k, hk, q⟩ => by have := hge k hk; omega
    refine lv_iload_n hx hb dL_law_18 rfl (lv_at hl 0 rfl) ?_
    refine lv_aload_n hx hb dL_law_19 rfl (lv_at hl 3 rfl) ?_
    refine va_slen hx hb hX hbl hbA hw.2.2 dL_law_20 ?_
    refine lv_iconst (v := 5) hx hb dL_law_21 (by decide) ?_
    refine lv_isub hx hb dL_law_22 ?_
    refine lv_icmp_gt (tgt := 1121) hx hb dL_law_23 (by decide) (fun _ => ?_) (fun q => ?_)
    · refine lv_iconst (v := 1) hx hb dL_law_1121 (by decide) ?_
      refine va_forget (fun q hq => ?_) ?_
      · obtain ⟨k, hk, e⟩ := hw.2.2.2.2 q hq
        rw [e]; exact hge k hk
      refine W.widen (k := 600000) (n := 7302250) (Nat.le_of_ble_eq_true rfl) (Nat.le_of_ble_eq_true rfl) ?_
      exact lw_ret hx hb hr hlocks dL_law_1122
    · have h5 : i + 5 ≤ L := law_in hL (by omega) q
      have next : ∀ (f : FF) (u : UU) (H : Heap) (locs : List Loc) (ls : Array Slot), JJ f → Wd D a cI cZ s f u H locs → lv_has ls 4 [(3, .int (nI (i + 5))), (2, .ref (a 36)), (1, .ref (a 0)), (0, .ref b)] → W p l e room_1 s m #[Value.ref b] below meth c H locs 61 1071 (lw_Z below #[Value.ref b] s) (F0 m 18 ls []) := fun f u H locs ls hj hw hl => ih (i + 5) h5 (by omega) f u H locs ls hj hw hl
      refine lv_aload_n hx hb dL_law_26 rfl (lv_at hl 3 rfl) ?_
      refine lv_iload_n hx hb dL_law_27 rfl (lv_at hl 0 rfl) ?_
      refine va_sld hx hb hX hbl hbA hw.2.2 (vp_in_nI (by omega) (by omega)) dL_law_28 ?_
      refine lv_bipush (v := 31) hx hb dL_law_29 (by decide) ?_
      refine lv_iand hx hb dL_law_31 ?_
      obtain ⟨j, hj32, ej⟩ := pk_andE (xs (nI i).toNatClampNeg) (m := 31) 5 rfl
      refine topc ej ?_
      rcases (show j = 0 ∨ j = 1 ∨ j = 2 ∨ j = 3 ∨ j = 4 ∨ j = 5 ∨ j = 6 ∨ j = 7 ∨ j = 8 ∨ j = 9 ∨ j = 10 ∨ j = 11 ∨ j = 12 ∨ j = 13 ∨ j = 14 ∨ j = 15 ∨ j = 16 ∨ j = 17 ∨ j = 18 ∨ j = 19 ∨ j = 20 ∨ j = 21 ∨ j = 22 ∨ j = 23 ∨ j = 24 ∨ j = 25 ∨ j = 26 ∨ j = 27 ∨ j = 28 ∨ j = 29 ∨ j = 30 ∨ j = 31 by omega) with rfl | rfl | rfl | rfl | rfl | rfl | rfl | rfl | rfl | rfl | rfl | rfl | rfl | rfl | rfl | rfl | rfl | rfl | rfl | rfl | rfl | rfl | rfl | rfl | rfl | rfl | rfl | rfl | rfl | rfl | rfl | rfl
      · refine lv_tableIn (off := 140) (tgt := 172) hx hb dL_law_32 (by decide) (by decide) (by decide) (by decide) ?_
        exact law_0 C0 hge cx hL i h5 next hj hw hl
      · refine lv_tableIn (off := 173) (tgt := 205) hx hb dL_law_32 (by decide) (by decide) (by decide) (by decide) ?_
        exact law_1 C0 hge cx hL i h5 next hj hw hl
      · refine lv_tableIn (off := 206) (tgt := 238) hx hb dL_law_32 (by decide) (by decide) (by decide) (by decide) ?_
        exact law_2 C0 hge cx hL i h5 next hj hw hl
      · refine lv_tableIn (off := 249) (tgt := 281) hx hb dL_law_32 (by decide) (by decide) (by decide) (by decide) ?_
        exact law_3 C0 hge cx hL i h5 next hj hw hl
      · refine lv_tableIn (off := 292) (tgt := 324) hx hb dL_law_32 (by decide) (by decide) (by decide) (by decide) ?_
        exact law_4 C0 hge cx hL i h5 next hj hw hl
      · refine lv_tableIn (off := 335) (tgt := 367) hx hb dL_law_32 (by decide) (by decide) (by decide) (by decide) ?_
        exact law_5 C0 hge cx hL i h5 next hj hw hl
      · refine lv_tableIn (off := 368) (tgt := 400) hx hb dL_law_32 (by decide) (by decide) (by decide) (by decide) ?_
        exact law_6 C0 hge cx hL i h5 next hj hw hl
      · refine lv_tableIn (off := 401) (tgt := 433) hx hb dL_law_32 (by decide) (by decide) (by decide) (by decide) ?_
        exact law_7 C0 hge cx hL i h5 next hj hw hl
      · refine lv_tableIn (off := 424) (tgt := 456) hx hb dL_law_32 (by decide) (by decide) (by decide) (by decide) ?_
        exact law_8 C0 hge cx hL i h5 next hj hw hl
      · refine lv_tableIn (off := 457) (tgt := 489) hx hb dL_law_32 (by decide) (by decide) (by decide) (by decide) ?_
        exact law_9 C0 hge cx hL i h5 next hj hw hl
      · refine lv_tableIn (off := 490) (tgt := 522) hx hb dL_law_32 (by decide) (by decide) (by decide) (by decide) ?_
        exact law_10 C0 hge cx hL i h5 next hj hw hl
      · refine lv_tableIn (off := 543) (tgt := 575) hx hb dL_law_32 (by decide) (by decide) (by decide) (by decide) ?_
        exact law_11 C0 hge cx hL i h5 next hj hw hl
      · refine lv_tableIn (off := 566) (tgt := 598) hx hb dL_law_32 (by decide) (by decide) (by decide) (by decide) ?_
        exact law_12 C0 hge cx hL i h5 next hj hw hl
      · refine lv_tableIn (off := 609) (tgt := 641) hx hb dL_law_32 (by decide) (by decide) (by decide) (by decide) ?_
        exact law_13 C0 hge cx hL i h5 next hj hw hl
      · refine lv_tableIn (off := 652) (tgt := 684) hx hb dL_law_32 (by decide) (by decide) (by decide) (by decide) ?_
        exact law_14 C0 hge cx hL i h5 next hj hw hl
      · refine lv_tableIn (off := 675) (tgt := 707) hx hb dL_law_32 (by decide) (by decide) (by decide) (by decide) ?_
        exact law_15 C0 hge cx hL i h5 next hj hw hl
      · refine lv_tableIn (off := 698) (tgt := 730) hx hb dL_law_32 (by decide) (by decide) (by decide) (by decide) ?_
        exact law_16 C0 hge cx hL i h5 next hj hw hl
      · refine lv_tableIn (off := 731) (tgt := 763) hx hb dL_law_32 (by decide) (by decide) (by decide) (by decide) ?_
        exact law_17 C0 hge cx hL i h5 next hj hw hl
      · refine lv_tableIn (off := 764) (tgt := 796) hx hb dL_law_32 (by decide) (by decide) (by decide) (by decide) ?_
        exact law_18 C0 hge cx hL i h5 next hj hw hl
      · refine lv_tableIn (off := 787) (tgt := 819) hx hb dL_law_32 (by decide) (by decide) (by decide) (by decide) ?_
        exact law_19 C0 hge cx hL i h5 next hj hw hl
      · refine lv_tableIn (off := 810) (tgt := 842) hx hb dL_law_32 (by decide) (by decide) (by decide) (by decide) ?_
        exact law_20 C0 hge cx hL i h5 next hj hw hl
      · refine lv_tableIn (off := 843) (tgt := 875) hx hb dL_law_32 (by decide) (by decide) (by decide) (by decide) ?_
        exact law_21 C0 hge cx hL i h5 next hj hw hl
      · refine lv_tableIn (off := 866) (tgt := 898) hx hb dL_law_32 (by decide) (by decide) (by decide) (by decide) ?_
        exact law_22 C0 hge cx hL i h5 next hj hw hl
      · refine lv_tableIn (off := 889) (tgt := 921) hx hb dL_law_32 (by decide) (by decide) (by decide) (by decide) ?_
        exact law_23 C0 hge cx hL i h5 next hj hw hl
      · refine lv_tableIn (off := 912) (tgt := 944) hx hb dL_law_32 (by decide) (by decide) (by decide) (by decide) ?_
        exact law_24 C0 hge cx hL i h5 next hj hw hl
      · refine lv_tableIn (off := 935) (tgt := 967) hx hb dL_law_32 (by decide) (by decide) (by decide) (by decide) ?_
        exact law_25 C0 hge cx hL i h5 next hj hw hl
      · refine lv_tableIn (off := 958) (tgt := 990) hx hb dL_law_32 (by decide) (by decide) (by decide) (by decide) ?_
        exact law_26 C0 hge cx hL i h5 next hj hw hl
      · refine lv_tableIn (off := 981) (tgt := 1013) hx hb dL_law_32 (by decide) (by decide) (by decide) (by decide) ?_
        exact law_27 C0 hge cx hL i h5 next hj hw hl
      · refine lv_tableIn (off := 1004) (tgt := 1036) hx hb dL_law_32 (by decide) (by decide) (by decide) (by decide) ?_
        exact law_28 C0 hge cx hL i h5 next hj hw hl
      · refine lv_tableIn (off := 1027) (tgt := 1059) hx hb dL_law_32 (by decide) (by decide) (by decide) (by decide) ?_
        exact law_29 C0 hge cx hL i h5 next hj hw hl
      · refine lv_tableIn (off := 1060) (tgt := 1092) hx hb dL_law_32 (by decide) (by decide) (by decide) (by decide) ?_
        exact law_30 C0 hge cx hL i h5 next hj hw hl
      · refine lv_tableOut (tgt := 1115) hx hb dL_law_32 (by decide) (by decide) ?_
        refine lv_iinc (v := nI (i + 5)) (lv' := [(3, .int (nI (i + 5))), (2, .ref (a 36)), (1, .ref (a 0)), (0, .ref b)]) hx hb dL_law_1115 hl (k := 0) rfl (nI_add i 5) (by decide) rfl (fun ls hl => ?_)
        refine lv_goto (tgt := 18) hx hb dL_law_1118 (by decide) ?_
        exact next f u H locs ls hj hw hl
theorem IV_F0 {g14 g18 g42 : Nat → Int32} (h14 : ∀ i, i < 32 → g14 i = (-1)) (h18 : ∀ i, i < 40 → g18 i = (-1)) (h42 : ∀ i, i < 32 → g42 i = (-1)) : IV (F0w g14 g18 g42) := by
  intro k
  unfold okcell
  split
  · exact ⟨⟨0, by omega, rfl⟩, ⟨0, by omega, rfl⟩⟩
  · exact ⟨0, by omega, rfl⟩
  · exact ⟨0, by omega, rfl⟩
  · exact ⟨0, by omega, rfl⟩
  · exact ⟨0, by omega, rfl⟩
  · exact ⟨⟨0, by omega, rfl⟩, ⟨0, by omega, rfl⟩⟩
  · exact fun i hi => ⟨0, by omega, rfl⟩
  · exact fun i hi => Or.inl (h14 i hi)
  · exact fun i hi => ⟨0, by omega, rfl⟩
  · exact fun i hi => Or.inl (h18 i hi)
  · exact fun i hi => ⟨0, by omega, rfl⟩
  · exact fun i hi => ⟨0, by omega, rfl⟩
  · exact fun i hi => ⟨0, by omega, rfl⟩
  · exact fun i hi => ⟨0, by omega, rfl⟩
  · exact fun i hi => ⟨0, by omega, rfl⟩
  · exact ⟨⟨0, by omega, rfl⟩, ⟨0, by omega, rfl⟩, ⟨0, by omega, rfl⟩, ⟨0, by omega, rfl⟩, ⟨0, by omega, rfl⟩⟩
  · exact fun i hi => ⟨0, by omega, rfl⟩
  · exact fun i hi => Or.inl (h42 i hi)
  · exact fun i hi => ⟨0, by omega, rfl⟩
  · exact fun i hi => Or.inr ⟨0, by omega, rfl⟩
  · exact fun i hi => ⟨0, by omega, rfl⟩
  · exact fun i hi => ⟨0, by omega, rfl⟩
  · exact fun i hi => ⟨0, by omega, rfl⟩
  · exact fun i hi => ⟨0, by omega, rfl⟩
  · exact fun i hi => ⟨0, by omega, rfl⟩
  · trivial
theorem JJ_F0 {g14 g18 g42 : Nat → Int32} (h14 : ∀ i, i < 32 → g14 i = (-1)) (h18 : ∀ i, i < 40 → g18 i = (-1)) (h42 : ∀ i, i < 32 → g42 i = (-1)) : JJ (F0w g14 g18 g42) := ⟨IV_F0 h14 h18 h42, rfl⟩
set_option maxHeartbeats 4000000 in
set_option maxRecDepth 100000 in
theorem whole_start {p : Program} {e : Env} {s : State} {m : MethodId} {below : List Frame} {meth : Method} {c : Code} (l : Launch) {b L : Nat} {xs : Nat → Int32} (hL : L ≤ 2560) (C0 : lw_At p s m meth c b L xs) : W p l e room_1 s m #[Value.ref b] below meth c s.heap [] 0 0 (lw_Z below #[Value.ref b] s) (entryFrame m ([Value.ref b] : List Value).toArray 4) := by
  obtain ⟨hx, hb, hr, hml, hown, hts, hX, hbl, hlocks, hgv⟩ := id C0
  have hT := T0_of hts
  have hE27 : va_Nw (.methodLinkNest RX7 27 yX0_init "TrimSheet") s := va_Nw.of rfl (hts _ (List.mem_append_right _ (List.mem_append_left _ (List.mem_of_getElem? (i := 91) (by decide +kernel)))))
  have hE34 : va_Nw (.methodLinkNest RX7 34 yX6_init "TrimSheet") s := va_Nw.of rfl (hts _ (List.mem_append_right _ (List.mem_append_left _ (List.mem_of_getElem? (i := 117) (by decide +kernel)))))
  have hE41 : va_Nw (.methodLinkNest RX7 41 yX3_init "TrimSheet") s := va_Nw.of rfl (hts _ (List.mem_append_right _ (List.mem_append_left _ (List.mem_of_getElem? (i := 139) (by decide +kernel)))))
  obtain ⟨k0, i0, hKn0⟩ := u_known (C := RX0) (T := TX0) (N := 5) (n := 5) hT uin_X0 (hT _ mm_1_90)
  obtain ⟨k1, i1, hKn1⟩ := u_known (C := RX1) (T := TX1) (N := 14) (n := 14) hT uin_X1 (hT _ mm_1_22)
  obtain ⟨k2, i2, hKn2⟩ := u_known (C := RX2) (T := TX2) (N := 4) (n := 4) hT uin_X2 (hT _ mm_1_161)
  obtain ⟨k3, i3, hKn3⟩ := u_known (C := RX3) (T := TX3) (N := 4) (n := 4) hT uin_X3 (hT _ mm_1_138)
  obtain ⟨k4, i4, hKn4⟩ := u_known (C := RX4) (T := TX4) (N := 10) (n := 10) hT uin_X4 (hT _ mm_1_190)
  obtain ⟨k5, i5, hKn5⟩ := u_known (C := RX5) (T := TX5) (N := 1) (n := 1) hT uin_X5 (hT _ mm_1_180)
  obtain ⟨k6, i6, hKn6⟩ := u_known (C := RX6) (T := TX6) (N := 4) (n := 4) hT uin_X6 (hT _ mm_1_116)
  obtain ⟨k7, i7, hKn7⟩ := u_known (C := RX7) (T := TX7) (N := 10) (n := 10) hT uin_X7 (hT _ mm_1_14)
  obtain ⟨k8, i8, hKn8⟩ := u_known (C := RX8) (T := TX8) (N := 39) (n := 39) hT uin_X8 (hT _ mm_4_19)
  obtain ⟨dC, dI, hKc⟩ : ∃ (dC : Nat → ClassId) (dI : Nat → Nat → Nat), ∀ (k : Nat) (q : vw_C), vwCl[k]? = some q → u_Kn s q.1 q.2.1 q.2.2 (dC k) (dI k) := by
    refine ⟨fun k => if k = 0 then k0 else if k = 1 then k1 else if k = 2 then k2 else if k = 3 then k3 else if k = 4 then k4 else if k = 5 then k5 else if k = 6 then k6 else if k = 7 then k7 else k8, fun k => if k = 0 then i0 else if k = 1 then i1 else if k = 2 then i2 else if k = 3 then i3 else if k = 4 then i4 else if k = 5 then i5 else if k = 6 then i6 else if k = 7 then i7 else i8, ?_⟩
    intro k q hq
    match k, hq with
    | 0, hq => cases hq; exact hKn0
    | 1, hq => cases hq; exact hKn1
    | 2, hq => cases hq; exact hKn2
    | 3, hq => cases hq; exact hKn3
    | 4, hq => cases hq; exact hKn4
    | 5, hq => cases hq; exact hKn5
    | 6, hq => cases hq; exact hKn6
    | 7, hq => cases hq; exact hKn7
    | 8, hq => cases hq; exact hKn8
    | k + 9, hq => simp [vwCl] at hq
  obtain ⟨cI, kI, compI, fI, hkI, hkindI⟩ := Cond.arrayClass_spec (hT _ mm_1_88)
  obtain ⟨cZ, kZ, compZ, fZ, hkZ, hkindZ⟩ := Cond.arrayClass_spec (hT _ mm_4_141)
  have hK : va_K (dC, dI) vwCl (tysW cI cZ) s := ⟨hKc, fun k q h => by
    match k, h with
    | 0, h => cases h; exact ⟨fun n z => ⟨fun k h => (by cases h), kI, hkI, compI, hkindI⟩, fI⟩
    | 1, h => cases h; exact ⟨fun n z => ⟨fun k h => (by cases h), kZ, hkZ, compZ, hkindZ⟩, fZ⟩
    | k + 2, h => simp at h⟩
  generalize hDe : (dC, dI) = D at hK
  have cx : Cx p s m #[Value.ref b] c cL_law RL 4 D cI cZ := ⟨⟨hx, hb, hml, hown, hT⟩, hK⟩
  have hl := lv_entry ([.ref b]) (n := 4) (Nat.le_of_ble_eq_true rfl)
  rw [lg_entry_eq]
  generalize (lg_sl ([.ref b]) ++ List.replicate (4 - (lg_sl ([.ref b])).length) Slot.unset).toArray = ls at hl ⊢
  have hl : lv_has ls 4 [(0, .ref b)] := hl
  have hw : Wc D [] (fun q : Nat => s.heap.size ≤ q) s.heap s.heap [] := ⟨fun k q h => by simp at h, ⟨fun i j p q h => by simp at h, fun k q h => by simp at h⟩, va_S.rf, fun _ h => h⟩
  refine cnew (C := RX7) (T := TX7) (N := 10) (ci := 7) (fs := [.int 0, .int 0, .null, .null, .null, .null, .null, .null, .null, .null]) cx hw uin_X7 tyX7 tyX7_ok mm_1_13 mm_1_14 mm_1_1 rfl (by decide +kernel) (Nat.le_of_ble_eq_true rfl) (Nat.le_of_ble_eq_true rfl) dL_law_0 (fun o1 H hw => ?_)
  refine W.widen (k := 1) (n := 10) (Nat.le_of_ble_eq_true rfl) (Nat.le_of_ble_eq_true rfl) ?_
  have hw : Wc D [(o1, .inr (7, [.int 0, .int 0, .null, .null, .null, .null, .null, .null, .null, .null]))] (fun q : Nat => s.heap.size ≤ q) s.heap H _ := hw
  refine lv_dup hx hb dL_law_3 rfl ?_
  refine goC (wc := [(o1, .inr (7, [.int 0, .int 0, .null, .null, .null, .null, .null, .null, .null, .null]))]) (wr := []) [0] [] hw rfl rfl rfl (by decide) (runIC (n := 0) (As := []) (rest := [.ref o1]) (b := o1) [0] cx hw (c_X7_init l D cI cZ o1 H.size ) rfl rfl rfl (fun _ _ _ _ h => ⟨va_Nw.same rfl rfl h.1, va_Nw.same rfl rfl h.2.1, va_Nw.same rfl rfl h.2.2⟩) (fun _ hW => ⟨va_Nw.warmM hW hE27, va_Nw.warmM hW hE34, va_Nw.warmM hW hE41⟩) mm_1_15 mm_1_16 mm_1_1 mm_1_17 rfl ⟨by decide +kernel, by decide +kernel, by decide +kernel⟩ ⟨Nat.le_of_ble_eq_true rfl, Nat.le_of_ble_eq_true rfl⟩ ⟨rfl, rfl⟩ ⟨Nat.le_of_ble_eq_true rfl, Nat.le_of_ble_eq_true rfl⟩ rfl rfl hl.1 (Nat.le_of_ble_eq_true rfl) dL_law_4) (fun w2 H locs hw2 hw => ?_)
  refine W.widen (k := 36) (n := 548) (Nat.le_of_ble_eq_true rfl) (Nat.le_of_ble_eq_true rfl) ?_
  have hw : Wc D [(o1, .inr (7, [.int 1000, .int 0, .ref (w2.1 0), .ref (w2.1 13), .ref (w2.1 17), .ref (w2.1 21), .ref (w2.1 25), .ref (w2.1 29), .ref (w2.1 30), .ref (w2.1 31)])), ((w2.1 0), .inr (1, [.ref (w2.1 1), .ref (w2.1 2), .ref (w2.1 3), .int 0, .ref (w2.1 4), .ref (w2.1 5), .ref (w2.1 11), .ref (w2.1 6), .ref (w2.1 7), .ref (w2.1 8), .ref (w2.1 12), .ref (w2.1 9), .int 0, .ref (w2.1 10)])), ((w2.1 1), .inl (cI, 4, .inl (fun _ => 0))), ((w2.1 2), .inl (cI, 4, .inl (fun _ => 0))), ((w2.1 3), .inl (cI, 4, .inl (fun _ => 0))), ((w2.1 4), .inl (cI, 32, .inl (fun _ => 0))), ((w2.1 5), .inl (cI, 32, .inl (fun _ => 0))), ((w2.1 6), .inl (cI, 40, .inl (fun _ => 0))), ((w2.1 7), .inl (cI, 40, .inl (fun _ => 0))), ((w2.1 8), .inl (cI, 40, .inl (fun _ => 0))), ((w2.1 9), .inl (cI, 40, .inl (fun _ => 0))), ((w2.1 10), .inl (cI, 64, .inl (fun _ => 0))), ((w2.1 11), .inl (cI, 32, .inl (w2.2 0))), ((w2.1 12), .inl (cI, 40, .inl (w2.2 1))), ((w2.1 13), .inr (0, [.ref (w2.1 14), .ref (w2.1 15), .ref (w2.1 16), .int 0, .int 80])), ((w2.1 14), .inl (cI, 10, .inl (fun _ => 0))), ((w2.1 15), .inl (cI, 10, .inl (fun _ => 0))), ((w2.1 16), .inl (cI, 10, .inl (fun _ => 0))), ((w2.1 17), .inr (6, [.ref (w2.1 18), .ref (w2.1 19), .ref (w2.1 20), .int 0])), ((w2.1 18), .inl (cI, 4, .inl (fun _ => 0))), ((w2.1 19), .inl (cI, 4, .inl (fun _ => 0))), ((w2.1 20), .inl (cI, 4, .inl (fun _ => 0))), ((w2.1 21), .inr (3, [.ref (w2.1 22), .ref (w2.1 23), .ref (w2.1 24), .int 0])), ((w2.1 22), .inl (cI, 10, .inl (fun _ => 0))), ((w2.1 23), .inl (cI, 10, .inl (fun _ => 0))), ((w2.1 24), .inl (cI, 10, .inl (fun _ => 0))), ((w2.1 25), .inr (3, [.ref (w2.1 26), .ref (w2.1 27), .ref (w2.1 28), .int 0])), ((w2.1 26), .inl (cI, 10, .inl (fun _ => 0))), ((w2.1 27), .inl (cI, 10, .inl (fun _ => 0))), ((w2.1 28), .inl (cI, 10, .inl (fun _ => 0))), ((w2.1 29), .inr (2, [.ref (w2.1 17), .ref (w2.1 25), .int 0, .long 0])), ((w2.1 30), .inr (5, [.ref (w2.1 0)])), ((w2.1 31), .inr (4, [.ref (w2.1 0), .ref (w2.1 32), .ref (w2.1 33), .ref (w2.1 34), .int 0, .int 0, .int 0, .int 0, .int 0, .long 0])), ((w2.1 32), .inl (cI, 4, .inl (fun _ => 0))), ((w2.1 33), .inl (cI, 4, .inl (fun _ => 0))), ((w2.1 34), .inl (cI, 10, .inl (fun _ => 0)))] (fun q : Nat => s.heap.size ≤ q) s.heap H _ := hw
  refine lv_astore_n (lv' := [(1, .ref o1), (0, .ref b)]) hx hb dL_law_7 rfl hl (by decide) rfl (fun ls hl => ?_)
  refine cnew (C := RX8) (T := TX8) (N := 39) (ci := 8) (fs := [.int 0, .int 0, .int 0, .int 0, .null, .null, .null, .null, .null, .null, .null, .int 0, .null, .null, .null, .null, .int 0, .null, .null, .null, .int 0, .null, .null, .null, .int 0, .null, .null, .null, .null, .long 0, .int 0, .null, .long 0, .int 0, .null, .int 0, .null, .int 0, .long 0]) cx hw uin_X8 tyX8 tyX8_ok mm_4_18 mm_4_19 mm_1_10 rfl (by decide +kernel) (Nat.le_of_ble_eq_true rfl) (Nat.le_of_ble_eq_true rfl) dL_law_8 (fun o3 H hw => ?_)
  refine W.widen (k := 37) (n := 587) (Nat.le_of_ble_eq_true rfl) (Nat.le_of_ble_eq_true rfl) ?_
  have hw : Wc D [(o1, .inr (7, [.int 1000, .int 0, .ref (w2.1 0), .ref (w2.1 13), .ref (w2.1 17), .ref (w2.1 21), .ref (w2.1 25), .ref (w2.1 29), .ref (w2.1 30), .ref (w2.1 31)])), ((w2.1 0), .inr (1, [.ref (w2.1 1), .ref (w2.1 2), .ref (w2.1 3), .int 0, .ref (w2.1 4), .ref (w2.1 5), .ref (w2.1 11), .ref (w2.1 6), .ref (w2.1 7), .ref (w2.1 8), .ref (w2.1 12), .ref (w2.1 9), .int 0, .ref (w2.1 10)])), ((w2.1 1), .inl (cI, 4, .inl (fun _ => 0))), ((w2.1 2), .inl (cI, 4, .inl (fun _ => 0))), ((w2.1 3), .inl (cI, 4, .inl (fun _ => 0))), ((w2.1 4), .inl (cI, 32, .inl (fun _ => 0))), ((w2.1 5), .inl (cI, 32, .inl (fun _ => 0))), ((w2.1 6), .inl (cI, 40, .inl (fun _ => 0))), ((w2.1 7), .inl (cI, 40, .inl (fun _ => 0))), ((w2.1 8), .inl (cI, 40, .inl (fun _ => 0))), ((w2.1 9), .inl (cI, 40, .inl (fun _ => 0))), ((w2.1 10), .inl (cI, 64, .inl (fun _ => 0))), ((w2.1 11), .inl (cI, 32, .inl (w2.2 0))), ((w2.1 12), .inl (cI, 40, .inl (w2.2 1))), ((w2.1 13), .inr (0, [.ref (w2.1 14), .ref (w2.1 15), .ref (w2.1 16), .int 0, .int 80])), ((w2.1 14), .inl (cI, 10, .inl (fun _ => 0))), ((w2.1 15), .inl (cI, 10, .inl (fun _ => 0))), ((w2.1 16), .inl (cI, 10, .inl (fun _ => 0))), ((w2.1 17), .inr (6, [.ref (w2.1 18), .ref (w2.1 19), .ref (w2.1 20), .int 0])), ((w2.1 18), .inl (cI, 4, .inl (fun _ => 0))), ((w2.1 19), .inl (cI, 4, .inl (fun _ => 0))), ((w2.1 20), .inl (cI, 4, .inl (fun _ => 0))), ((w2.1 21), .inr (3, [.ref (w2.1 22), .ref (w2.1 23), .ref (w2.1 24), .int 0])), ((w2.1 22), .inl (cI, 10, .inl (fun _ => 0))), ((w2.1 23), .inl (cI, 10, .inl (fun _ => 0))), ((w2.1 24), .inl (cI, 10, .inl (fun _ => 0))), ((w2.1 25), .inr (3, [.ref (w2.1 26), .ref (w2.1 27), .ref (w2.1 28), .int 0])), ((w2.1 26), .inl (cI, 10, .inl (fun _ => 0))), ((w2.1 27), .inl (cI, 10, .inl (fun _ => 0))), ((w2.1 28), .inl (cI, 10, .inl (fun _ => 0))), ((w2.1 29), .inr (2, [.ref (w2.1 17), .ref (w2.1 25), .int 0, .long 0])), ((w2.1 30), .inr (5, [.ref (w2.1 0)])), ((w2.1 31), .inr (4, [.ref (w2.1 0), .ref (w2.1 32), .ref (w2.1 33), .ref (w2.1 34), .int 0, .int 0, .int 0, .int 0, .int 0, .long 0])), ((w2.1 32), .inl (cI, 4, .inl (fun _ => 0))), ((w2.1 33), .inl (cI, 4, .inl (fun _ => 0))), ((w2.1 34), .inl (cI, 10, .inl (fun _ => 0))), (o3, .inr (8, [.int 0, .int 0, .int 0, .int 0, .null, .null, .null, .null, .null, .null, .null, .int 0, .null, .null, .null, .null, .int 0, .null, .null, .null, .int 0, .null, .null, .null, .int 0, .null, .null, .null, .null, .long 0, .int 0, .null, .long 0, .int 0, .null, .int 0, .null, .int 0, .long 0]))] (fun q : Nat => s.heap.size ≤ q) s.heap H _ := hw
  refine lv_dup hx hb dL_law_11 rfl ?_
  refine goC (wc := [(o3, .inr (8, [.int 0, .int 0, .int 0, .int 0, .null, .null, .null, .null, .null, .null, .null, .int 0, .null, .null, .null, .null, .int 0, .null, .null, .null, .int 0, .null, .null, .null, .int 0, .null, .null, .null, .null, .long 0, .int 0, .null, .long 0, .int 0, .null, .int 0, .null, .int 0, .long 0]))]) (wr := [(o1, .inr (7, [.int 1000, .int 0, .ref (w2.1 0), .ref (w2.1 13), .ref (w2.1 17), .ref (w2.1 21), .ref (w2.1 25), .ref (w2.1 29), .ref (w2.1 30), .ref (w2.1 31)])), ((w2.1 0), .inr (1, [.ref (w2.1 1), .ref (w2.1 2), .ref (w2.1 3), .int 0, .ref (w2.1 4), .ref (w2.1 5), .ref (w2.1 11), .ref (w2.1 6), .ref (w2.1 7), .ref (w2.1 8), .ref (w2.1 12), .ref (w2.1 9), .int 0, .ref (w2.1 10)])), ((w2.1 1), .inl (cI, 4, .inl (fun _ => 0))), ((w2.1 2), .inl (cI, 4, .inl (fun _ => 0))), ((w2.1 3), .inl (cI, 4, .inl (fun _ => 0))), ((w2.1 4), .inl (cI, 32, .inl (fun _ => 0))), ((w2.1 5), .inl (cI, 32, .inl (fun _ => 0))), ((w2.1 6), .inl (cI, 40, .inl (fun _ => 0))), ((w2.1 7), .inl (cI, 40, .inl (fun _ => 0))), ((w2.1 8), .inl (cI, 40, .inl (fun _ => 0))), ((w2.1 9), .inl (cI, 40, .inl (fun _ => 0))), ((w2.1 10), .inl (cI, 64, .inl (fun _ => 0))), ((w2.1 11), .inl (cI, 32, .inl (w2.2 0))), ((w2.1 12), .inl (cI, 40, .inl (w2.2 1))), ((w2.1 13), .inr (0, [.ref (w2.1 14), .ref (w2.1 15), .ref (w2.1 16), .int 0, .int 80])), ((w2.1 14), .inl (cI, 10, .inl (fun _ => 0))), ((w2.1 15), .inl (cI, 10, .inl (fun _ => 0))), ((w2.1 16), .inl (cI, 10, .inl (fun _ => 0))), ((w2.1 17), .inr (6, [.ref (w2.1 18), .ref (w2.1 19), .ref (w2.1 20), .int 0])), ((w2.1 18), .inl (cI, 4, .inl (fun _ => 0))), ((w2.1 19), .inl (cI, 4, .inl (fun _ => 0))), ((w2.1 20), .inl (cI, 4, .inl (fun _ => 0))), ((w2.1 21), .inr (3, [.ref (w2.1 22), .ref (w2.1 23), .ref (w2.1 24), .int 0])), ((w2.1 22), .inl (cI, 10, .inl (fun _ => 0))), ((w2.1 23), .inl (cI, 10, .inl (fun _ => 0))), ((w2.1 24), .inl (cI, 10, .inl (fun _ => 0))), ((w2.1 25), .inr (3, [.ref (w2.1 26), .ref (w2.1 27), .ref (w2.1 28), .int 0])), ((w2.1 26), .inl (cI, 10, .inl (fun _ => 0))), ((w2.1 27), .inl (cI, 10, .inl (fun _ => 0))), ((w2.1 28), .inl (cI, 10, .inl (fun _ => 0))), ((w2.1 29), .inr (2, [.ref (w2.1 17), .ref (w2.1 25), .int 0, .long 0])), ((w2.1 30), .inr (5, [.ref (w2.1 0)])), ((w2.1 31), .inr (4, [.ref (w2.1 0), .ref (w2.1 32), .ref (w2.1 33), .ref (w2.1 34), .int 0, .int 0, .int 0, .int 0, .int 0, .long 0])), ((w2.1 32), .inl (cI, 4, .inl (fun _ => 0))), ((w2.1 33), .inl (cI, 4, .inl (fun _ => 0))), ((w2.1 34), .inl (cI, 10, .inl (fun _ => 0)))]) [36] [0, 1, 2, 3, 4, 5, 6, 7, 8, 9, 10, 11, 12, 13, 14, 15, 16, 17, 18, 19, 20, 21, 22, 23, 24, 25, 26, 27, 28, 29, 30, 31, 32, 33, 34, 35] hw rfl rfl rfl (by decide) (runIC (n := 0) (As := []) (rest := [.ref o3]) (b := o3) [36] cx hw (c_X8_init l D cI cZ o3 H.size ) rfl rfl rfl (fun _ _ _ _ h => h) (fun _ _ => trivial) mm_4_20 mm_4_21 mm_1_10 mm_4_22 rfl ⟨by decide +kernel, by decide +kernel, by decide +kernel⟩ ⟨Nat.le_of_ble_eq_true rfl, Nat.le_of_ble_eq_true rfl⟩ ⟨rfl, rfl⟩ ⟨Nat.le_of_ble_eq_true rfl, Nat.le_of_ble_eq_true rfl⟩ rfl rfl hl.1 (Nat.le_of_ble_eq_true rfl) dL_law_12) (fun w4 H locs hw4 hw => ?_)
  refine W.widen (k := 61) (n := 1071) (Nat.le_of_ble_eq_true rfl) (Nat.le_of_ble_eq_true rfl) ?_
  have hw : Wc D [(o1, .inr (7, [.int 1000, .int 0, .ref (w2.1 0), .ref (w2.1 13), .ref (w2.1 17), .ref (w2.1 21), .ref (w2.1 25), .ref (w2.1 29), .ref (w2.1 30), .ref (w2.1 31)])), ((w2.1 0), .inr (1, [.ref (w2.1 1), .ref (w2.1 2), .ref (w2.1 3), .int 0, .ref (w2.1 4), .ref (w2.1 5), .ref (w2.1 11), .ref (w2.1 6), .ref (w2.1 7), .ref (w2.1 8), .ref (w2.1 12), .ref (w2.1 9), .int 0, .ref (w2.1 10)])), ((w2.1 1), .inl (cI, 4, .inl (fun _ => 0))), ((w2.1 2), .inl (cI, 4, .inl (fun _ => 0))), ((w2.1 3), .inl (cI, 4, .inl (fun _ => 0))), ((w2.1 4), .inl (cI, 32, .inl (fun _ => 0))), ((w2.1 5), .inl (cI, 32, .inl (fun _ => 0))), ((w2.1 6), .inl (cI, 40, .inl (fun _ => 0))), ((w2.1 7), .inl (cI, 40, .inl (fun _ => 0))), ((w2.1 8), .inl (cI, 40, .inl (fun _ => 0))), ((w2.1 9), .inl (cI, 40, .inl (fun _ => 0))), ((w2.1 10), .inl (cI, 64, .inl (fun _ => 0))), ((w2.1 11), .inl (cI, 32, .inl (w2.2 0))), ((w2.1 12), .inl (cI, 40, .inl (w2.2 1))), ((w2.1 13), .inr (0, [.ref (w2.1 14), .ref (w2.1 15), .ref (w2.1 16), .int 0, .int 80])), ((w2.1 14), .inl (cI, 10, .inl (fun _ => 0))), ((w2.1 15), .inl (cI, 10, .inl (fun _ => 0))), ((w2.1 16), .inl (cI, 10, .inl (fun _ => 0))), ((w2.1 17), .inr (6, [.ref (w2.1 18), .ref (w2.1 19), .ref (w2.1 20), .int 0])), ((w2.1 18), .inl (cI, 4, .inl (fun _ => 0))), ((w2.1 19), .inl (cI, 4, .inl (fun _ => 0))), ((w2.1 20), .inl (cI, 4, .inl (fun _ => 0))), ((w2.1 21), .inr (3, [.ref (w2.1 22), .ref (w2.1 23), .ref (w2.1 24), .int 0])), ((w2.1 22), .inl (cI, 10, .inl (fun _ => 0))), ((w2.1 23), .inl (cI, 10, .inl (fun _ => 0))), ((w2.1 24), .inl (cI, 10, .inl (fun _ => 0))), ((w2.1 25), .inr (3, [.ref (w2.1 26), .ref (w2.1 27), .ref (w2.1 28), .int 0])), ((w2.1 26), .inl (cI, 10, .inl (fun _ => 0))), ((w2.1 27), .inl (cI, 10, .inl (fun _ => 0))), ((w2.1 28), .inl (cI, 10, .inl (fun _ => 0))), ((w2.1 29), .inr (2, [.ref (w2.1 17), .ref (w2.1 25), .int 0, .long 0])), ((w2.1 30), .inr (5, [.ref (w2.1 0)])), ((w2.1 31), .inr (4, [.ref (w2.1 0), .ref (w2.1 32), .ref (w2.1 33), .ref (w2.1 34), .int 0, .int 0, .int 0, .int 0, .int 0, .long 0])), ((w2.1 32), .inl (cI, 4, .inl (fun _ => 0))), ((w2.1 33), .inl (cI, 4, .inl (fun _ => 0))), ((w2.1 34), .inl (cI, 10, .inl (fun _ => 0))), (o3, .inr (8, [.int 0, .int 1000, .int 0, .int 0, .ref (w4.1 0), .ref (w4.1 1), .ref (w4.1 2), .ref (w4.1 3), .ref (w4.1 4), .ref (w4.1 5), .ref (w4.1 6), .int 0, .ref (w4.1 7), .ref (w4.1 8), .ref (w4.1 9), .ref (w4.1 10), .int 0, .ref (w4.1 11), .ref (w4.1 12), .ref (w4.1 13), .int 0, .ref (w4.1 14), .ref (w4.1 15), .ref (w4.1 16), .int 80, .ref (w4.1 17), .ref (w4.1 18), .ref (w4.1 19), .ref (w4.1 20), .long 0, .int 0, .ref (w4.1 21), .long 0, .int 0, .ref (w4.1 22), .int 0, .ref (w4.1 23), .int 0, .long 0])), ((w4.1 0), .inl (cI, 4, .inl (fun _ => 0))), ((w4.1 1), .inl (cI, 4, .inl (fun _ => 0))), ((w4.1 2), .inl (cI, 4, .inl (fun _ => 0))), ((w4.1 3), .inl (cI, 32, .inl (fun _ => 0))), ((w4.1 4), .inl (cI, 32, .inl (fun _ => 0))), ((w4.1 5), .inl (cI, 32, .inl (w4.2 0))), ((w4.1 6), .inl (cI, 64, .inl (fun _ => 0))), ((w4.1 7), .inl (cI, 40, .inl (fun _ => 0))), ((w4.1 8), .inl (cI, 40, .inl (fun _ => 0))), ((w4.1 9), .inl (cI, 40, .inl (fun _ => 0))), ((w4.1 10), .inl (cI, 40, .inl (fun _ => 0))), ((w4.1 11), .inl (cI, 10, .inl (fun _ => 0))), ((w4.1 12), .inl (cI, 10, .inl (fun _ => 0))), ((w4.1 13), .inl (cI, 10, .inl (fun _ => 0))), ((w4.1 14), .inl (cI, 4, .inl (fun _ => 0))), ((w4.1 15), .inl (cI, 4, .inl (fun _ => 0))), ((w4.1 16), .inl (cI, 4, .inl (fun _ => 0))), ((w4.1 17), .inl (cI, 2, .inl (fun _ => 0))), ((w4.1 18), .inl (cI, 20, .inl (fun _ => 0))), ((w4.1 19), .inl (cI, 20, .inl (fun _ => 0))), ((w4.1 20), .inl (cI, 20, .inl (fun _ => 0))), ((w4.1 21), .inl (cZ, 40, .inl (fun _ => 0))), ((w4.1 22), .inl (cI, 4, .inl (fun _ => 0))), ((w4.1 23), .inl (cI, 4, .inl (fun _ => 0)))] (fun q : Nat => s.heap.size ≤ q) s.heap H _ := hw
  refine lv_astore_n (lv' := [(2, .ref o3), (1, .ref o1), (0, .ref b)]) hx hb dL_law_15 rfl hl (by decide) rfl (fun ls hl => ?_)
  refine lv_iconst (v := 0) hx hb dL_law_16 (by decide) ?_
  refine lv_istore_n (lv' := [(3, .int 0), (2, .ref o3), (1, .ref o1), (0, .ref b)]) hx hb dL_law_17 rfl hl (by decide) rfl (fun ls hl => ?_)
  have hPw : va_P D vwCl (wd (fun k => [o1, (w2.1 0), (w2.1 13), (w2.1 17), (w2.1 21), (w2.1 25), (w2.1 29), (w2.1 30), (w2.1 31), (w2.1 1), (w2.1 2), (w2.1 3), (w2.1 4), (w2.1 5), (w2.1 11), (w2.1 6), (w2.1 7), (w2.1 8), (w2.1 12), (w2.1 9), (w2.1 10), (w2.1 14), (w2.1 15), (w2.1 16), (w2.1 18), (w2.1 19), (w2.1 20), (w2.1 22), (w2.1 23), (w2.1 24), (w2.1 26), (w2.1 27), (w2.1 28), (w2.1 32), (w2.1 33), (w2.1 34), o3, (w4.1 0), (w4.1 1), (w4.1 2), (w4.1 3), (w4.1 4), (w4.1 5), (w4.1 6), (w4.1 7), (w4.1 8), (w4.1 9), (w4.1 10), (w4.1 11), (w4.1 12), (w4.1 13), (w4.1 14), (w4.1 15), (w4.1 16), (w4.1 17), (w4.1 18), (w4.1 19), (w4.1 20), (w4.1 21), (w4.1 22), (w4.1 23)].getD k 0) cI cZ (F0w (w2.2 0) (w2.2 1) (w4.2 0)) U0) H := hw.1.sub [0, 1, 14, 18, 22, 26, 30, 31, 32, 2, 3, 4, 5, 6, 12, 7, 8, 9, 13, 10, 11, 15, 16, 17, 19, 20, 21, 23, 24, 25, 27, 28, 29, 33, 34, 35, 36, 37, 38, 39, 40, 41, 42, 43, 44, 45, 46, 47, 48, 49, 50, 51, 52, 53, 54, 55, 56, 57, 58, 59, 60] rfl
  have hDw : va_D (fun q : Nat => s.heap.size ≤ q) (wd (fun k => [o1, (w2.1 0), (w2.1 13), (w2.1 17), (w2.1 21), (w2.1 25), (w2.1 29), (w2.1 30), (w2.1 31), (w2.1 1), (w2.1 2), (w2.1 3), (w2.1 4), (w2.1 5), (w2.1 11), (w2.1 6), (w2.1 7), (w2.1 8), (w2.1 12), (w2.1 9), (w2.1 10), (w2.1 14), (w2.1 15), (w2.1 16), (w2.1 18), (w2.1 19), (w2.1 20), (w2.1 22), (w2.1 23), (w2.1 24), (w2.1 26), (w2.1 27), (w2.1 28), (w2.1 32), (w2.1 33), (w2.1 34), o3, (w4.1 0), (w4.1 1), (w4.1 2), (w4.1 3), (w4.1 4), (w4.1 5), (w4.1 6), (w4.1 7), (w4.1 8), (w4.1 9), (w4.1 10), (w4.1 11), (w4.1 12), (w4.1 13), (w4.1 14), (w4.1 15), (w4.1 16), (w4.1 17), (w4.1 18), (w4.1 19), (w4.1 20), (w4.1 21), (w4.1 22), (w4.1 23)].getD k 0) cI cZ (F0w (w2.2 0) (w2.2 1) (w4.2 0)) U0) := hw.2.1.sub [0, 1, 14, 18, 22, 26, 30, 31, 32, 2, 3, 4, 5, 6, 12, 7, 8, 9, 13, 10, 11, 15, 16, 17, 19, 20, 21, 23, 24, 25, 27, 28, 29, 33, 34, 35, 36, 37, 38, 39, 40, 41, 42, 43, 44, 45, 46, 47, 48, 49, 50, 51, 52, 53, 54, 55, 56, 57, 58, 59, 60] (by decide) rfl
  have hl : lv_has ls 4 [(3, .int 0), (2, .ref ((fun k => [o1, (w2.1 0), (w2.1 13), (w2.1 17), (w2.1 21), (w2.1 25), (w2.1 29), (w2.1 30), (w2.1 31), (w2.1 1), (w2.1 2), (w2.1 3), (w2.1 4), (w2.1 5), (w2.1 11), (w2.1 6), (w2.1 7), (w2.1 8), (w2.1 12), (w2.1 9), (w2.1 10), (w2.1 14), (w2.1 15), (w2.1 16), (w2.1 18), (w2.1 19), (w2.1 20), (w2.1 22), (w2.1 23), (w2.1 24), (w2.1 26), (w2.1 27), (w2.1 28), (w2.1 32), (w2.1 33), (w2.1 34), o3, (w4.1 0), (w4.1 1), (w4.1 2), (w4.1 3), (w4.1 4), (w4.1 5), (w4.1 6), (w4.1 7), (w4.1 8), (w4.1 9), (w4.1 10), (w4.1 11), (w4.1 12), (w4.1 13), (w4.1 14), (w4.1 15), (w4.1 16), (w4.1 17), (w4.1 18), (w4.1 19), (w4.1 20), (w4.1 21), (w4.1 22), (w4.1 23)].getD k 0) 36)), (1, .ref ((fun k => [o1, (w2.1 0), (w2.1 13), (w2.1 17), (w2.1 21), (w2.1 25), (w2.1 29), (w2.1 30), (w2.1 31), (w2.1 1), (w2.1 2), (w2.1 3), (w2.1 4), (w2.1 5), (w2.1 11), (w2.1 6), (w2.1 7), (w2.1 8), (w2.1 12), (w2.1 9), (w2.1 10), (w2.1 14), (w2.1 15), (w2.1 16), (w2.1 18), (w2.1 19), (w2.1 20), (w2.1 22), (w2.1 23), (w2.1 24), (w2.1 26), (w2.1 27), (w2.1 28), (w2.1 32), (w2.1 33), (w2.1 34), o3, (w4.1 0), (w4.1 1), (w4.1 2), (w4.1 3), (w4.1 4), (w4.1 5), (w4.1 6), (w4.1 7), (w4.1 8), (w4.1 9), (w4.1 10), (w4.1 11), (w4.1 12), (w4.1 13), (w4.1 14), (w4.1 15), (w4.1 16), (w4.1 17), (w4.1 18), (w4.1 19), (w4.1 20), (w4.1 21), (w4.1 22), (w4.1 23)].getD k 0) 0)), (0, .ref b)] := hl
  generalize (fun k => [o1, (w2.1 0), (w2.1 13), (w2.1 17), (w2.1 21), (w2.1 25), (w2.1 29), (w2.1 30), (w2.1 31), (w2.1 1), (w2.1 2), (w2.1 3), (w2.1 4), (w2.1 5), (w2.1 11), (w2.1 6), (w2.1 7), (w2.1 8), (w2.1 12), (w2.1 9), (w2.1 10), (w2.1 14), (w2.1 15), (w2.1 16), (w2.1 18), (w2.1 19), (w2.1 20), (w2.1 22), (w2.1 23), (w2.1 24), (w2.1 26), (w2.1 27), (w2.1 28), (w2.1 32), (w2.1 33), (w2.1 34), o3, (w4.1 0), (w4.1 1), (w4.1 2), (w4.1 3), (w4.1 4), (w4.1 5), (w4.1 6), (w4.1 7), (w4.1 8), (w4.1 9), (w4.1 10), (w4.1 11), (w4.1 12), (w4.1 13), (w4.1 14), (w4.1 15), (w4.1 16), (w4.1 17), (w4.1 18), (w4.1 19), (w4.1 20), (w4.1 21), (w4.1 22), (w4.1 23)].getD k 0) = a at hPw hDw hl
  have hge : ∀ k, k < 61 → s.heap.size ≤ a k := fun k hk => by
    have hlen : (wd a cI cZ (F0w (w2.2 0) (w2.2 1) (w4.2 0)) U0).length = 61 := rfl
    obtain ⟨q, hq⟩ : ∃ q, (wd a cI cZ (F0w (w2.2 0) (w2.2 1) (w4.2 0)) U0)[k]? = some q := ⟨_, List.getElem?_eq_getElem (by rw [hlen]; exact hk)⟩
    rw [← (wd_at hq).2]
    exact hDw.2 k q hq
  refine va_forget (fun q hq => hw.2.2.1.2.2 q hq) ?_
  have hWd : Wd D a cI cZ s (F0w (w2.2 0) (w2.2 1) (w4.2 0)) U0 H [] := ⟨hPw, hDw.weaken (fun k q hk _ => ⟨k, (wd_at hk).1, (wd_at hk).2⟩), hw.2.2.1.1, fun q h1 _ => hw.2.2.1.2.1 q h1 (Nat.not_le.mpr h1), fun _ h => by cases h⟩
  exact law_loop hL C0 hge cx (L + 1) 0 (Nat.zero_le L) (by omega) _ _ _ _ _ (JJ_F0 hw2.1 hw2.2 hw4) hWd hl
-- ===== YOUR PART ENDS =====
set_option maxHeartbeats 4000000 in
theorem lw_walk (l : Launch) (b : Addr) (xs : List Int32) : MetFree l x (headSpec (Jvm.Cond.code x code maxLocals ret :: tables_1) room_1) (lw_P b xs) (fun _ _ _ _ _ => True) lw_Q := by
  refine MetFree.of_bodyS (code := code) (maxLocals := maxLocals) (ret := ret) (by decide) ?_ ?_
  · intro args s m h hn
    obtain ⟨meth, c, h1, h2, h3, h4, h5, h6, -, -⟩ := Cond.code_spec hn (atoms_spec (ws := Jvm.Cond.code x code maxLocals ret :: tables_1) h _ List.mem_cons_self)
    exact ⟨meth, c, h1, h2, h3, h4, h5, h6⟩
  · intro p e s m args below meth c s₁ B hml0 hP _
    obtain ⟨rfl, hx, hbd, hgv⟩ := hP
    obtain ⟨scr, harrAt, hlist, hof, hsmall⟩ := hx
    obtain ⟨hcb, hkn, -, -⟩ := State.arrayAt?_spec harrAt
    have hown : s.vm.findClass R_law = some m.cls := findClass_of_methodNamed B.named
    have hts0 : ∀ c ∈ (Jvm.Cond.code x code maxLocals ret :: tables_1), c.before #[Value.ref b] s = true := atoms_spec (ws := Jvm.Cond.code x code maxLocals ret :: tables_1) B.pre
    have hts : ∀ w ∈ lw_tbl, w.before #[Value.ref b] s = true := k2_hts_sels lw_privs (fun w hw => hts0 w (List.mem_cons_of_mem _ hw)) lw_privs_ok
    have hml : c.maxLocals = 4 := B.maxLocals_eq (hts0 _ List.mem_cons_self)
    have X₀ : Stand p l e room_1 s m #[Value.ref b] below meth c s₁ [] 0 0 := Stand.of_body B
    have hh0 : s₁.heap = s.heap := by rw [B.state]; rfl
    have hsz : scr.slots.size = xs.length := by rw [← Array.length_toList, hlist, List.length_map]
    have hval : ∀ j : Nat, j < xs.length → scr.slots[j]? = some (.int (xs.getD j 0)) := fun j hj => by
      rw [← Array.getElem?_toList, hlist]
      simp [hj]
    have hbl : b < s.heap.size := (Array.getElem?_eq_some_iff.mp hcb).1
    have hX : va_X b xs.length (fun j => xs.getD j 0) s s.heap := ⟨scr, hcb, hof, hkn, hsz, hval⟩
    have K : W p l e room_1 s m #[Value.ref b] below meth c s₁.heap [] 0 0 (lw_Z below #[Value.ref b] s) (entryFrame m ([Value.ref b] : List Value).toArray 4) := by
      rw [hh0]
      exact whole_start l hbd ⟨B.exec, B.bytes, B.returns, hml, hown, hts, hX, hbl, B.notSynchronized, hgv⟩
    obtain ⟨t, a1, o, b1, b2, b3⟩ := K s₁ rfl X₀
    exact ⟨t, o, a1, b1, b2, b3⟩
theorem lw_pre_spec {args : Array Value} {s : State} (h : (Jvm.Cond.and given_1 narrow_1).before args s = true) (hr : rest_1_c.before args s = true) : ∃ (b : Addr) (xs : List Int32), lw_P b xs args s := by
  have hs := flat_of_before _ h
  have hq := flat_of_before _ hr
  have hc : (Cond.count 1).before args s = true := hs _ (by decide +kernel)
  have harr : (Cond.arrayOf (.arg 0) .int).before args s = true := hs _ (by decide +kernel)
  have hle : (Cond.le (.length (.arg 0)) (.int 2560)).before args s = true := hs _ (by decide +kernel)
  have hlen : (Cond.isInt (.length (.arg 0))).before args s = true := hq _ (by decide +kernel)
  have hall : (Cond.all (.arg 0) (.isInt (.elem (.arg 0) (.index 0)))).before args s = true := hq _ (by decide +kernel)
  obtain ⟨b, xs, hb, hx⟩ := State.ints_of_pre rfl harr hlen hall
  have hsm : xs.length < 2 ^ 31 := hx.choose_spec.2.2.2
  have hev : (Term.length (.arg 0)).eval args s none [] s = some (.int xs.length.toInt32) := hx.length_eval hb
  have hv := Cond.le_ints hev (show (Term.int 2560).eval args s none [] s = some (.int 2560) from rfl)
  have hd : xs.length.toInt32 ≤ 2560 := by
    simpa [Cond.before, Cond.holds, hv] using hle
  have hN : xs.length ≤ 2560 := (Int32.ofNat_le_ofNat hsm (by decide)).mp (show Int32.ofNat xs.length ≤ Int32.ofNat 2560 from hd)
  exact ⟨b, xs, Cond.one_arg hc (show args[0]? = some (.ref b) from hb), hx, hN, h⟩
theorem lw_comes (l : Launch) : Comes l x (Jvm.Cond.code x code maxLocals ret :: tables_1) room_1 (fun tb e args s => Calls_1 tb e args s ∧ rest_1 tb e args s ∧ Pre_1 tb e args s)
    (fun _ _ args s o t => lw_Q args s o t) := by
  intro p e ha hc hk s m args below hf hfit hheap happ hpre
  obtain ⟨b, xs, hP⟩ := lw_pre_spec hpre.2.2 hpre.2.1
  obtain ⟨k, o, h1, h2, h3, hQ⟩ := lw_walk l b xs p e ha hc hk s m args below hf ((Spec.applies_iff_loose hf).mp happ).1 hP trivial
  exact ⟨k, o, h1, h2, h3, hQ⟩
theorem lw_frame {s t : State} {o : Outcome} {args : Array Value} (h : Framed s o t [] 600000 7302250) :
    Framed s o t (fieldLocs frame_1_writes args s ++ arrayLocs frame_1_arrays args s ++ staticLocs frame_1_statics s) 600000 7302250 := h
theorem lw_limb (L : Cond) (hL : ∀ (args : Array Value) (s t : State), L.after args s (.returned (some (.int 1))) t = true) :
    ArmFor flags0 classFile x code maxLocals ret World_1 tables_1 room_1 Calls_1 rest_1 Pre_1
      (fun tb e a s o t => postC L tb e a s o t ∧ Framed s o t (fieldLocs frame_1_writes a s ++ arrayLocs frame_1_arrays a s ++ staticLocs frame_1_statics s) 600000 7302250) := by
  intro l _ _ _ p e ha hc hk s m args below hf hfit hheap happ hpre
  obtain ⟨k, o, h1, h2, h3, rfl, hF⟩ := lw_comes l p e ha hc hk s m args below hf hfit hheap happ hpre
  exact ⟨k, _, h1, h2, h3, hL args s _, lw_frame hF⟩
theorem i_vc : Claimed_1_1 ∧ Claimed_1_2 := ⟨lw_limb limb_1_1 (fun args s t => by simp [limb_1_1, Cond.after, Cond.holds, Cond.value]), lw_limb limb_1_2 (fun args s t => Cond.after_iff.mpr (by
  first | (rw [show limb_1_2 = Cond.eq .result (.int 1) from rfl, Cond.eq_ints (x := 1) (y := 1) rfl rfl]; simp; done) | (simp [limb_1_2, Cond.value, Term.eval]; done)))⟩
