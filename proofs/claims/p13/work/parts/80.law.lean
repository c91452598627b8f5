theorem wd_fst (a : Nat → Nat) (cI cZ : ClassId) (f : FF) (u : UU) : (wd a cI cZ f u).map Prod.fst = (List.range 61).map a := rfl
theorem wd_at {a : Nat → Nat} {cI cZ : ClassId} {f : FF} {u : UU} {k : Nat} {q : Nat × va_E} (h : (wd a cI cZ f u)[k]? = some q) : k < 61 ∧ q.1 = a k := by
  have h1 : ((wd a cI cZ f u).map Prod.fst)[k]? = some q.1 := by rw [List.getElem?_map, h]; rfl
  rw [wd_fst] at h1
  have hk : k < 61 := by
    have := (List.getElem?_eq_some_iff.mp h1).1
    simpa using this
  refine ⟨hk, ?_⟩
  rw [List.getElem?_map, List.getElem?_range hk] at h1
  exact (Option.some.inj h1).symm
theorem lcmp_self (x : Int64) : lg_cmp x x = 0 := by simp [lg_cmp]
theorem law_in {L i : Nat} (hL : L ≤ 2560) (hi : i ≤ 2600) (h : ¬ nI L - 5 < nI i) : i + 5 ≤ L := by
  have e : (nI L - nI 5).toInt = (L : Int) - (5 : Nat) := pk_sub_toInt (by omega) (by omega)
  have h1 := Int32.le_iff_toInt_le.mp (Int32.not_lt.mp h)
  rw [nI_toInt (by omega)] at h1
  have e2 : (nI L - 5).toInt = (L : Int) - (5 : Nat) := e
  rw [e2] at h1
  omega
theorem law_out {L i : Nat} (hL : L ≤ 2560) (hi : i ≤ 2600) (h : L < i + 5) : nI L - 5 < nI i := by
  have e : (nI L - nI 5).toInt = (L : Int) - (5 : Nat) := pk_sub_toInt (by omega) (by omega)
  have e2 : (nI L - 5).toInt = (L : Int) - (5 : Nat) := e
  apply Int32.lt_iff_toInt_lt.mpr
  rw [e2, nI_toInt (by omega)]
  omega

set_option maxHeartbeats 4000000 in
set_option maxRecDepth 100000 in
theorem law_0 {p : Program} {l : Launch} {e : Env} {s : State} {m : MethodId} {below : List Frame} {meth : Method} {c : Code} {b L : Nat} {xs : Nat → Int32} {D : va_G} {a : Nat → Nat} {cI cZ : ClassId} (C0 : lw_At p s m meth c b L xs) (hge : ∀ k, k < 61 → s.heap.size ≤ a k) (cx : Cx p s m #[Value.ref b] c cL_law RL 4 D cI cZ) (hL : L ≤ 2560) (i : Nat) (h5 : i + 5 ≤ L) (next : ∀ (f : FF) (u : UU) (H : Heap) (locs : List Loc) (ls : Array Slot), JJ f → Wd D a cI cZ s f u H locs → lv_has ls 4 [(3, .int (nI (i + 5))), (2, .ref (a 36)), (1, .ref (a 0)), (0, .ref b)] → W p l e room_1 s m #[Value.ref b] below meth c H locs 61 1071 (lw_Z below #[Value.ref b] s) (F0 m 18 ls [])) {f : FF} {u : UU} {H : Heap} {locs : List Loc} {ls : Array Slot} (hj : JJ f) (hw : Wd D a cI cZ s f u H locs) (hl : lv_has ls 4 [(3, .int (nI i)), (2, .ref (a 36)), (1, .ref (a 0)), (0, .ref b)]) : W p l e room_1 s m #[Value.ref b] below meth c H locs 61 1071 (lw_Z below #[Value.ref b] s) (F0 m 172 ls []) := by
  obtain ⟨hx, hb, hr, hml, hown, hts, hX, hbl, hlocks, hgv⟩ := id C0
  have hbA : ¬ AA a b := fun ⟨k, hk, q⟩ => by have := hge k hk; omega
  refine lv_aload_n hx hb dL_law_172 rfl (lv_at hl 2 rfl) ?_
  refine lv_aload_n hx hb dL_law_173 rfl (lv_at hl 3 rfl) ?_
  refine lv_iload_n hx hb dL_law_174 rfl (lv_at hl 0 rfl) ?_
  refine lv_iconst (v := 1) hx hb dL_law_175 (by decide) ?_
  refine lv_iadd hx hb dL_law_176 ?_
  refine topc (y := (nI (i + 1))) (nI_add i 1) ?_
  refine va_sld hx hb hX hbl hbA hw.2.2 (vp_in_nI (by omega) (by omega)) dL_law_177 ?_
  refine lv_aload_n hx hb dL_law_178 rfl (lv_at hl 3 rfl) ?_
  refine lv_iload_n hx hb dL_law_179 rfl (lv_at hl 0 rfl) ?_
  refine lv_iconst (v := 2) hx hb dL_law_180 (by decide) ?_
  refine lv_iadd hx hb dL_law_181 ?_
  refine topc (y := (nI (i + 2))) (nI_add i 2) ?_
  refine va_sld hx hb hX hbl hbA hw.2.2 (vp_in_nI (by omega) (by omega)) dL_law_182 ?_
  refine goI hw (runVW (k := 0) (As := [.int (xs (nI (i + 1)).toNatClampNeg), .int (xs (nI (i + 2)).toNatClampNeg)]) (rest := []) cx hw (k_X7_empty l D a cI cZ f u (xs (nI (i + 1)).toNatClampNeg) (xs (nI (i + 2)).toNatClampNeg) hj.1) lk_L_13 rfl rfl ⟨Nat.le_of_ble_eq_true rfl, Nat.le_of_ble_eq_true rfl⟩ ⟨rfl, rfl⟩ ⟨Nat.le_of_ble_eq_true rfl, Nat.le_of_ble_eq_true rfl⟩ rfl rfl hl.1 (Nat.le_of_ble_eq_true rfl) dL_law_183) (fun r_1 f_1 u_1 H locs hp_1 hw => ?_)
  obtain ⟨hi_1, kk_1, e_1⟩ := hp_1
  have vC_1 : vC f_1 = vC f := vC_KK kk_1 (by decide)
  have vM_1 : vM f_1 = vM f := vM_KP (KP_KK kk_1 (by decide))
  refine topc (y := (an_empty (xs (nI (i + 1)).toNatClampNeg) (xs (nI (i + 2)).toNatClampNeg))) e_1 ?_
  refine lv_pop hx hb dL_law_186 rfl ?_
  refine lv_aload_n hx hb dL_law_187 rfl (lv_at hl 1 rfl) ?_
  refine lv_aload_n hx hb dL_law_188 rfl (lv_at hl 3 rfl) ?_
  refine lv_iload_n hx hb dL_law_189 rfl (lv_at hl 0 rfl) ?_
  refine lv_iconst (v := 1) hx hb dL_law_190 (by decide) ?_
  refine lv_iadd hx hb dL_law_191 ?_
  refine topc (y := (nI (i + 1))) (nI_add i 1) ?_
  refine va_sld hx hb hX hbl hbA hw.2.2 (vp_in_nI (by omega) (by omega)) dL_law_192 ?_
  refine lv_aload_n hx hb dL_law_193 rfl (lv_at hl 3 rfl) ?_
  refine lv_iload_n hx hb dL_law_194 rfl (lv_at hl 0 rfl) ?_
  refine lv_iconst (v := 2) hx hb dL_law_195 (by decide) ?_
  refine lv_iadd hx hb dL_law_196 ?_
  refine topc (y := (nI (i + 2))) (nI_add i 2) ?_
  refine va_sld hx hb hX hbl hbA hw.2.2 (vp_in_nI (by omega) (by omega)) dL_law_197 ?_
  refine goI hw (runVW (k := 36) (As := [.int (xs (nI (i + 1)).toNatClampNeg), .int (xs (nI (i + 2)).toNatClampNeg)]) (rest := []) cx hw (k_X8_empty l D a cI cZ f_1 u_1 (xs (nI (i + 1)).toNatClampNeg) (xs (nI (i + 2)).toNatClampNeg) hi_1) lk_L_17 rfl rfl ⟨Nat.le_of_ble_eq_true rfl, Nat.le_of_ble_eq_true rfl⟩ ⟨rfl, rfl⟩ ⟨Nat.le_of_ble_eq_true rfl, Nat.le_of_ble_eq_true rfl⟩ rfl rfl hl.1 (Nat.le_of_ble_eq_true rfl) dL_law_198) (fun r_2 f_2 u_2 H locs hp_2 hw => ?_)
  obtain ⟨hi_2, kk_2, e_2⟩ := hp_2
  have vM_2 : vM f_2 = vM f_1 := vM_KK kk_2 (by decide)
  have vC_2 : vC f_2 = vC f_1 := vC_KQ (KQ_KK kk_2 (by decide))
  refine topc (y := (an_empty (xs (nI (i + 1)).toNatClampNeg) (xs (nI (i + 2)).toNatClampNeg))) e_2 ?_
  refine lv_pop hx hb dL_law_201 rfl ?_
  refine lv_goto (tgt := 1115) hx hb dL_law_202 (by decide) ?_
  refine lv_iinc (v := nI (i + 5)) (lv' := [(3, .int (nI (i + 5))), (2, .ref (a 36)), (1, .ref (a 0)), (0, .ref b)]) hx hb dL_law_1115 hl (k := 0) rfl (nI_add i 5) (by decide) rfl (fun ls hl => ?_)
  refine lv_goto (tgt := 18) hx hb dL_law_1118 (by decide) ?_
  have cp : vC f_2 = vM f_2 := by
    rw [vC_2, vC_1, vM_2, vM_1]
    exact hj.2
  exact next f_2 u_2 _ _ _ ⟨hi_2, cp⟩ hw hl

set_option maxHeartbeats 4000000 in
set_option maxRecDepth 100000 in
theorem law_1 {p : Program} {l : Launch} {e : Env} {s : State} {m : MethodId} {below : List Frame} {meth : Method} {c : Code} {b L : Nat} {xs : Nat → Int32} {D : va_G} {a : Nat → Nat} {cI cZ : ClassId} (C0 : lw_At p s m meth c b L xs) (hge : ∀ k, k < 61 → s.heap.size ≤ a k) (cx : Cx p s m #[Value.ref b] c cL_law RL 4 D cI cZ) (hL : L ≤ 2560) (i : Nat) (h5 : i + 5 ≤ L) (next : ∀ (f : FF) (u : UU) (H : Heap) (locs : List Loc) (ls : Array Slot), JJ f → Wd D a cI cZ s f u H locs → lv_has ls 4 [(3, .int (nI (i + 5))), (2, .ref (a 36)), (1, .ref (a 0)), (0, .ref b)] → W p l e room_1 s m #[Value.ref b] below meth c H locs 61 1071 (lw_Z below #[Value.ref b] s) (F0 m 18 ls [])) {f : FF} {u : UU} {H : Heap} {locs : List Loc} {ls : Array Slot} (hj : JJ f) (hw : Wd D a cI cZ s f u H locs) (hl : lv_has ls 4 [(3, .int (nI i)), (2, .ref (a 36)), (1, .ref (a 0)), (0, .ref b)]) : W p l e room_1 s m #[Value.ref b] below meth c H locs 61 1071 (lw_Z below #[Value.ref b] s) (F0 m 205 ls []) := by
  obtain ⟨hx, hb, hr, hml, hown, hts, hX, hbl, hlocks, hgv⟩ := id C0
  have hbA : ¬ AA a b := fun ⟨k, hk, q⟩ => by have := hge k hk; omega
  refine lv_aload_n hx hb dL_law_205 rfl (lv_at hl 2 rfl) ?_
  refine lv_aload_n hx hb dL_law_206 rfl (lv_at hl 3 rfl) ?_
  refine lv_iload_n hx hb dL_law_207 rfl (lv_at hl 0 rfl) ?_
  refine lv_iconst (v := 1) hx hb dL_law_208 (by decide) ?_
  refine lv_iadd hx hb dL_law_209 ?_
  refine topc (y := (nI (i + 1))) (nI_add i 1) ?_
  refine va_sld hx hb hX hbl hbA hw.2.2 (vp_in_nI (by omega) (by omega)) dL_law_210 ?_
  refine lv_aload_n hx hb dL_law_211 rfl (lv_at hl 3 rfl) ?_
  refine lv_iload_n hx hb dL_law_212 rfl (lv_at hl 0 rfl) ?_
  refine lv_iconst (v := 2) hx hb dL_law_213 (by decide) ?_
  refine lv_iadd hx hb dL_law_214 ?_
  refine topc (y := (nI (i + 2))) (nI_add i 2) ?_
  refine va_sld hx hb hX hbl hbA hw.2.2 (vp_in_nI (by omega) (by omega)) dL_law_215 ?_
  refine goI hw (runVW (k := 0) (As := [.int (xs (nI (i + 1)).toNatClampNeg), .int (xs (nI (i + 2)).toNatClampNeg)]) (rest := []) cx hw (k_X7_hold l D a cI cZ f u (xs (nI (i + 1)).toNatClampNeg) (xs (nI (i + 2)).toNatClampNeg) hj.1) lk_L_18 rfl rfl ⟨Nat.le_of_ble_eq_true rfl, Nat.le_of_ble_eq_true rfl⟩ ⟨rfl, rfl⟩ ⟨Nat.le_of_ble_eq_true rfl, Nat.le_of_ble_eq_true rfl⟩ rfl rfl hl.1 (Nat.le_of_ble_eq_true rfl) dL_law_216) (fun r_1 f_1 u_1 H locs hp_1 hw => ?_)
  obtain ⟨hi_1, ev_1, kp_1⟩ := hp_1
  have vC_1 : vC f_1 = (S_hold (xs (nI (i + 1)).toNatClampNeg) (xs (nI (i + 2)).toNatClampNeg) (vC f)).2 := congrArg Prod.snd ev_1
  have vM_1 : vM f_1 = vM f := vM_KP kp_1
  refine topc (y := (S_hold (xs (nI (i + 1)).toNatClampNeg) (xs (nI (i + 2)).toNatClampNeg) (vC f)).1) (congrArg Prod.fst ev_1) ?_
  refine lv_pop hx hb dL_law_219 rfl ?_
  refine lv_aload_n hx hb dL_law_220 rfl (lv_at hl 1 rfl) ?_
  refine lv_aload_n hx hb dL_law_221 rfl (lv_at hl 3 rfl) ?_
  refine lv_iload_n hx hb dL_law_222 rfl (lv_at hl 0 rfl) ?_
  refine lv_iconst (v := 1) hx hb dL_law_223 (by decide) ?_
  refine lv_iadd hx hb dL_law_224 ?_
  refine topc (y := (nI (i + 1))) (nI_add i 1) ?_
  refine va_sld hx hb hX hbl hbA hw.2.2 (vp_in_nI (by omega) (by omega)) dL_law_225 ?_
  refine lv_aload_n hx hb dL_law_226 rfl (lv_at hl 3 rfl) ?_
  refine lv_iload_n hx hb dL_law_227 rfl (lv_at hl 0 rfl) ?_
  refine lv_iconst (v := 2) hx hb dL_law_228 (by decide) ?_
  refine lv_iadd hx hb dL_law_229 ?_
  refine topc (y := (nI (i + 2))) (nI_add i 2) ?_
  refine va_sld hx hb hX hbl hbA hw.2.2 (vp_in_nI (by omega) (by omega)) dL_law_230 ?_
  refine goI hw (runVW (k := 36) (As := [.int (xs (nI (i + 1)).toNatClampNeg), .int (xs (nI (i + 2)).toNatClampNeg)]) (rest := []) cx hw (k_X8_hold l D a cI cZ f_1 u_1 (xs (nI (i + 1)).toNatClampNeg) (xs (nI (i + 2)).toNatClampNeg) hi_1) lk_L_21 rfl rfl ⟨Nat.le_of_ble_eq_true rfl, Nat.le_of_ble_eq_true rfl⟩ ⟨rfl, rfl⟩ ⟨Nat.le_of_ble_eq_true rfl, Nat.le_of_ble_eq_true rfl⟩ rfl rfl hl.1 (Nat.le_of_ble_eq_true rfl) dL_law_231) (fun r_2 f_2 u_2 H locs hp_2 hw => ?_)
  obtain ⟨hi_2, ev_2, kp_2⟩ := hp_2
  have vM_2 : vM f_2 = (S_hold (xs (nI (i + 1)).toNatClampNeg) (xs (nI (i + 2)).toNatClampNeg) (vM f_1)).2 := congrArg Prod.snd ev_2
  have vC_2 : vC f_2 = vC f_1 := vC_KQ kp_2
  refine topc (y := (S_hold (xs (nI (i + 1)).toNatClampNeg) (xs (nI (i + 2)).toNatClampNeg) (vC f)).1) ((congrArg Prod.fst ev_2).trans (by rw [vM_1, show vC f = vM f from hj.2])) ?_
  refine lv_pop hx hb dL_law_234 rfl ?_
  refine lv_goto (tgt := 1115) hx hb dL_law_235 (by decide) ?_
  refine lv_iinc (v := nI (i + 5)) (lv' := [(3, .int (nI (i + 5))), (2, .ref (a 36)), (1, .ref (a 0)), (0, .ref b)]) hx hb dL_law_1115 hl (k := 0) rfl (nI_add i 5) (by decide) rfl (fun ls hl => ?_)
  refine lv_goto (tgt := 18) hx hb dL_law_1118 (by decide) ?_
  have cp : vC f_2 = vM f_2 := by
    rw [vC_2, vC_1, vM_2, vM_1, show vC f = vM f from hj.2]
  exact next f_2 u_2 _ _ _ ⟨hi_2, cp⟩ hw hl

set_option maxHeartbeats 4000000 in
set_option maxRecDepth 100000 in
theorem law_2 {p : Program} {l : Launch} {e : Env} {s : State} {m : MethodId} {below : List Frame} {meth : Method} {c : Code} {b L : Nat} {xs : Nat → Int32} {D : va_G} {a : Nat → Nat} {cI cZ : ClassId} (C0 : lw_At p s m meth c b L xs) (hge : ∀ k, k < 61 → s.heap.size ≤ a k) (cx : Cx p s m #[Value.ref b] c cL_law RL 4 D cI cZ) (hL : L ≤ 2560) (i : Nat) (h5 : i + 5 ≤ L) (next : ∀ (f : FF) (u : UU) (H : Heap) (locs : List Loc) (ls : Array Slot), JJ f → Wd D a cI cZ s f u H locs → lv_has ls 4 [(3, .int (nI (i + 5))), (2, .ref (a 36)), (1, .ref (a 0)), (0, .ref b)] → W p l e room_1 s m #[Value.ref b] below meth c H locs 61 1071 (lw_Z below #[Value.ref b] s) (F0 m 18 ls [])) {f : FF} {u : UU} {H : Heap} {locs : List Loc} {ls : Array Slot} (hj : JJ f) (hw : Wd D a cI cZ s f u H locs) (hl : lv_has ls 4 [(3, .int (nI i)), (2, .ref (a 36)), (1, .ref (a 0)), (0, .ref b)]) : W p l e room_1 s m #[Value.ref b] below meth c H locs 61 1071 (lw_Z below #[Value.ref b] s) (F0 m 238 ls []) := by
  obtain ⟨hx, hb, hr, hml, hown, hts, hX, hbl, hlocks, hgv⟩ := id C0
  have hbA : ¬ AA a b := fun ⟨k, hk, q⟩ => by have := hge k hk; omega
  refine lv_aload_n hx hb dL_law_238 rfl (lv_at hl 2 rfl) ?_
  refine lv_aload_n hx hb dL_law_239 rfl (lv_at hl 3 rfl) ?_
  refine lv_iload_n hx hb dL_law_240 rfl (lv_at hl 0 rfl) ?_
  refine lv_iconst (v := 1) hx hb dL_law_241 (by decide) ?_
  refine lv_iadd hx hb dL_law_242 ?_
  refine topc (y := (nI (i + 1))) (nI_add i 1) ?_
  refine va_sld hx hb hX hbl hbA hw.2.2 (vp_in_nI (by omega) (by omega)) dL_law_243 ?_
  refine lv_aload_n hx hb dL_law_244 rfl (lv_at hl 3 rfl) ?_
  refine lv_iload_n hx hb dL_law_245 rfl (lv_at hl 0 rfl) ?_
  refine lv_iconst (v := 2) hx hb dL_law_246 (by decide) ?_
  refine lv_iadd hx hb dL_law_247 ?_
  refine topc (y := (nI (i + 2))) (nI_add i 2) ?_
  refine va_sld hx hb hX hbl hbA hw.2.2 (vp_in_nI (by omega) (by omega)) dL_law_248 ?_
  refine lv_aload_n hx hb dL_law_249 rfl (lv_at hl 3 rfl) ?_
  refine lv_iload_n hx hb dL_law_250 rfl (lv_at hl 0 rfl) ?_
  refine lv_iconst (v := 3) hx hb dL_law_251 (by decide) ?_
  refine lv_iadd hx hb dL_law_252 ?_
  refine topc (y := (nI (i + 3))) (nI_add i 3) ?_
  refine va_sld hx hb hX hbl hbA hw.2.2 (vp_in_nI (by omega) (by omega)) dL_law_253 ?_
  refine goI hw (runVW (k := 0) (As := [.int (xs (nI (i + 1)).toNatClampNeg), .int (xs (nI (i + 2)).toNatClampNeg), .int (xs (nI (i + 3)).toNatClampNeg)]) (rest := []) cx hw (k_X7_slot l D a cI cZ f u (xs (nI (i + 1)).toNatClampNeg) (xs (nI (i + 2)).toNatClampNeg) (xs (nI (i + 3)).toNatClampNeg) hj.1) lk_L_22 rfl rfl ⟨Nat.le_of_ble_eq_true rfl, Nat.le_of_ble_eq_true rfl⟩ ⟨rfl, rfl⟩ ⟨Nat.le_of_ble_eq_true rfl, Nat.le_of_ble_eq_true rfl⟩ rfl rfl hl.1 (Nat.le_of_ble_eq_true rfl) dL_law_254) (fun r_1 f_1 u_1 H locs hp_1 hw => ?_)
  obtain ⟨hi_1, ev_1, kp_1⟩ := hp_1
  have vC_1 : vC f_1 = (S_slot (xs (nI (i + 1)).toNatClampNeg) (xs (nI (i + 2)).toNatClampNeg) (xs (nI (i + 3)).toNatClampNeg) (vC f)).2 := congrArg Prod.snd ev_1
  have vM_1 : vM f_1 = vM f := vM_KP kp_1
  refine topc (y := (S_slot (xs (nI (i + 1)).toNatClampNeg) (xs (nI (i + 2)).toNatClampNeg) (xs (nI (i + 3)).toNatClampNeg) (vC f)).1) (congrArg Prod.fst ev_1) ?_
  refine lv_pop hx hb dL_law_257 rfl ?_
  refine lv_aload_n hx hb dL_law_258 rfl (lv_at hl 1 rfl) ?_
  refine lv_aload_n hx hb dL_law_259 rfl (lv_at hl 3 rfl) ?_
  refine lv_iload_n hx hb dL_law_260 rfl (lv_at hl 0 rfl) ?_
  refine lv_iconst (v := 1) hx hb dL_law_261 (by decide) ?_
  refine lv_iadd hx hb dL_law_262 ?_
  refine topc (y := (nI (i + 1))) (nI_add i 1) ?_
  refine va_sld hx hb hX hbl hbA hw.2.2 (vp_in_nI (by omega) (by omega)) dL_law_263 ?_
  refine lv_aload_n hx hb dL_law_264 rfl (lv_at hl 3 rfl) ?_
  refine lv_iload_n hx hb dL_law_265 rfl (lv_at hl 0 rfl) ?_
  refine lv_iconst (v := 2) hx hb dL_law_266 (by decide) ?_
  refine lv_iadd hx hb dL_law_267 ?_
  refine topc (y := (nI (i + 2))) (nI_add i 2) ?_
  refine va_sld hx hb hX hbl hbA hw.2.2 (vp_in_nI (by omega) (by omega)) dL_law_268 ?_
  refine lv_aload_n hx hb dL_law_269 rfl (lv_at hl 3 rfl) ?_
  refine lv_iload_n hx hb dL_law_270 rfl (lv_at hl 0 rfl) ?_
  refine lv_iconst (v := 3) hx hb dL_law_271 (by decide) ?_
  refine lv_iadd hx hb dL_law_272 ?_
  refine topc (y := (nI (i + 3))) (nI_add i 3) ?_
  refine va_sld hx hb hX hbl hbA hw.2.2 (vp_in_nI (by omega) (by omega)) dL_law_273 ?_
  refine goI hw (runVW (k := 36) (As := [.int (xs (nI (i + 1)).toNatClampNeg), .int (xs (nI (i + 2)).toNatClampNeg), .int (xs (nI (i + 3)).toNatClampNeg)]) (rest := []) cx hw (k_X8_slot l D a cI cZ f_1 u_1 (xs (nI (i + 1)).toNatClampNeg) (xs (nI (i + 2)).toNatClampNeg) (xs (nI (i + 3)).toNatClampNeg) hi_1) lk_L_26 rfl rfl ⟨Nat.le_of_ble_eq_true rfl, Nat.le_of_ble_eq_true rfl⟩ ⟨rfl, rfl⟩ ⟨Nat.le_of_ble_eq_true rfl, Nat.le_of_ble_eq_true rfl⟩ rfl rfl hl.1 (Nat.le_of_ble_eq_true rfl) dL_law_274) (fun r_2 f_2 u_2 H locs hp_2 hw => ?_)
  obtain ⟨hi_2, ev_2, kp_2⟩ := hp_2
  have vM_2 : vM f_2 = (S_slot (xs (nI (i + 1)).toNatClampNeg) (xs (nI (i + 2)).toNatClampNeg) (xs (nI (i + 3)).toNatClampNeg) (vM f_1)).2 := congrArg Prod.snd ev_2
  have vC_2 : vC f_2 = vC f_1 := vC_KQ kp_2
  refine topc (y := (S_slot (xs (nI (i + 1)).toNatClampNeg) (xs (nI (i + 2)).toNatClampNeg) (xs (nI (i + 3)).toNatClampNeg) (vC f)).1) ((congrArg Prod.fst ev_2).trans (by rw [vM_1, show vC f = vM f from hj.2])) ?_
  refine lv_pop hx hb dL_law_277 rfl ?_
  refine lv_goto (tgt := 1115) hx hb dL_law_278 (by decide) ?_
  refine lv_iinc (v := nI (i + 5)) (lv' := [(3, .int (nI (i + 5))), (2, .ref (a 36)), (1, .ref (a 0)), (0, .ref b)]) hx hb dL_law_1115 hl (k := 0) rfl (nI_add i 5) (by decide) rfl (fun ls hl => ?_)
  refine lv_goto (tgt := 18) hx hb dL_law_1118 (by decide) ?_
  have cp : vC f_2 = vM f_2 := by
    rw [vC_2, vC_1, vM_2, vM_1, show vC f = vM f from hj.2]
  exact next f_2 u_2 _ _ _ ⟨hi_2, cp⟩ hw hl

set_option maxHeartbeats 4000000 in
set_option maxRecDepth 100000 in
theorem law_3 {p : Program} {l : Launch} {e : Env} {s : State} {m : MethodId} {below : List Frame} {meth : Method} {c : Code} {b L : Nat} {xs : Nat → Int32} {D : va_G} {a : Nat → Nat} {cI cZ : ClassId} (C0 : lw_At p s m meth c b L xs) (hge : ∀ k, k < 61 → s.heap.size ≤ a k) (cx : Cx p s m #[Value.ref b] c cL_law RL 4 D cI cZ) (hL : L ≤ 2560) (i : Nat) (h5 : i + 5 ≤ L) (next : ∀ (f : FF) (u : UU) (H : Heap) (locs : List Loc) (ls : Array Slot), JJ f → Wd D a cI cZ s f u H locs → lv_has ls 4 [(3, .int (nI (i + 5))), (2, .ref (a 36)), (1, .ref (a 0)), (0, .ref b)] → W p l e room_1 s m #[Value.ref b] below meth c H locs 61 1071 (lw_Z below #[Value.ref b] s) (F0 m 18 ls [])) {f : FF} {u : UU} {H : Heap} {locs : List Loc} {ls : Array Slot} (hj : JJ f) (hw : Wd D a cI cZ s f u H locs) (hl : lv_has ls 4 [(3, .int (nI i)), (2, .ref (a 36)), (1, .ref (a 0)), (0, .ref b)]) : W p l e room_1 s m #[Value.ref b] below meth c H locs 61 1071 (lw_Z below #[Value.ref b] s) (F0 m 281 ls []) := by
  obtain ⟨hx, hb, hr, hml, hown, hts, hX, hbl, hlocks, hgv⟩ := id C0
  have hbA : ¬ AA a b := fun ⟨k, hk, q⟩ => by have := hge k hk; omega
  refine lv_aload_n hx hb dL_law_281 rfl (lv_at hl 2 rfl) ?_
  refine lv_aload_n hx hb dL_law_282 rfl (lv_at hl 3 rfl) ?_
  refine lv_iload_n hx hb dL_law_283 rfl (lv_at hl 0 rfl) ?_
  refine lv_iconst (v := 1) hx hb dL_law_284 (by decide) ?_
  refine lv_iadd hx hb dL_law_285 ?_
  refine topc (y := (nI (i + 1))) (nI_add i 1) ?_
  refine va_sld hx hb hX hbl hbA hw.2.2 (vp_in_nI (by omega) (by omega)) dL_law_286 ?_
  refine lv_aload_n hx hb dL_law_287 rfl (lv_at hl 3 rfl) ?_
  refine lv_iload_n hx hb dL_law_288 rfl (lv_at hl 0 rfl) ?_
  refine lv_iconst (v := 2) hx hb dL_law_289 (by decide) ?_
  refine lv_iadd hx hb dL_law_290 ?_
  refine topc (y := (nI (i + 2))) (nI_add i 2) ?_
  refine va_sld hx hb hX hbl hbA hw.2.2 (vp_in_nI (by omega) (by omega)) dL_law_291 ?_
  refine lv_aload_n hx hb dL_law_292 rfl (lv_at hl 3 rfl) ?_
  refine lv_iload_n hx hb dL_law_293 rfl (lv_at hl 0 rfl) ?_
  refine lv_iconst (v := 3) hx hb dL_law_294 (by decide) ?_
  refine lv_iadd hx hb dL_law_295 ?_
  refine topc (y := (nI (i + 3))) (nI_add i 3) ?_
  refine va_sld hx hb hX hbl hbA hw.2.2 (vp_in_nI (by omega) (by omega)) dL_law_296 ?_
  refine goI hw (runVW (k := 0) (As := [.int (xs (nI (i + 1)).toNatClampNeg), .int (xs (nI (i + 2)).toNatClampNeg), .int (xs (nI (i + 3)).toNatClampNeg)]) (rest := []) cx hw (k_X7_apart l D a cI cZ f u (xs (nI (i + 1)).toNatClampNeg) (xs (nI (i + 2)).toNatClampNeg) (xs (nI (i + 3)).toNatClampNeg) hj.1) lk_L_27 rfl rfl ⟨Nat.le_of_ble_eq_true rfl, Nat.le_of_ble_eq_true rfl⟩ ⟨rfl, rfl⟩ ⟨Nat.le_of_ble_eq_true rfl, Nat.le_of_ble_eq_true rfl⟩ rfl rfl hl.1 (Nat.le_of_ble_eq_true rfl) dL_law_297) (fun r_1 f_1 u_1 H locs hp_1 hw => ?_)
  obtain ⟨hi_1, ev_1, kp_1⟩ := hp_1
  have vC_1 : vC f_1 = (S_apart (xs (nI (i + 1)).toNatClampNeg) (xs (nI (i + 2)).toNatClampNeg) (xs (nI (i + 3)).toNatClampNeg) (vC f)).2 := congrArg Prod.snd ev_1
  have vM_1 : vM f_1 = vM f := vM_KP kp_1
  refine topc (y := (S_apart (xs (nI (i + 1)).toNatClampNeg) (xs (nI (i + 2)).toNatClampNeg) (xs (nI (i + 3)).toNatClampNeg) (vC f)).1) (congrArg Prod.fst ev_1) ?_
  refine lv_pop hx hb dL_law_300 rfl ?_
  refine lv_aload_n hx hb dL_law_301 rfl (lv_at hl 1 rfl) ?_
  refine lv_aload_n hx hb dL_law_302 rfl (lv_at hl 3 rfl) ?_
  refine lv_iload_n hx hb dL_law_303 rfl (lv_at hl 0 rfl) ?_
  refine lv_iconst (v := 1) hx hb dL_law_304 (by decide) ?_
  refine lv_iadd hx hb dL_law_305 ?_
  refine topc (y := (nI (i + 1))) (nI_add i 1) ?_
  refine va_sld hx hb hX hbl hbA hw.2.2 (vp_in_nI (by omega) (by omega)) dL_law_306 ?_
  refine lv_aload_n hx hb dL_law_307 rfl (lv_at hl 3 rfl) ?_
  refine lv_iload_n hx hb dL_law_308 rfl (lv_at hl 0 rfl) ?_
  refine lv_iconst (v := 2) hx hb dL_law_309 (by decide) ?_
  refine lv_iadd hx hb dL_law_310 ?_
  refine topc (y := (nI (i + 2))) (nI_add i 2) ?_
  refine va_sld hx hb hX hbl hbA hw.2.2 (vp_in_nI (by omega) (by omega)) dL_law_311 ?_
  refine lv_aload_n hx hb dL_law_312 rfl (lv_at hl 3 rfl) ?_
  refine lv_iload_n hx hb dL_law_313 rfl (lv_at hl 0 rfl) ?_
  refine lv_iconst (v := 3) hx hb dL_law_314 (by decide) ?_
  refine lv_iadd hx hb dL_law_315 ?_
  refine topc (y := (nI (i + 3))) (nI_add i 3) ?_
  refine va_sld hx hb hX hbl hbA hw.2.2 (vp_in_nI (by omega) (by omega)) dL_law_316 ?_
  refine goI hw (runVW (k := 36) (As := [.int (xs (nI (i + 1)).toNatClampNeg), .int (xs (nI (i + 2)).toNatClampNeg), .int (xs (nI (i + 3)).toNatClampNeg)]) (rest := []) cx hw (k_X8_apart l D a cI cZ f_1 u_1 (xs (nI (i + 1)).toNatClampNeg) (xs (nI (i + 2)).toNatClampNeg) (xs (nI (i + 3)).toNatClampNeg) hi_1) lk_L_30 rfl rfl ⟨Nat.le_of_ble_eq_true rfl, Nat.le_of_ble_eq_true rfl⟩ ⟨rfl, rfl⟩ ⟨Nat.le_of_ble_eq_true rfl, Nat.le_of_ble_eq_true rfl⟩ rfl rfl hl.1 (Nat.le_of_ble_eq_true rfl) dL_law_317) (fun r_2 f_2 u_2 H locs hp_2 hw => ?_)
  obtain ⟨hi_2, ev_2, kp_2⟩ := hp_2
  have vM_2 : vM f_2 = (S_apart (xs (nI (i + 1)).toNatClampNeg) (xs (nI (i + 2)).toNatClampNeg) (xs (nI (i + 3)).toNatClampNeg) (vM f_1)).2 := congrArg Prod.snd ev_2
  have vC_2 : vC f_2 = vC f_1 := vC_KQ kp_2
  refine topc (y := (S_apart (xs (nI (i + 1)).toNatClampNeg) (xs (nI (i + 2)).toNatClampNeg) (xs (nI (i + 3)).toNatClampNeg) (vC f)).1) ((congrArg Prod.fst ev_2).trans (by rw [vM_1, show vC f = vM f from hj.2])) ?_
  refine lv_pop hx hb dL_law_320 rfl ?_
  refine lv_goto (tgt := 1115) hx hb dL_law_321 (by decide) ?_
  refine lv_iinc (v := nI (i + 5)) (lv' := [(3, .int (nI (i + 5))), (2, .ref (a 36)), (1, .ref (a 0)), (0, .ref b)]) hx hb dL_law_1115 hl (k := 0) rfl (nI_add i 5) (by decide) rfl (fun ls hl => ?_)
  refine lv_goto (tgt := 18) hx hb dL_law_1118 (by decide) ?_
  have cp : vC f_2 = vM f_2 := by
    rw [vC_2, vC_1, vM_2, vM_1, show vC f = vM f from hj.2]
  exact next f_2 u_2 _ _ _ ⟨hi_2, cp⟩ hw hl

set_option maxHeartbeats 4000000 in
set_option maxRecDepth 100000 in
theorem law_4 {p : Program} {l : Launch} {e : Env} {s : State} {m : MethodId} {below : List Frame} {meth : Method} {c : Code} {b L : Nat} {xs : Nat → Int32} {D : va_G} {a : Nat → Nat} {cI cZ : ClassId} (C0 : lw_At p s m meth c b L xs) (hge : ∀ k, k < 61 → s.heap.size ≤ a k) (cx : Cx p s m #[Value.ref b] c cL_law RL 4 D cI cZ) (hL : L ≤ 2560) (i : Nat) (h5 : i + 5 ≤ L) (next : ∀ (f : FF) (u : UU) (H : Heap) (locs : List Loc) (ls : Array Slot), JJ f → Wd D a cI cZ s f u H locs → lv_has ls 4 [(3, .int (nI (i + 5))), (2, .ref (a 36)), (1, .ref (a 0)), (0, .ref b)] → W p l e room_1 s m #[Value.ref b] below meth c H locs 61 1071 (lw_Z below #[Value.ref b] s) (F0 m 18 ls [])) {f : FF} {u : UU} {H : Heap} {locs : List Loc} {ls : Array Slot} (hj : JJ f) (hw : Wd D a cI cZ s f u H locs) (hl : lv_has ls 4 [(3, .int (nI i)), (2, .ref (a 36)), (1, .ref (a 0)), (0, .ref b)]) : W p l e room_1 s m #[Value.ref b] below meth c H locs 61 1071 (lw_Z below #[Value.ref b] s) (F0 m 324 ls []) := by
  obtain ⟨hx, hb, hr, hml, hown, hts, hX, hbl, hlocks, hgv⟩ := id C0
  have hbA : ¬ AA a b := fun ⟨k, hk, q⟩ => by have := hge k hk; omega
  refine lv_aload_n hx hb dL_law_324 rfl (lv_at hl 2 rfl) ?_
  refine lv_aload_n hx hb dL_law_325 rfl (lv_at hl 3 rfl) ?_
  refine lv_iload_n hx hb dL_law_326 rfl (lv_at hl 0 rfl) ?_
  refine lv_iconst (v := 1) hx hb dL_law_327 (by decide) ?_
  refine lv_iadd hx hb dL_law_328 ?_
  refine topc (y := (nI (i + 1))) (nI_add i 1) ?_
  refine va_sld hx hb hX hbl hbA hw.2.2 (vp_in_nI (by omega) (by omega)) dL_law_329 ?_
  refine lv_aload_n hx hb dL_law_330 rfl (lv_at hl 3 rfl) ?_
  refine lv_iload_n hx hb dL_law_331 rfl (lv_at hl 0 rfl) ?_
  refine lv_iconst (v := 2) hx hb dL_law_332 (by decide) ?_
  refine lv_iadd hx hb dL_law_333 ?_
  refine topc (y := (nI (i + 2))) (nI_add i 2) ?_
  refine va_sld hx hb hX hbl hbA hw.2.2 (vp_in_nI (by omega) (by omega)) dL_law_334 ?_
  refine lv_aload_n hx hb dL_law_335 rfl (lv_at hl 3 rfl) ?_
  refine lv_iload_n hx hb dL_law_336 rfl (lv_at hl 0 rfl) ?_
  refine lv_iconst (v := 3) hx hb dL_law_337 (by decide) ?_
  refine lv_iadd hx hb dL_law_338 ?_
  refine topc (y := (nI (i + 3))) (nI_add i 3) ?_
  refine va_sld hx hb hX hbl hbA hw.2.2 (vp_in_nI (by omega) (by omega)) dL_law_339 ?_
  refine goI hw (runVW (k := 0) (As := [.int (xs (nI (i + 1)).toNatClampNeg), .int (xs (nI (i + 2)).toNatClampNeg), .int (xs (nI (i + 3)).toNatClampNeg)]) (rest := []) cx hw (k_X7_item l D a cI cZ f u (xs (nI (i + 1)).toNatClampNeg) (xs (nI (i + 2)).toNatClampNeg) (xs (nI (i + 3)).toNatClampNeg) hj.1) lk_L_31 rfl rfl ⟨Nat.le_of_ble_eq_true rfl, Nat.le_of_ble_eq_true rfl⟩ ⟨rfl, rfl⟩ ⟨Nat.le_of_ble_eq_true rfl, Nat.le_of_ble_eq_true rfl⟩ rfl rfl hl.1 (Nat.le_of_ble_eq_true rfl) dL_law_340) (fun r_1 f_1 u_1 H locs hp_1 hw => ?_)
  obtain ⟨hi_1, ev_1, kp_1⟩ := hp_1
  have vC_1 : vC f_1 = (S_item (xs (nI (i + 1)).toNatClampNeg) (xs (nI (i + 2)).toNatClampNeg) (xs (nI (i + 3)).toNatClampNeg) (vC f)).2 := congrArg Prod.snd ev_1
  have vM_1 : vM f_1 = vM f := vM_KP kp_1
  refine topc (y := (S_item (xs (nI (i + 1)).toNatClampNeg) (xs (nI (i + 2)).toNatClampNeg) (xs (nI (i + 3)).toNatClampNeg) (vC f)).1) (congrArg Prod.fst ev_1) ?_
  refine lv_pop hx hb dL_law_343 rfl ?_
  refine lv_aload_n hx hb dL_law_344 rfl (lv_at hl 1 rfl) ?_
  refine lv_aload_n hx hb dL_law_345 rfl (lv_at hl 3 rfl) ?_
  refine lv_iload_n hx hb dL_law_346 rfl (lv_at hl 0 rfl) ?_
  refine lv_iconst (v := 1) hx hb dL_law_347 (by decide) ?_
  refine lv_iadd hx hb dL_law_348 ?_
  refine topc (y := (nI (i + 1))) (nI_add i 1) ?_
  refine va_sld hx hb hX hbl hbA hw.2.2 (vp_in_nI (by omega) (by omega)) dL_law_349 ?_
  refine lv_aload_n hx hb dL_law_350 rfl (lv_at hl 3 rfl) ?_
  refine lv_iload_n hx hb dL_law_351 rfl (lv_at hl 0 rfl) ?_
  refine lv_iconst (v := 2) hx hb dL_law_352 (by decide) ?_
  refine lv_iadd hx hb dL_law_353 ?_
  refine topc (y := (nI (i + 2))) (nI_add i 2) ?_
  refine va_sld hx hb hX hbl hbA hw.2.2 (vp_in_nI (by omega) (by omega)) dL_law_354 ?_
  refine lv_aload_n hx hb dL_law_355 rfl (lv_at hl 3 rfl) ?_
  refine lv_iload_n hx hb dL_law_356 rfl (lv_at hl 0 rfl) ?_
  refine lv_iconst (v := 3) hx hb dL_law_357 (by decide) ?_
  refine lv_iadd hx hb dL_law_358 ?_
  refine topc (y := (nI (i + 3))) (nI_add i 3) ?_
  refine va_sld hx hb hX hbl hbA hw.2.2 (vp_in_nI (by omega) (by omega)) dL_law_359 ?_
  refine goI hw (runVW (k := 36) (As := [.int (xs (nI (i + 1)).toNatClampNeg), .int (xs (nI (i + 2)).toNatClampNeg), .int (xs (nI (i + 3)).toNatClampNeg)]) (rest := []) cx hw (k_X8_item l D a cI cZ f_1 u_1 (xs (nI (i + 1)).toNatClampNeg) (xs (nI (i + 2)).toNatClampNeg) (xs (nI (i + 3)).toNatClampNeg) hi_1) lk_L_34 rfl rfl ⟨Nat.le_of_ble_eq_true rfl, Nat.le_of_ble_eq_true rfl⟩ ⟨rfl, rfl⟩ ⟨Nat.le_of_ble_eq_true rfl, Nat.le_of_ble_eq_true rfl⟩ rfl rfl hl.1 (Nat.le_of_ble_eq_true rfl) dL_law_360) (fun r_2 f_2 u_2 H locs hp_2 hw => ?_)
  obtain ⟨hi_2, ev_2, kp_2⟩ := hp_2
  have vM_2 : vM f_2 = (S_item (xs (nI (i + 1)).toNatClampNeg) (xs (nI (i + 2)).toNatClampNeg) (xs (nI (i + 3)).toNatClampNeg) (vM f_1)).2 := congrArg Prod.snd ev_2
  have vC_2 : vC f_2 = vC f_1 := vC_KQ kp_2
  refine topc (y := (S_item (xs (nI (i + 1)).toNatClampNeg) (xs (nI (i + 2)).toNatClampNeg) (xs (nI (i + 3)).toNatClampNeg) (vC f)).1) ((congrArg Prod.fst ev_2).trans (by rw [vM_1, show vC f = vM f from hj.2])) ?_
  refine lv_pop hx hb dL_law_363 rfl ?_
  refine lv_goto (tgt := 1115) hx hb dL_law_364 (by decide) ?_
  refine lv_iinc (v := nI (i + 5)) (lv' := [(3, .int (nI (i + 5))), (2, .ref (a 36)), (1, .ref (a 0)), (0, .ref b)]) hx hb dL_law_1115 hl (k := 0) rfl (nI_add i 5) (by decide) rfl (fun ls hl => ?_)
  refine lv_goto (tgt := 18) hx hb dL_law_1118 (by decide) ?_
  have cp : vC f_2 = vM f_2 := by
    rw [vC_2, vC_1, vM_2, vM_1, show vC f = vM f from hj.2]
  exact next f_2 u_2 _ _ _ ⟨hi_2, cp⟩ hw hl

set_option maxHeartbeats 4000000 in
set_option maxRecDepth 100000 in
theorem law_5 {p : Program} {l : Launch} {e : Env} {s : State} {m : MethodId} {below : List Frame} {meth : Method} {c : Code} {b L : Nat} {xs : Nat → Int32} {D : va_G} {a : Nat → Nat} {cI cZ : ClassId} (C0 : lw_At p s m meth c b L xs) (hge : ∀ k, k < 61 → s.heap.size ≤ a k) (cx : Cx p s m #[Value.ref b] c cL_law RL 4 D cI cZ) (hL : L ≤ 2560) (i : Nat) (h5 : i + 5 ≤ L) (next : ∀ (f : FF) (u : UU) (H : Heap) (locs : List Loc) (ls : Array Slot), JJ f → Wd D a cI cZ s f u H locs → lv_has ls 4 [(3, .int (nI (i + 5))), (2, .ref (a 36)), (1, .ref (a 0)), (0, .ref b)] → W p l e room_1 s m #[Value.ref b] below meth c H locs 61 1071 (lw_Z below #[Value.ref b] s) (F0 m 18 ls [])) {f : FF} {u : UU} {H : Heap} {locs : List Loc} {ls : Array Slot} (hj : JJ f) (hw : Wd D a cI cZ s f u H locs) (hl : lv_has ls 4 [(3, .int (nI i)), (2, .ref (a 36)), (1, .ref (a 0)), (0, .ref b)]) : W p l e room_1 s m #[Value.ref b] below meth c H locs 61 1071 (lw_Z below #[Value.ref b] s) (F0 m 367 ls []) := by
  obtain ⟨hx, hb, hr, hml, hown, hts, hX, hbl, hlocks, hgv⟩ := id C0
  have hbA : ¬ AA a b := fun ⟨k, hk, q⟩ => by have := hge k hk; omega
  refine lv_aload_n hx hb dL_law_367 rfl (lv_at hl 2 rfl) ?_
  refine lv_aload_n hx hb dL_law_368 rfl (lv_at hl 3 rfl) ?_
  refine lv_iload_n hx hb dL_law_369 rfl (lv_at hl 0 rfl) ?_
  refine lv_iconst (v := 1) hx hb dL_law_370 (by decide) ?_
  refine lv_iadd hx hb dL_law_371 ?_
  refine topc (y := (nI (i + 1))) (nI_add i 1) ?_
  refine va_sld hx hb hX hbl hbA hw.2.2 (vp_in_nI (by omega) (by omega)) dL_law_372 ?_
  refine lv_aload_n hx hb dL_law_373 rfl (lv_at hl 3 rfl) ?_
  refine lv_iload_n hx hb dL_law_374 rfl (lv_at hl 0 rfl) ?_
  refine lv_iconst (v := 2) hx hb dL_law_375 (by decide) ?_
  refine lv_iadd hx hb dL_law_376 ?_
  refine topc (y := (nI (i + 2))) (nI_add i 2) ?_
  refine va_sld hx hb hX hbl hbA hw.2.2 (vp_in_nI (by omega) (by omega)) dL_law_377 ?_
  refine goI hw (runVW (k := 0) (As := [.int (xs (nI (i + 1)).toNatClampNeg), .int (xs (nI (i + 2)).toNatClampNeg)]) (rest := []) cx hw (k_X7_row l D a cI cZ f u (xs (nI (i + 1)).toNatClampNeg) (xs (nI (i + 2)).toNatClampNeg) hj.1) lk_L_35 rfl rfl ⟨Nat.le_of_ble_eq_true rfl, Nat.le_of_ble_eq_true rfl⟩ ⟨rfl, rfl⟩ ⟨Nat.le_of_ble_eq_true rfl, Nat.le_of_ble_eq_true rfl⟩ rfl rfl hl.1 (Nat.le_of_ble_eq_true rfl) dL_law_378) (fun r_1 f_1 u_1 H locs hp_1 hw => ?_)
  obtain ⟨hi_1, ev_1, kp_1⟩ := hp_1
  have vC_1 : vC f_1 = (S_row (xs (nI (i + 1)).toNatClampNeg) (xs (nI (i + 2)).toNatClampNeg) (vC f)).2 := congrArg Prod.snd ev_1
  have vM_1 : vM f_1 = vM f := vM_KP kp_1
  refine topc (y := (S_row (xs (nI (i + 1)).toNatClampNeg) (xs (nI (i + 2)).toNatClampNeg) (vC f)).1) (congrArg Prod.fst ev_1) ?_
  refine lv_pop hx hb dL_law_381 rfl ?_
  refine lv_aload_n hx hb dL_law_382 rfl (lv_at hl 1 rfl) ?_
  refine lv_aload_n hx hb dL_law_383 rfl (lv_at hl 3 rfl) ?_
  refine lv_iload_n hx hb dL_law_384 rfl (lv_at hl 0 rfl) ?_
  refine lv_iconst (v := 1) hx hb dL_law_385 (by decide) ?_
  refine lv_iadd hx hb dL_law_386 ?_
  refine topc (y := (nI (i + 1))) (nI_add i 1) ?_
  refine va_sld hx hb hX hbl hbA hw.2.2 (vp_in_nI (by omega) (by omega)) dL_law_387 ?_
  refine lv_aload_n hx hb dL_law_388 rfl (lv_at hl 3 rfl) ?_
  refine lv_iload_n hx hb dL_law_389 rfl (lv_at hl 0 rfl) ?_
  refine lv_iconst (v := 2) hx hb dL_law_390 (by decide) ?_
  refine lv_iadd hx hb dL_law_391 ?_
  refine topc (y := (nI (i + 2))) (nI_add i 2) ?_
  refine va_sld hx hb hX hbl hbA hw.2.2 (vp_in_nI (by omega) (by omega)) dL_law_392 ?_
  refine goI hw (runVW (k := 36) (As := [.int (xs (nI (i + 1)).toNatClampNeg), .int (xs (nI (i + 2)).toNatClampNeg)]) (rest := []) cx hw (k_X8_row l D a cI cZ f_1 u_1 (xs (nI (i + 1)).toNatClampNeg) (xs (nI (i + 2)).toNatClampNeg) hi_1) lk_L_38 rfl rfl ⟨Nat.le_of_ble_eq_true rfl, Nat.le_of_ble_eq_true rfl⟩ ⟨rfl, rfl⟩ ⟨Nat.le_of_ble_eq_true rfl, Nat.le_of_ble_eq_true rfl⟩ rfl rfl hl.1 (Nat.le_of_ble_eq_true rfl) dL_law_393) (fun r_2 f_2 u_2 H locs hp_2 hw => ?_)
  obtain ⟨hi_2, ev_2, kp_2⟩ := hp_2
  have vM_2 : vM f_2 = (S_row (xs (nI (i + 1)).toNatClampNeg) (xs (nI (i + 2)).toNatClampNeg) (vM f_1)).2 := congrArg Prod.snd ev_2
  have vC_2 : vC f_2 = vC f_1 := vC_KQ kp_2
  refine topc (y := (S_row (xs (nI (i + 1)).toNatClampNeg) (xs (nI (i + 2)).toNatClampNeg) (vC f)).1) ((congrArg Prod.fst ev_2).trans (by rw [vM_1, show vC f = vM f from hj.2])) ?_
  refine lv_pop hx hb dL_law_396 rfl ?_
  refine lv_goto (tgt := 1115) hx hb dL_law_397 (by decide) ?_
  refine lv_iinc (v := nI (i + 5)) (lv' := [(3, .int (nI (i + 5))), (2, .ref (a 36)), (1, .ref (a 0)), (0, .ref b)]) hx hb dL_law_1115 hl (k := 0) rfl (nI_add i 5) (by decide) rfl (fun ls hl => ?_)
  refine lv_goto (tgt := 18) hx hb dL_law_1118 (by decide) ?_
  have cp : vC f_2 = vM f_2 := by
    rw [vC_2, vC_1, vM_2, vM_1, show vC f = vM f from hj.2]
  exact next f_2 u_2 _ _ _ ⟨hi_2, cp⟩ hw hl

set_option maxHeartbeats 4000000 in
set_option maxRecDepth 100000 in
theorem law_6 {p : Program} {l : Launch} {e : Env} {s : State} {m : MethodId} {below : List Frame} {meth : Method} {c : Code} {b L : Nat} {xs : Nat → Int32} {D : va_G} {a : Nat → Nat} {cI cZ : ClassId} (C0 : lw_At p s m meth c b L xs) (hge : ∀ k, k < 61 → s.heap.size ≤ a k) (cx : Cx p s m #[Value.ref b] c cL_law RL 4 D cI cZ) (hL : L ≤ 2560) (i : Nat) (h5 : i + 5 ≤ L) (next : ∀ (f : FF) (u : UU) (H : Heap) (locs : List Loc) (ls : Array Slot), JJ f → Wd D a cI cZ s f u H locs → lv_has ls 4 [(3, .int (nI (i + 5))), (2, .ref (a 36)), (1, .ref (a 0)), (0, .ref b)] → W p l e room_1 s m #[Value.ref b] below meth c H locs 61 1071 (lw_Z below #[Value.ref b] s) (F0 m 18 ls [])) {f : FF} {u : UU} {H : Heap} {locs : List Loc} {ls : Array Slot} (hj : JJ f) (hw : Wd D a cI cZ s f u H locs) (hl : lv_has ls 4 [(3, .int (nI i)), (2, .ref (a 36)), (1, .ref (a 0)), (0, .ref b)]) : W p l e room_1 s m #[Value.ref b] below meth c H locs 61 1071 (lw_Z below #[Value.ref b] s) (F0 m 400 ls []) := by
  obtain ⟨hx, hb, hr, hml, hown, hts, hX, hbl, hlocks, hgv⟩ := id C0
  have hbA : ¬ AA a b := fun ⟨k, hk, q⟩ => by have := hge k hk; omega
  refine lv_aload_n hx hb dL_law_400 rfl (lv_at hl 2 rfl) ?_
  refine lv_aload_n hx hb dL_law_401 rfl (lv_at hl 3 rfl) ?_
  refine lv_iload_n hx hb dL_law_402 rfl (lv_at hl 0 rfl) ?_
  refine lv_iconst (v := 1) hx hb dL_law_403 (by decide) ?_
  refine lv_iadd hx hb dL_law_404 ?_
  refine topc (y := (nI (i + 1))) (nI_add i 1) ?_
  refine va_sld hx hb hX hbl hbA hw.2.2 (vp_in_nI (by omega) (by omega)) dL_law_405 ?_
  refine lv_aload_n hx hb dL_law_406 rfl (lv_at hl 3 rfl) ?_
  refine lv_iload_n hx hb dL_law_407 rfl (lv_at hl 0 rfl) ?_
  refine lv_iconst (v := 2) hx hb dL_law_408 (by decide) ?_
  refine lv_iadd hx hb dL_law_409 ?_
  refine topc (y := (nI (i + 2))) (nI_add i 2) ?_
  refine va_sld hx hb hX hbl hbA hw.2.2 (vp_in_nI (by omega) (by omega)) dL_law_410 ?_
  refine goI hw (runVW (k := 0) (As := [.int (xs (nI (i + 1)).toNatClampNeg), .int (xs (nI (i + 2)).toNatClampNeg)]) (rest := []) cx hw (k_X7_tank l D a cI cZ f u (xs (nI (i + 1)).toNatClampNeg) (xs (nI (i + 2)).toNatClampNeg) hj.1) lk_L_39 rfl rfl ⟨Nat.le_of_ble_eq_true rfl, Nat.le_of_ble_eq_true rfl⟩ ⟨rfl, rfl⟩ ⟨Nat.le_of_ble_eq_true rfl, Nat.le_of_ble_eq_true rfl⟩ rfl rfl hl.1 (Nat.le_of_ble_eq_true rfl) dL_law_411) (fun r_1 f_1 u_1 H locs hp_1 hw => ?_)
  obtain ⟨hi_1, ev_1, kp_1⟩ := hp_1
  have vC_1 : vC f_1 = (S_tank (xs (nI (i + 1)).toNatClampNeg) (xs (nI (i + 2)).toNatClampNeg) (vC f)).2 := congrArg Prod.snd ev_1
  have vM_1 : vM f_1 = vM f := vM_KP kp_1
  refine topc (y := (S_tank (xs (nI (i + 1)).toNatClampNeg) (xs (nI (i + 2)).toNatClampNeg) (vC f)).1) (congrArg Prod.fst ev_1) ?_
  refine lv_pop hx hb dL_law_414 rfl ?_
  refine lv_aload_n hx hb dL_law_415 rfl (lv_at hl 1 rfl) ?_
  refine lv_aload_n hx hb dL_law_416 rfl (lv_at hl 3 rfl) ?_
  refine lv_iload_n hx hb dL_law_417 rfl (lv_at hl 0 rfl) ?_
  refine lv_iconst (v := 1) hx hb dL_law_418 (by decide) ?_
  refine lv_iadd hx hb dL_law_419 ?_
  refine topc (y := (nI (i + 1))) (nI_add i 1) ?_
  refine va_sld hx hb hX hbl hbA hw.2.2 (vp_in_nI (by omega) (by omega)) dL_law_420 ?_
  refine lv_aload_n hx hb dL_law_421 rfl (lv_at hl 3 rfl) ?_
  refine lv_iload_n hx hb dL_law_422 rfl (lv_at hl 0 rfl) ?_
  refine lv_iconst (v := 2) hx hb dL_law_423 (by decide) ?_
  refine lv_iadd hx hb dL_law_424 ?_
  refine topc (y := (nI (i + 2))) (nI_add i 2) ?_
  refine va_sld hx hb hX hbl hbA hw.2.2 (vp_in_nI (by omega) (by omega)) dL_law_425 ?_
  refine goI hw (runVW (k := 36) (As := [.int (xs (nI (i + 1)).toNatClampNeg), .int (xs (nI (i + 2)).toNatClampNeg)]) (rest := []) cx hw (k_X8_tank l D a cI cZ f_1 u_1 (xs (nI (i + 1)).toNatClampNeg) (xs (nI (i + 2)).toNatClampNeg) hi_1) lk_L_42 rfl rfl ⟨Nat.le_of_ble_eq_true rfl, Nat.le_of_ble_eq_true rfl⟩ ⟨rfl, rfl⟩ ⟨Nat.le_of_ble_eq_true rfl, Nat.le_of_ble_eq_true rfl⟩ rfl rfl hl.1 (Nat.le_of_ble_eq_true rfl) dL_law_426) (fun r_2 f_2 u_2 H locs hp_2 hw => ?_)
  obtain ⟨hi_2, ev_2, kp_2⟩ := hp_2
  have vM_2 : vM f_2 = (S_tank (xs (nI (i + 1)).toNatClampNeg) (xs (nI (i + 2)).toNatClampNeg) (vM f_1)).2 := congrArg Prod.snd ev_2
  have vC_2 : vC f_2 = vC f_1 := vC_KQ kp_2
  refine topc (y := (S_tank (xs (nI (i + 1)).toNatClampNeg) (xs (nI (i + 2)).toNatClampNeg) (vC f)).1) ((congrArg Prod.fst ev_2).trans (by rw [vM_1, show vC f = vM f from hj.2])) ?_
  refine lv_pop hx hb dL_law_429 rfl ?_
  refine lv_goto (tgt := 1115) hx hb dL_law_430 (by decide) ?_
  refine lv_iinc (v := nI (i + 5)) (lv' := [(3, .int (nI (i + 5))), (2, .ref (a 36)), (1, .ref (a 0)), (0, .ref b)]) hx hb dL_law_1115 hl (k := 0) rfl (nI_add i 5) (by decide) rfl (fun ls hl => ?_)
  refine lv_goto (tgt := 18) hx hb dL_law_1118 (by decide) ?_
  have cp : vC f_2 = vM f_2 := by
    rw [vC_2, vC_1, vM_2, vM_1, show vC f = vM f from hj.2]
  exact next f_2 u_2 _ _ _ ⟨hi_2, cp⟩ hw hl

set_option maxHeartbeats 4000000 in
set_option maxRecDepth 100000 in
theorem law_7 {p : Program} {l : Launch} {e : Env} {s : State} {m : MethodId} {below : List Frame} {meth : Method} {c : Code} {b L : Nat} {xs : Nat → Int32} {D : va_G} {a : Nat → Nat} {cI cZ : ClassId} (C0 : lw_At p s m meth c b L xs) (hge : ∀ k, k < 61 → s.heap.size ≤ a k) (cx : Cx p s m #[Value.ref b] c cL_law RL 4 D cI cZ) (hL : L ≤ 2560) (i : Nat) (h5 : i + 5 ≤ L) (next : ∀ (f : FF) (u : UU) (H : Heap) (locs : List Loc) (ls : Array Slot), JJ f → Wd D a cI cZ s f u H locs → lv_has ls 4 [(3, .int (nI (i + 5))), (2, .ref (a 36)), (1, .ref (a 0)), (0, .ref b)] → W p l e room_1 s m #[Value.ref b] below meth c H locs 61 1071 (lw_Z below #[Value.ref b] s) (F0 m 18 ls [])) {f : FF} {u : UU} {H : Heap} {locs : List Loc} {ls : Array Slot} (hj : JJ f) (hw : Wd D a cI cZ s f u H locs) (hl : lv_has ls 4 [(3, .int (nI i)), (2, .ref (a 36)), (1, .ref (a 0)), (0, .ref b)]) : W p l e room_1 s m #[Value.ref b] below meth c H locs 61 1071 (lw_Z below #[Value.ref b] s) (F0 m 433 ls []) := by
  obtain ⟨hx, hb, hr, hml, hown, hts, hX, hbl, hlocks, hgv⟩ := id C0
  have hbA : ¬ AA a b := fun ⟨k, hk, q⟩ => by have := hge k hk; omega
  refine lv_aload_n hx hb dL_law_433 rfl (lv_at hl 2 rfl) ?_
  refine lv_aload_n hx hb dL_law_434 rfl (lv_at hl 3 rfl) ?_
  refine lv_iload_n hx hb dL_law_435 rfl (lv_at hl 0 rfl) ?_
  refine lv_iconst (v := 1) hx hb dL_law_436 (by decide) ?_
  refine lv_iadd hx hb dL_law_437 ?_
  refine topc (y := (nI (i + 1))) (nI_add i 1) ?_
  refine va_sld hx hb hX hbl hbA hw.2.2 (vp_in_nI (by omega) (by omega)) dL_law_438 ?_
  refine goI hw (runVW (k := 0) (As := [.int (xs (nI (i + 1)).toNatClampNeg)]) (rest := []) cx hw (k_X7_person l D a cI cZ f u (xs (nI (i + 1)).toNatClampNeg) hj.1) lk_L_43 rfl rfl ⟨Nat.le_of_ble_eq_true rfl, Nat.le_of_ble_eq_true rfl⟩ ⟨rfl, rfl⟩ ⟨Nat.le_of_ble_eq_true rfl, Nat.le_of_ble_eq_true rfl⟩ rfl rfl hl.1 (Nat.le_of_ble_eq_true rfl) dL_law_439) (fun r_1 f_1 u_1 H locs hp_1 hw => ?_)
  obtain ⟨hi_1, ev_1, kp_1⟩ := hp_1
  have vC_1 : vC f_1 = (S_person (xs (nI (i + 1)).toNatClampNeg) (vC f)).2 := congrArg Prod.snd ev_1
  have vM_1 : vM f_1 = vM f := vM_KP kp_1
  refine topc (y := (S_person (xs (nI (i + 1)).toNatClampNeg) (vC f)).1) (congrArg Prod.fst ev_1) ?_
  refine lv_pop hx hb dL_law_442 rfl ?_
  refine lv_aload_n hx hb dL_law_443 rfl (lv_at hl 1 rfl) ?_
  refine lv_aload_n hx hb dL_law_444 rfl (lv_at hl 3 rfl) ?_
  refine lv_iload_n hx hb dL_law_445 rfl (lv_at hl 0 rfl) ?_
  refine lv_iconst (v := 1) hx hb dL_law_446 (by decide) ?_
  refine lv_iadd hx hb dL_law_447 ?_
  refine topc (y := (nI (i + 1))) (nI_add i 1) ?_
  refine va_sld hx hb hX hbl hbA hw.2.2 (vp_in_nI (by omega) (by omega)) dL_law_448 ?_
  refine goI hw (runVW (k := 36) (As := [.int (xs (nI (i + 1)).toNatClampNeg)]) (rest := []) cx hw (k_X8_person l D a cI cZ f_1 u_1 (xs (nI (i + 1)).toNatClampNeg) hi_1) lk_L_47 rfl rfl ⟨Nat.le_of_ble_eq_true rfl, Nat.le_of_ble_eq_true rfl⟩ ⟨rfl, rfl⟩ ⟨Nat.le_of_ble_eq_true rfl, Nat.le_of_ble_eq_true rfl⟩ rfl rfl hl.1 (Nat.le_of_ble_eq_true rfl) dL_law_449) (fun r_2 f_2 u_2 H locs hp_2 hw => ?_)
  obtain ⟨hi_2, ev_2, kp_2⟩ := hp_2
  have vM_2 : vM f_2 = (S_person (xs (nI (i + 1)).toNatClampNeg) (vM f_1)).2 := congrArg Prod.snd ev_2
  have vC_2 : vC f_2 = vC f_1 := vC_KQ kp_2
  refine topc (y := (S_person (xs (nI (i + 1)).toNatClampNeg) (vC f)).1) ((congrArg Prod.fst ev_2).trans (by rw [vM_1, show vC f = vM f from hj.2])) ?_
  refine lv_pop hx hb dL_law_452 rfl ?_
  refine lv_goto (tgt := 1115) hx hb dL_law_453 (by decide) ?_
  refine lv_iinc (v := nI (i + 5)) (lv' := [(3, .int (nI (i + 5))), (2, .ref (a 36)), (1, .ref (a 0)), (0, .ref b)]) hx hb dL_law_1115 hl (k := 0) rfl (nI_add i 5) (by decide) rfl (fun ls hl => ?_)
  refine lv_goto (tgt := 18) hx hb dL_law_1118 (by decide) ?_
  have cp : vC f_2 = vM f_2 := by
    rw [vC_2, vC_1, vM_2, vM_1, show vC f = vM f from hj.2]
  exact next f_2 u_2 _ _ _ ⟨hi_2, cp⟩ hw hl

set_option maxHeartbeats 4000000 in
set_option maxRecDepth 100000 in
theorem law_8 {p : Program} {l : Launch} {e : Env} {s : State} {m : MethodId} {below : List Frame} {meth : Method} {c : Code} {b L : Nat} {xs : Nat → Int32} {D : va_G} {a : Nat → Nat} {cI cZ : ClassId} (C0 : lw_At p s m meth c b L xs) (hge : ∀ k, k < 61 → s.heap.size ≤ a k) (cx : Cx p s m #[Value.ref b] c cL_law RL 4 D cI cZ) (hL : L ≤ 2560) (i : Nat) (h5 : i + 5 ≤ L) (next : ∀ (f : FF) (u : UU) (H : Heap) (locs : List Loc) (ls : Array Slot), JJ f → Wd D a cI cZ s f u H locs → lv_has ls 4 [(3, .int (nI (i + 5))), (2, .ref (a 36)), (1, .ref (a 0)), (0, .ref b)] → W p l e room_1 s m #[Value.ref b] below meth c H locs 61 1071 (lw_Z below #[Value.ref b] s) (F0 m 18 ls [])) {f : FF} {u : UU} {H : Heap} {locs : List Loc} {ls : Array Slot} (hj : JJ f) (hw : Wd D a cI cZ s f u H locs) (hl : lv_has ls 4 [(3, .int (nI i)), (2, .ref (a 36)), (1, .ref (a 0)), (0, .ref b)]) : W p l e room_1 s m #[Value.ref b] below meth c H locs 61 1071 (lw_Z below #[Value.ref b] s) (F0 m 456 ls []) := by
  obtain ⟨hx, hb, hr, hml, hown, hts, hX, hbl, hlocks, hgv⟩ := id C0
  have hbA : ¬ AA a b := fun ⟨k, hk, q⟩ => by have := hge k hk; omega
  refine lv_aload_n hx hb dL_law_456 rfl (lv_at hl 2 rfl) ?_
  refine lv_aload_n hx hb dL_law_457 rfl (lv_at hl 3 rfl) ?_
  refine lv_iload_n hx hb dL_law_458 rfl (lv_at hl 0 rfl) ?_
  refine lv_iconst (v := 1) hx hb dL_law_459 (by decide) ?_
  refine lv_iadd hx hb dL_law_460 ?_
  refine topc (y := (nI (i + 1))) (nI_add i 1) ?_
  refine va_sld hx hb hX hbl hbA hw.2.2 (vp_in_nI (by omega) (by omega)) dL_law_461 ?_
  refine lv_aload_n hx hb dL_law_462 rfl (lv_at hl 3 rfl) ?_
  refine lv_iload_n hx hb dL_law_463 rfl (lv_at hl 0 rfl) ?_
  refine lv_iconst (v := 2) hx hb dL_law_464 (by decide) ?_
  refine lv_iadd hx hb dL_law_465 ?_
  refine topc (y := (nI (i + 2))) (nI_add i 2) ?_
  refine va_sld hx hb hX hbl hbA hw.2.2 (vp_in_nI (by omega) (by omega)) dL_law_466 ?_
  refine goI hw (runVW (k := 0) (As := [.int (xs (nI (i + 1)).toNatClampNeg), .int (xs (nI (i + 2)).toNatClampNeg)]) (rest := []) cx hw (k_X7_seat l D a cI cZ f u (xs (nI (i + 1)).toNatClampNeg) (xs (nI (i + 2)).toNatClampNeg) hj.1) lk_L_48 rfl rfl ⟨Nat.le_of_ble_eq_true rfl, Nat.le_of_ble_eq_true rfl⟩ ⟨rfl, rfl⟩ ⟨Nat.le_of_ble_eq_true rfl, Nat.le_of_ble_eq_true rfl⟩ rfl rfl hl.1 (Nat.le_of_ble_eq_true rfl) dL_law_467) (fun r_1 f_1 u_1 H locs hp_1 hw => ?_)
  obtain ⟨hi_1, kk_1⟩ := hp_1
  have vC_1 : vC f_1 = vC f := vC_KK kk_1 (by decide)
  have vM_1 : vM f_1 = vM f := vM_KP (KP_KK kk_1 (by decide))
  refine lv_pop hx hb dL_law_470 rfl ?_
  refine lv_aload_n hx hb dL_law_471 rfl (lv_at hl 1 rfl) ?_
  refine lv_aload_n hx hb dL_law_472 rfl (lv_at hl 3 rfl) ?_
  refine lv_iload_n hx hb dL_law_473 rfl (lv_at hl 0 rfl) ?_
  refine lv_iconst (v := 1) hx hb dL_law_474 (by decide) ?_
  refine lv_iadd hx hb dL_law_475 ?_
  refine topc (y := (nI (i + 1))) (nI_add i 1) ?_
  refine va_sld hx hb hX hbl hbA hw.2.2 (vp_in_nI (by omega) (by omega)) dL_law_476 ?_
  refine lv_aload_n hx hb dL_law_477 rfl (lv_at hl 3 rfl) ?_
  refine lv_iload_n hx hb dL_law_478 rfl (lv_at hl 0 rfl) ?_
  refine lv_iconst (v := 2) hx hb dL_law_479 (by decide) ?_
  refine lv_iadd hx hb dL_law_480 ?_
  refine topc (y := (nI (i + 2))) (nI_add i 2) ?_
  refine va_sld hx hb hX hbl hbA hw.2.2 (vp_in_nI (by omega) (by omega)) dL_law_481 ?_
  refine goI hw (runVW (k := 36) (As := [.int (xs (nI (i + 1)).toNatClampNeg), .int (xs (nI (i + 2)).toNatClampNeg)]) (rest := []) cx hw (k_X8_seat l D a cI cZ f_1 u_1 (xs (nI (i + 1)).toNatClampNeg) (xs (nI (i + 2)).toNatClampNeg) hi_1) lk_L_51 rfl rfl ⟨Nat.le_of_ble_eq_true rfl, Nat.le_of_ble_eq_true rfl⟩ ⟨rfl, rfl⟩ ⟨Nat.le_of_ble_eq_true rfl, Nat.le_of_ble_eq_true rfl⟩ rfl rfl hl.1 (Nat.le_of_ble_eq_true rfl) dL_law_482) (fun r_2 f_2 u_2 H locs hp_2 hw => ?_)
  obtain ⟨hi_2, kk_2⟩ := hp_2
  have vM_2 : vM f_2 = vM f_1 := vM_KK kk_2 (by decide)
  have vC_2 : vC f_2 = vC f_1 := vC_KQ (KQ_KK kk_2 (by decide))
  refine lv_pop hx hb dL_law_485 rfl ?_
  refine lv_goto (tgt := 1115) hx hb dL_law_486 (by decide) ?_
  refine lv_iinc (v := nI (i + 5)) (lv' := [(3, .int (nI (i + 5))), (2, .ref (a 36)), (1, .ref (a 0)), (0, .ref b)]) hx hb dL_law_1115 hl (k := 0) rfl (nI_add i 5) (by decide) rfl (fun ls hl => ?_)
  refine lv_goto (tgt := 18) hx hb dL_law_1118 (by decide) ?_
  have cp : vC f_2 = vM f_2 := by
    rw [vC_2, vC_1, vM_2, vM_1]
    exact hj.2
  exact next f_2 u_2 _ _ _ ⟨hi_2, cp⟩ hw hl

set_option maxHeartbeats 4000000 in
set_option maxRecDepth 100000 in
theorem law_9 {p : Program} {l : Launch} {e : Env} {s : State} {m : MethodId} {below : List Frame} {meth : Method} {c : Code} {b L : Nat} {xs : Nat → Int32} {D : va_G} {a : Nat → Nat} {cI cZ : ClassId} (C0 : lw_At p s m meth c b L xs) (hge : ∀ k, k < 61 → s.heap.size ≤ a k) (cx : Cx p s m #[Value.ref b] c cL_law RL 4 D cI cZ) (hL : L ≤ 2560) (i : Nat) (h5 : i + 5 ≤ L) (next : ∀ (f : FF) (u : UU) (H : Heap) (locs : List Loc) (ls : Array Slot), JJ f → Wd D a cI cZ s f u H locs → lv_has ls 4 [(3, .int (nI (i + 5))), (2, .ref (a 36)), (1, .ref (a 0)), (0, .ref b)] → W p l e room_1 s m #[Value.ref b] below meth c H locs 61 1071 (lw_Z below #[Value.ref b] s) (F0 m 18 ls [])) {f : FF} {u : UU} {H : Heap} {locs : List Loc} {ls : Array Slot} (hj : JJ f) (hw : Wd D a cI cZ s f u H locs) (hl : lv_has ls 4 [(3, .int (nI i)), (2, .ref (a 36)), (1, .ref (a 0)), (0, .ref b)]) : W p l e room_1 s m #[Value.ref b] below meth c H locs 61 1071 (lw_Z below #[Value.ref b] s) (F0 m 489 ls []) := by
  obtain ⟨hx, hb, hr, hml, hown, hts, hX, hbl, hlocks, hgv⟩ := id C0
  have hbA : ¬ AA a b := fun ⟨k, hk, q⟩ => by have := hge k hk; omega
  refine lv_aload_n hx hb dL_law_489 rfl (lv_at hl 2 rfl) ?_
  refine lv_aload_n hx hb dL_law_490 rfl (lv_at hl 3 rfl) ?_
  refine lv_iload_n hx hb dL_law_491 rfl (lv_at hl 0 rfl) ?_
  refine lv_iconst (v := 1) hx hb dL_law_492 (by decide) ?_
  refine lv_iadd hx hb dL_law_493 ?_
  refine topc (y := (nI (i + 1))) (nI_add i 1) ?_
  refine va_sld hx hb hX hbl hbA hw.2.2 (vp_in_nI (by omega) (by omega)) dL_law_494 ?_
  refine lv_aload_n hx hb dL_law_495 rfl (lv_at hl 3 rfl) ?_
  refine lv_iload_n hx hb dL_law_496 rfl (lv_at hl 0 rfl) ?_
  refine lv_iconst (v := 2) hx hb dL_law_497 (by decide) ?_
  refine lv_iadd hx hb dL_law_498 ?_
  refine topc (y := (nI (i + 2))) (nI_add i 2) ?_
  refine va_sld hx hb hX hbl hbA hw.2.2 (vp_in_nI (by omega) (by omega)) dL_law_499 ?_
  refine goI hw (runVW (k := 0) (As := [.int (xs (nI (i + 1)).toNatClampNeg), .int (xs (nI (i + 2)).toNatClampNeg)]) (rest := []) cx hw (k_X7_fuel l D a cI cZ f u (xs (nI (i + 1)).toNatClampNeg) (xs (nI (i + 2)).toNatClampNeg) hj.1) lk_L_52 rfl rfl ⟨Nat.le_of_ble_eq_true rfl, Nat.le_of_ble_eq_true rfl⟩ ⟨rfl, rfl⟩ ⟨Nat.le_of_ble_eq_true rfl, Nat.le_of_ble_eq_true rfl⟩ rfl rfl hl.1 (Nat.le_of_ble_eq_true rfl) dL_law_500) (fun r_1 f_1 u_1 H locs hp_1 hw => ?_)
  obtain ⟨hi_1, ev_1, kp_1⟩ := hp_1
  have vC_1 : vC f_1 = (S_fuel (xs (nI (i + 1)).toNatClampNeg) (xs (nI (i + 2)).toNatClampNeg) (vC f)).2 := congrArg Prod.snd ev_1
  have vM_1 : vM f_1 = vM f := vM_KP kp_1
  refine topc (y := (S_fuel (xs (nI (i + 1)).toNatClampNeg) (xs (nI (i + 2)).toNatClampNeg) (vC f)).1) (congrArg Prod.fst ev_1) ?_
  refine lv_pop hx hb dL_law_503 rfl ?_
  refine lv_aload_n hx hb dL_law_504 rfl (lv_at hl 1 rfl) ?_
  refine lv_aload_n hx hb dL_law_505 rfl (lv_at hl 3 rfl) ?_
  refine lv_iload_n hx hb dL_law_506 rfl (lv_at hl 0 rfl) ?_
  refine lv_iconst (v := 1) hx hb dL_law_507 (by decide) ?_
  refine lv_iadd hx hb dL_law_508 ?_
  refine topc (y := (nI (i + 1))) (nI_add i 1) ?_
  refine va_sld hx hb hX hbl hbA hw.2.2 (vp_in_nI (by omega) (by omega)) dL_law_509 ?_
  refine lv_aload_n hx hb dL_law_510 rfl (lv_at hl 3 rfl) ?_
  refine lv_iload_n hx hb dL_law_511 rfl (lv_at hl 0 rfl) ?_
  refine lv_iconst (v := 2) hx hb dL_law_512 (by decide) ?_
  refine lv_iadd hx hb dL_law_513 ?_
  refine topc (y := (nI (i + 2))) (nI_add i 2) ?_
  refine va_sld hx hb hX hbl hbA hw.2.2 (vp_in_nI (by omega) (by omega)) dL_law_514 ?_
  refine goI hw (runVW (k := 36) (As := [.int (xs (nI (i + 1)).toNatClampNeg), .int (xs (nI (i + 2)).toNatClampNeg)]) (rest := []) cx hw (k_X8_fuel l D a cI cZ f_1 u_1 (xs (nI (i + 1)).toNatClampNeg) (xs (nI (i + 2)).toNatClampNeg) hi_1) lk_L_55 rfl rfl ⟨Nat.le_of_ble_eq_true rfl, Nat.le_of_ble_eq_true rfl⟩ ⟨rfl, rfl⟩ ⟨Nat.le_of_ble_eq_true rfl, Nat.le_of_ble_eq_true rfl⟩ rfl rfl hl.1 (Nat.le_of_ble_eq_true rfl) dL_law_515) (fun r_2 f_2 u_2 H locs hp_2 hw => ?_)
  obtain ⟨hi_2, ev_2, kp_2⟩ := hp_2
  have vM_2 : vM f_2 = (S_fuel (xs (nI (i + 1)).toNatClampNeg) (xs (nI (i + 2)).toNatClampNeg) (vM f_1)).2 := congrArg Prod.snd ev_2
  have vC_2 : vC f_2 = vC f_1 := vC_KQ kp_2
  refine topc (y := (S_fuel (xs (nI (i + 1)).toNatClampNeg) (xs (nI (i + 2)).toNatClampNeg) (vC f)).1) ((congrArg Prod.fst ev_2).trans (by rw [vM_1, show vC f = vM f from hj.2])) ?_
  refine lv_pop hx hb dL_law_518 rfl ?_
  refine lv_goto (tgt := 1115) hx hb dL_law_519 (by decide) ?_
  refine lv_iinc (v := nI (i + 5)) (lv' := [(3, .int (nI (i + 5))), (2, .ref (a 36)), (1, .ref (a 0)), (0, .ref b)]) hx hb dL_law_1115 hl (k := 0) rfl (nI_add i 5) (by decide) rfl (fun ls hl => ?_)
  refine lv_goto (tgt := 18) hx hb dL_law_1118 (by decide) ?_
  have cp : vC f_2 = vM f_2 := by
    rw [vC_2, vC_1, vM_2, vM_1, show vC f = vM f from hj.2]
  exact next f_2 u_2 _ _ _ ⟨hi_2, cp⟩ hw hl

set_option maxHeartbeats 4000000 in
set_option maxRecDepth 100000 in
theorem law_10 {p : Program} {l : Launch} {e : Env} {s : State} {m : MethodId} {below : List Frame} {meth : Method} {c : Code} {b L : Nat} {xs : Nat → Int32} {D : va_G} {a : Nat → Nat} {cI cZ : ClassId} (C0 : lw_At p s m meth c b L xs) (hge : ∀ k, k < 61 → s.heap.size ≤ a k) (cx : Cx p s m #[Value.ref b] c cL_law RL 4 D cI cZ) (hL : L ≤ 2560) (i : Nat) (h5 : i + 5 ≤ L) (next : ∀ (f : FF) (u : UU) (H : Heap) (locs : List Loc) (ls : Array Slot), JJ f → Wd D a cI cZ s f u H locs → lv_has ls 4 [(3, .int (nI (i + 5))), (2, .ref (a 36)), (1, .ref (a 0)), (0, .ref b)] → W p l e room_1 s m #[Value.ref b] below meth c H locs 61 1071 (lw_Z below #[Value.ref b] s) (F0 m 18 ls [])) {f : FF} {u : UU} {H : Heap} {locs : List Loc} {ls : Array Slot} (hj : JJ f) (hw : Wd D a cI cZ s f u H locs) (hl : lv_has ls 4 [(3, .int (nI i)), (2, .ref (a 36)), (1, .ref (a 0)), (0, .ref b)]) : W p l e room_1 s m #[Value.ref b] below meth c H locs 61 1071 (lw_Z below #[Value.ref b] s) (F0 m 522 ls []) := by
  obtain ⟨hx, hb, hr, hml, hown, hts, hX, hbl, hlocks, hgv⟩ := id C0
  have hbA : ¬ AA a b := fun ⟨k, hk, q⟩ => by have := hge k hk; omega
  refine lv_aload_n hx hb dL_law_522 rfl (lv_at hl 2 rfl) ?_
  refine lv_aload_n hx hb dL_law_523 rfl (lv_at hl 3 rfl) ?_
  refine lv_iload_n hx hb dL_law_524 rfl (lv_at hl 0 rfl) ?_
  refine lv_iconst (v := 1) hx hb dL_law_525 (by decide) ?_
  refine lv_iadd hx hb dL_law_526 ?_
  refine topc (y := (nI (i + 1))) (nI_add i 1) ?_
  refine va_sld hx hb hX hbl hbA hw.2.2 (vp_in_nI (by omega) (by omega)) dL_law_527 ?_
  refine lv_aload_n hx hb dL_law_528 rfl (lv_at hl 3 rfl) ?_
  refine lv_iload_n hx hb dL_law_529 rfl (lv_at hl 0 rfl) ?_
  refine lv_iconst (v := 2) hx hb dL_law_530 (by decide) ?_
  refine lv_iadd hx hb dL_law_531 ?_
  refine topc (y := (nI (i + 2))) (nI_add i 2) ?_
  refine va_sld hx hb hX hbl hbA hw.2.2 (vp_in_nI (by omega) (by omega)) dL_law_532 ?_
  refine lv_aload_n hx hb dL_law_533 rfl (lv_at hl 3 rfl) ?_
  refine lv_iload_n hx hb dL_law_534 rfl (lv_at hl 0 rfl) ?_
  refine lv_iconst (v := 3) hx hb dL_law_535 (by decide) ?_
  refine lv_iadd hx hb dL_law_536 ?_
  refine topc (y := (nI (i + 3))) (nI_add i 3) ?_
  refine va_sld hx hb hX hbl hbA hw.2.2 (vp_in_nI (by omega) (by omega)) dL_law_537 ?_
  refine lv_aload_n hx hb dL_law_538 rfl (lv_at hl 3 rfl) ?_
  refine lv_iload_n hx hb dL_law_539 rfl (lv_at hl 0 rfl) ?_
  refine lv_iconst (v := 4) hx hb dL_law_540 (by decide) ?_
  refine lv_iadd hx hb dL_law_541 ?_
  refine topc (y := (nI (i + 4))) (nI_add i 4) ?_
  refine va_sld hx hb hX hbl hbA hw.2.2 (vp_in_nI (by omega) (by omega)) dL_law_542 ?_
  refine goI hw (runVW (k := 0) (As := [.int (xs (nI (i + 1)).toNatClampNeg), .int (xs (nI (i + 2)).toNatClampNeg), .int (xs (nI (i + 3)).toNatClampNeg), .int (xs (nI (i + 4)).toNatClampNeg)]) (rest := []) cx hw (k_X7_point l D a cI cZ f u (xs (nI (i + 1)).toNatClampNeg) (xs (nI (i + 2)).toNatClampNeg) (xs (nI (i + 3)).toNatClampNeg) (xs (nI (i + 4)).toNatClampNeg) hj.1) lk_L_56 rfl rfl ⟨Nat.le_of_ble_eq_true rfl, Nat.le_of_ble_eq_true rfl⟩ ⟨rfl, rfl⟩ ⟨Nat.le_of_ble_eq_true rfl, Nat.le_of_ble_eq_true rfl⟩ rfl rfl hl.1 (Nat.le_of_ble_eq_true rfl) dL_law_543) (fun r_1 f_1 u_1 H locs hp_1 hw => ?_)
  obtain ⟨hi_1, ev_1, kp_1⟩ := hp_1
  have vC_1 : vC f_1 = (S_point (xs (nI (i + 1)).toNatClampNeg) (xs (nI (i + 2)).toNatClampNeg) (xs (nI (i + 3)).toNatClampNeg) (xs (nI (i + 4)).toNatClampNeg) (vC f)).2 := congrArg Prod.snd ev_1
  have vM_1 : vM f_1 = vM f := vM_KP kp_1
  refine topc (y := (S_point (xs (nI (i + 1)).toNatClampNeg) (xs (nI (i + 2)).toNatClampNeg) (xs (nI (i + 3)).toNatClampNeg) (xs (nI (i + 4)).toNatClampNeg) (vC f)).1) (congrArg Prod.fst ev_1) ?_
  refine lv_pop hx hb dL_law_546 rfl ?_
  refine lv_aload_n hx hb dL_law_547 rfl (lv_at hl 1 rfl) ?_
  refine lv_aload_n hx hb dL_law_548 rfl (lv_at hl 3 rfl) ?_
  refine lv_iload_n hx hb dL_law_549 rfl (lv_at hl 0 rfl) ?_
  refine lv_iconst (v := 1) hx hb dL_law_550 (by decide) ?_
  refine lv_iadd hx hb dL_law_551 ?_
  refine topc (y := (nI (i + 1))) (nI_add i 1) ?_
  refine va_sld hx hb hX hbl hbA hw.2.2 (vp_in_nI (by omega) (by omega)) dL_law_552 ?_
  refine lv_aload_n hx hb dL_law_553 rfl (lv_at hl 3 rfl) ?_
  refine lv_iload_n hx hb dL_law_554 rfl (lv_at hl 0 rfl) ?_
  refine lv_iconst (v := 2) hx hb dL_law_555 (by decide) ?_
  refine lv_iadd hx hb dL_law_556 ?_
  refine topc (y := (nI (i + 2))) (nI_add i 2) ?_
  refine va_sld hx hb hX hbl hbA hw.2.2 (vp_in_nI (by omega) (by omega)) dL_law_557 ?_
  refine lv_aload_n hx hb dL_law_558 rfl (lv_at hl 3 rfl) ?_
  refine lv_iload_n hx hb dL_law_559 rfl (lv_at hl 0 rfl) ?_
  refine lv_iconst (v := 3) hx hb dL_law_560 (by decide) ?_
  refine lv_iadd hx hb dL_law_561 ?_
  refine topc (y := (nI (i + 3))) (nI_add i 3) ?_
  refine va_sld hx hb hX hbl hbA hw.2.2 (vp_in_nI (by omega) (by omega)) dL_law_562 ?_
  refine lv_aload_n hx hb dL_law_563 rfl (lv_at hl 3 rfl) ?_
  refine lv_iload_n hx hb dL_law_564 rfl (lv_at hl 0 rfl) ?_
  refine lv_iconst (v := 4) hx hb dL_law_565 (by decide) ?_
  refine lv_iadd hx hb dL_law_566 ?_
  refine topc (y := (nI (i + 4))) (nI_add i 4) ?_
  refine va_sld hx hb hX hbl hbA hw.2.2 (vp_in_nI (by omega) (by omega)) dL_law_567 ?_
  refine goI hw (runVW (k := 36) (As := [.int (xs (nI (i + 1)).toNatClampNeg), .int (xs (nI (i + 2)).toNatClampNeg), .int (xs (nI (i + 3)).toNatClampNeg), .int (xs (nI (i + 4)).toNatClampNeg)]) (rest := []) cx hw (k_X8_point l D a cI cZ f_1 u_1 (xs (nI (i + 1)).toNatClampNeg) (xs (nI (i + 2)).toNatClampNeg) (xs (nI (i + 3)).toNatClampNeg) (xs (nI (i + 4)).toNatClampNeg) hi_1) lk_L_60 rfl rfl ⟨Nat.le_of_ble_eq_true rfl, Nat.le_of_ble_eq_true rfl⟩ ⟨rfl, rfl⟩ ⟨Nat.le_of_ble_eq_true rfl, Nat.le_of_ble_eq_true rfl⟩ rfl rfl hl.1 (Nat.le_of_ble_eq_true rfl) dL_law_568) (fun r_2 f_2 u_2 H locs hp_2 hw => ?_)
  obtain ⟨hi_2, ev_2, kp_2⟩ := hp_2
  have vM_2 : vM f_2 = (S_point (xs (nI (i + 1)).toNatClampNeg) (xs (nI (i + 2)).toNatClampNeg) (xs (nI (i + 3)).toNatClampNeg) (xs (nI (i + 4)).toNatClampNeg) (vM f_1)).2 := congrArg Prod.snd ev_2
  have vC_2 : vC f_2 = vC f_1 := vC_KQ kp_2
  refine topc (y := (S_point (xs (nI (i + 1)).toNatClampNeg) (xs (nI (i + 2)).toNatClampNeg) (xs (nI (i + 3)).toNatClampNeg) (xs (nI (i + 4)).toNatClampNeg) (vC f)).1) ((congrArg Prod.fst ev_2).trans (by rw [vM_1, show vC f = vM f from hj.2])) ?_
  refine lv_pop hx hb dL_law_571 rfl ?_
  refine lv_goto (tgt := 1115) hx hb dL_law_572 (by decide) ?_
  refine lv_iinc (v := nI (i + 5)) (lv' := [(3, .int (nI (i + 5))), (2, .ref (a 36)), (1, .ref (a 0)), (0, .ref b)]) hx hb dL_law_1115 hl (k := 0) rfl (nI_add i 5) (by decide) rfl (fun ls hl => ?_)
  refine lv_goto (tgt := 18) hx hb dL_law_1118 (by decide) ?_
  have cp : vC f_2 = vM f_2 := by
    rw [vC_2, vC_1, vM_2, vM_1, show vC f = vM f from hj.2]
  exact next f_2 u_2 _ _ _ ⟨hi_2, cp⟩ hw hl

set_option maxHeartbeats 4000000 in
set_option maxRecDepth 100000 in
theorem law_11 {p : Program} {l : Launch} {e : Env} {s : State} {m : MethodId} {below : List Frame} {meth : Method} {c : Code} {b L : Nat} {xs : Nat → Int32} {D : va_G} {a : Nat → Nat} {cI cZ : ClassId} (C0 : lw_At p s m meth c b L xs) (hge : ∀ k, k < 61 → s.heap.size ≤ a k) (cx : Cx p s m #[Value.ref b] c cL_law RL 4 D cI cZ) (hL : L ≤ 2560) (i : Nat) (h5 : i + 5 ≤ L) (next : ∀ (f : FF) (u : UU) (H : Heap) (locs : List Loc) (ls : Array Slot), JJ f → Wd D a cI cZ s f u H locs → lv_has ls 4 [(3, .int (nI (i + 5))), (2, .ref (a 36)), (1, .ref (a 0)), (0, .ref b)] → W p l e room_1 s m #[Value.ref b] below meth c H locs 61 1071 (lw_Z below #[Value.ref b] s) (F0 m 18 ls [])) {f : FF} {u : UU} {H : Heap} {locs : List Loc} {ls : Array Slot} (hj : JJ f) (hw : Wd D a cI cZ s f u H locs) (hl : lv_has ls 4 [(3, .int (nI i)), (2, .ref (a 36)), (1, .ref (a 0)), (0, .ref b)]) : W p l e room_1 s m #[Value.ref b] below meth c H locs 61 1071 (lw_Z below #[Value.ref b] s) (F0 m 575 ls []) := by
  obtain ⟨hx, hb, hr, hml, hown, hts, hX, hbl, hlocks, hgv⟩ := id C0
  have hbA : ¬ AA a b := fun ⟨k, hk, q⟩ => by have := hge k hk; omega
  refine lv_aload_n hx hb dL_law_575 rfl (lv_at hl 2 rfl) ?_
  refine lv_aload_n hx hb dL_law_576 rfl (lv_at hl 3 rfl) ?_
  refine lv_iload_n hx hb dL_law_577 rfl (lv_at hl 0 rfl) ?_
  refine lv_iconst (v := 1) hx hb dL_law_578 (by decide) ?_
  refine lv_iadd hx hb dL_law_579 ?_
  refine topc (y := (nI (i + 1))) (nI_add i 1) ?_
  refine va_sld hx hb hX hbl hbA hw.2.2 (vp_in_nI (by omega) (by omega)) dL_law_580 ?_
  refine goI hw (runVW (k := 0) (As := [.int (xs (nI (i + 1)).toNatClampNeg)]) (rest := []) cx hw (k_X7_wipe l D a cI cZ f u (xs (nI (i + 1)).toNatClampNeg) hj.1) lk_L_61 rfl rfl ⟨Nat.le_of_ble_eq_true rfl, Nat.le_of_ble_eq_true rfl⟩ ⟨rfl, rfl⟩ ⟨Nat.le_of_ble_eq_true rfl, Nat.le_of_ble_eq_true rfl⟩ rfl rfl hl.1 (Nat.le_of_ble_eq_true rfl) dL_law_581) (fun r_1 f_1 u_1 H locs hp_1 hw => ?_)
  obtain ⟨hi_1, ev_1, kp_1⟩ := hp_1
  have vC_1 : vC f_1 = (S_wipe (xs (nI (i + 1)).toNatClampNeg) (vC f)).2 := congrArg Prod.snd ev_1
  have vM_1 : vM f_1 = vM f := vM_KP kp_1
  refine topc (y := (S_wipe (xs (nI (i + 1)).toNatClampNeg) (vC f)).1) (congrArg Prod.fst ev_1) ?_
  refine lv_aload_n hx hb dL_law_584 rfl (lv_at hl 1 rfl) ?_
  refine lv_aload_n hx hb dL_law_585 rfl (lv_at hl 3 rfl) ?_
  refine lv_iload_n hx hb dL_law_586 rfl (lv_at hl 0 rfl) ?_
  refine lv_iconst (v := 1) hx hb dL_law_587 (by decide) ?_
  refine lv_iadd hx hb dL_law_588 ?_
  refine topc (y := (nI (i + 1))) (nI_add i 1) ?_
  refine va_sld hx hb hX hbl hbA hw.2.2 (vp_in_nI (by omega) (by omega)) dL_law_589 ?_
  refine goI hw (runVW (k := 36) (As := [.int (xs (nI (i + 1)).toNatClampNeg)]) (rest := [.int (S_wipe (xs (nI (i + 1)).toNatClampNeg) (vC f)).1]) cx hw (k_X8_wipe l D a cI cZ f_1 u_1 (xs (nI (i + 1)).toNatClampNeg) hi_1) lk_L_64 rfl rfl ⟨Nat.le_of_ble_eq_true rfl, Nat.le_of_ble_eq_true rfl⟩ ⟨rfl, rfl⟩ ⟨Nat.le_of_ble_eq_true rfl, Nat.le_of_ble_eq_true rfl⟩ rfl rfl hl.1 (Nat.le_of_ble_eq_true rfl) dL_law_590) (fun r_2 f_2 u_2 H locs hp_2 hw => ?_)
  obtain ⟨hi_2, ev_2, kp_2⟩ := hp_2
  have vM_2 : vM f_2 = (S_wipe (xs (nI (i + 1)).toNatClampNeg) (vM f_1)).2 := congrArg Prod.snd ev_2
  have vC_2 : vC f_2 = vC f_1 := vC_KQ kp_2
  refine topc (y := (S_wipe (xs (nI (i + 1)).toNatClampNeg) (vC f)).1) ((congrArg Prod.fst ev_2).trans (by rw [vM_1, show vC f = vM f from hj.2])) ?_
  refine lv_icmp_eq (tgt := 1115) hx hb dL_law_593 (by decide) (fun _ => ?_) (fun q => absurd rfl q)
  refine lv_iinc (v := nI (i + 5)) (lv' := [(3, .int (nI (i + 5))), (2, .ref (a 36)), (1, .ref (a 0)), (0, .ref b)]) hx hb dL_law_1115 hl (k := 0) rfl (nI_add i 5) (by decide) rfl (fun ls hl => ?_)
  refine lv_goto (tgt := 18) hx hb dL_law_1118 (by decide) ?_
  have cp : vC f_2 = vM f_2 := by
    rw [vC_2, vC_1, vM_2, vM_1, show vC f = vM f from hj.2]
  exact next f_2 u_2 _ _ _ ⟨hi_2, cp⟩ hw hl

set_option maxHeartbeats 4000000 in
set_option maxRecDepth 100000 in
theorem law_12 {p : Program} {l : Launch} {e : Env} {s : State} {m : MethodId} {below : List Frame} {meth : Method} {c : Code} {b L : Nat} {xs : Nat → Int32} {D : va_G} {a : Nat → Nat} {cI cZ : ClassId} (C0 : lw_At p s m meth c b L xs) (hge : ∀ k, k < 61 → s.heap.size ≤ a k) (cx : Cx p s m #[Value.ref b] c cL_law RL 4 D cI cZ) (hL : L ≤ 2560) (i : Nat) (h5 : i + 5 ≤ L) (next : ∀ (f : FF) (u : UU) (H : Heap) (locs : List Loc) (ls : Array Slot), JJ f → Wd D a cI cZ s f u H locs → lv_has ls 4 [(3, .int (nI (i + 5))), (2, .ref (a 36)), (1, .ref (a 0)), (0, .ref b)] → W p l e room_1 s m #[Value.ref b] below meth c H locs 61 1071 (lw_Z below #[Value.ref b] s) (F0 m 18 ls [])) {f : FF} {u : UU} {H : Heap} {locs : List Loc} {ls : Array Slot} (hj : JJ f) (hw : Wd D a cI cZ s f u H locs) (hl : lv_has ls 4 [(3, .int (nI i)), (2, .ref (a 36)), (1, .ref (a 0)), (0, .ref b)]) : W p l e room_1 s m #[Value.ref b] below meth c H locs 61 1071 (lw_Z below #[Value.ref b] s) (F0 m 598 ls []) := by
  obtain ⟨hx, hb, hr, hml, hown, hts, hX, hbl, hlocks, hgv⟩ := id C0
  have hbA : ¬ AA a b := fun ⟨k, hk, q⟩ => by have := hge k hk; omega
  refine lv_aload_n hx hb dL_law_598 rfl (lv_at hl 2 rfl) ?_
  refine lv_aload_n hx hb dL_law_599 rfl (lv_at hl 3 rfl) ?_
  refine lv_iload_n hx hb dL_law_600 rfl (lv_at hl 0 rfl) ?_
  refine lv_iconst (v := 1) hx hb dL_law_601 (by decide) ?_
  refine lv_iadd hx hb dL_law_602 ?_
  refine topc (y := (nI (i + 1))) (nI_add i 1) ?_
  refine va_sld hx hb hX hbl hbA hw.2.2 (vp_in_nI (by omega) (by omega)) dL_law_603 ?_
  refine lv_aload_n hx hb dL_law_604 rfl (lv_at hl 3 rfl) ?_
  refine lv_iload_n hx hb dL_law_605 rfl (lv_at hl 0 rfl) ?_
  refine lv_iconst (v := 2) hx hb dL_law_606 (by decide) ?_
  refine lv_iadd hx hb dL_law_607 ?_
  refine topc (y := (nI (i + 2))) (nI_add i 2) ?_
  refine va_sld hx hb hX hbl hbA hw.2.2 (vp_in_nI (by omega) (by omega)) dL_law_608 ?_
  refine lv_aload_n hx hb dL_law_609 rfl (lv_at hl 3 rfl) ?_
  refine lv_iload_n hx hb dL_law_610 rfl (lv_at hl 0 rfl) ?_
  refine lv_iconst (v := 3) hx hb dL_law_611 (by decide) ?_
  refine lv_iadd hx hb dL_law_612 ?_
  refine topc (y := (nI (i + 3))) (nI_add i 3) ?_
  refine va_sld hx hb hX hbl hbA hw.2.2 (vp_in_nI (by omega) (by omega)) dL_law_613 ?_
  refine goI hw (runVW (k := 0) (As := [.int (xs (nI (i + 1)).toNatClampNeg), .int (xs (nI (i + 2)).toNatClampNeg), .int (xs (nI (i + 3)).toNatClampNeg)]) (rest := []) cx hw (k_X7_fits l D a cI cZ f u (xs (nI (i + 1)).toNatClampNeg) (xs (nI (i + 2)).toNatClampNeg) (xs (nI (i + 3)).toNatClampNeg) hj.1) lk_L_65 rfl rfl ⟨Nat.le_of_ble_eq_true rfl, Nat.le_of_ble_eq_true rfl⟩ ⟨rfl, rfl⟩ ⟨Nat.le_of_ble_eq_true rfl, Nat.le_of_ble_eq_true rfl⟩ rfl rfl hl.1 (Nat.le_of_ble_eq_true rfl) dL_law_614) (fun r_1 f_1 u_1 H locs hp_1 hw => ?_)
  obtain ⟨rfl, rfl, _⟩ := hp_1
  refine lv_pop hx hb dL_law_617 rfl ?_
  refine lv_aload_n hx hb dL_law_618 rfl (lv_at hl 1 rfl) ?_
  refine lv_aload_n hx hb dL_law_619 rfl (lv_at hl 3 rfl) ?_
  refine lv_iload_n hx hb dL_law_620 rfl (lv_at hl 0 rfl) ?_
  refine lv_iconst (v := 1) hx hb dL_law_621 (by decide) ?_
  refine lv_iadd hx hb dL_law_622 ?_
  refine topc (y := (nI (i + 1))) (nI_add i 1) ?_
  refine va_sld hx hb hX hbl hbA hw.2.2 (vp_in_nI (by omega) (by omega)) dL_law_623 ?_
  refine lv_aload_n hx hb dL_law_624 rfl (lv_at hl 3 rfl) ?_
  refine lv_iload_n hx hb dL_law_625 rfl (lv_at hl 0 rfl) ?_
  refine lv_iconst (v := 2) hx hb dL_law_626 (by decide) ?_
  refine lv_iadd hx hb dL_law_627 ?_
  refine topc (y := (nI (i + 2))) (nI_add i 2) ?_
  refine va_sld hx hb hX hbl hbA hw.2.2 (vp_in_nI (by omega) (by omega)) dL_law_628 ?_
  refine lv_aload_n hx hb dL_law_629 rfl (lv_at hl 3 rfl) ?_
  refine lv_iload_n hx hb dL_law_630 rfl (lv_at hl 0 rfl) ?_
  refine lv_iconst (v := 3) hx hb dL_law_631 (by decide) ?_
  refine lv_iadd hx hb dL_law_632 ?_
  refine topc (y := (nI (i + 3))) (nI_add i 3) ?_
  refine va_sld hx hb hX hbl hbA hw.2.2 (vp_in_nI (by omega) (by omega)) dL_law_633 ?_
  refine goI hw (runVW (k := 36) (As := [.int (xs (nI (i + 1)).toNatClampNeg), .int (xs (nI (i + 2)).toNatClampNeg), .int (xs (nI (i + 3)).toNatClampNeg)]) (rest := []) cx hw (k_X8_fits l D a cI cZ f u (xs (nI (i + 1)).toNatClampNeg) (xs (nI (i + 2)).toNatClampNeg) (xs (nI (i + 3)).toNatClampNeg) hj.1) lk_L_68 rfl rfl ⟨Nat.le_of_ble_eq_true rfl, Nat.le_of_ble_eq_true rfl⟩ ⟨rfl, rfl⟩ ⟨Nat.le_of_ble_eq_true rfl, Nat.le_of_ble_eq_true rfl⟩ rfl rfl hl.1 (Nat.le_of_ble_eq_true rfl) dL_law_634) (fun r_2 f_2 u_2 H locs hp_2 hw => ?_)
  obtain ⟨rfl, rfl, _⟩ := hp_2
  refine lv_pop hx hb dL_law_637 rfl ?_
  refine lv_goto (tgt := 1115) hx hb dL_law_638 (by decide) ?_
  refine lv_iinc (v := nI (i + 5)) (lv' := [(3, .int (nI (i + 5))), (2, .ref (a 36)), (1, .ref (a 0)), (0, .ref b)]) hx hb dL_law_1115 hl (k := 0) rfl (nI_add i 5) (by decide) rfl (fun ls hl => ?_)
  refine lv_goto (tgt := 18) hx hb dL_law_1118 (by decide) ?_
  exact next f u _ _ _ hj hw hl

set_option maxHeartbeats 4000000 in
set_option maxRecDepth 100000 in
theorem law_13 {p : Program} {l : Launch} {e : Env} {s : State} {m : MethodId} {below : List Frame} {meth : Method} {c : Code} {b L : Nat} {xs : Nat → Int32} {D : va_G} {a : Nat → Nat} {cI cZ : ClassId} (C0 : lw_At p s m meth c b L xs) (hge : ∀ k, k < 61 → s.heap.size ≤ a k) (cx : Cx p s m #[Value.ref b] c cL_law RL 4 D cI cZ) (hL : L ≤ 2560) (i : Nat) (h5 : i + 5 ≤ L) (next : ∀ (f : FF) (u : UU) (H : Heap) (locs : List Loc) (ls : Array Slot), JJ f → Wd D a cI cZ s f u H locs → lv_has ls 4 [(3, .int (nI (i + 5))), (2, .ref (a 36)), (1, .ref (a 0)), (0, .ref b)] → W p l e room_1 s m #[Value.ref b] below meth c H locs 61 1071 (lw_Z below #[Value.ref b] s) (F0 m 18 ls [])) {f : FF} {u : UU} {H : Heap} {locs : List Loc} {ls : Array Slot} (hj : JJ f) (hw : Wd D a cI cZ s f u H locs) (hl : lv_has ls 4 [(3, .int (nI i)), (2, .ref (a 36)), (1, .ref (a 0)), (0, .ref b)]) : W p l e room_1 s m #[Value.ref b] below meth c H locs 61 1071 (lw_Z below #[Value.ref b] s) (F0 m 641 ls []) := by
  obtain ⟨hx, hb, hr, hml, hown, hts, hX, hbl, hlocks, hgv⟩ := id C0
  have hbA : ¬ AA a b := fun ⟨k, hk, q⟩ => by have := hge k hk; omega
  refine lv_aload_n hx hb dL_law_641 rfl (lv_at hl 2 rfl) ?_
  refine lv_aload_n hx hb dL_law_642 rfl (lv_at hl 3 rfl) ?_
  refine lv_iload_n hx hb dL_law_643 rfl (lv_at hl 0 rfl) ?_
  refine lv_iconst (v := 1) hx hb dL_law_644 (by decide) ?_
  refine lv_iadd hx hb dL_law_645 ?_
  refine topc (y := (nI (i + 1))) (nI_add i 1) ?_
  refine va_sld hx hb hX hbl hbA hw.2.2 (vp_in_nI (by omega) (by omega)) dL_law_646 ?_
  refine lv_aload_n hx hb dL_law_647 rfl (lv_at hl 3 rfl) ?_
  refine lv_iload_n hx hb dL_law_648 rfl (lv_at hl 0 rfl) ?_
  refine lv_iconst (v := 2) hx hb dL_law_649 (by decide) ?_
  refine lv_iadd hx hb dL_law_650 ?_
  refine topc (y := (nI (i + 2))) (nI_add i 2) ?_
  refine va_sld hx hb hX hbl hbA hw.2.2 (vp_in_nI (by omega) (by omega)) dL_law_651 ?_
  refine lv_aload_n hx hb dL_law_652 rfl (lv_at hl 3 rfl) ?_
  refine lv_iload_n hx hb dL_law_653 rfl (lv_at hl 0 rfl) ?_
  refine lv_iconst (v := 3) hx hb dL_law_654 (by decide) ?_
  refine lv_iadd hx hb dL_law_655 ?_
  refine topc (y := (nI (i + 3))) (nI_add i 3) ?_
  refine va_sld hx hb hX hbl hbA hw.2.2 (vp_in_nI (by omega) (by omega)) dL_law_656 ?_
  refine goI hw (runVW (k := 0) (As := [.int (xs (nI (i + 1)).toNatClampNeg), .int (xs (nI (i + 2)).toNatClampNeg), .int (xs (nI (i + 3)).toNatClampNeg)]) (rest := []) cx hw (k_X7_load l D a cI cZ f u (xs (nI (i + 1)).toNatClampNeg) (xs (nI (i + 2)).toNatClampNeg) (xs (nI (i + 3)).toNatClampNeg) hj.1) lk_L_69 rfl rfl ⟨Nat.le_of_ble_eq_true rfl, Nat.le_of_ble_eq_true rfl⟩ ⟨rfl, rfl⟩ ⟨Nat.le_of_ble_eq_true rfl, Nat.le_of_ble_eq_true rfl⟩ rfl rfl hl.1 (Nat.le_of_ble_eq_true rfl) dL_law_657) (fun r_1 f_1 u_1 H locs hp_1 hw => ?_)
  obtain ⟨hi_1, kk_1⟩ := hp_1
  have vC_1 : vC f_1 = vC f := vC_KK kk_1 (by decide)
  have vM_1 : vM f_1 = vM f := vM_KP (KP_KK kk_1 (by decide))
  refine lv_pop hx hb dL_law_660 rfl ?_
  refine lv_aload_n hx hb dL_law_661 rfl (lv_at hl 1 rfl) ?_
  refine lv_aload_n hx hb dL_law_662 rfl (lv_at hl 3 rfl) ?_
  refine lv_iload_n hx hb dL_law_663 rfl (lv_at hl 0 rfl) ?_
  refine lv_iconst (v := 1) hx hb dL_law_664 (by decide) ?_
  refine lv_iadd hx hb dL_law_665 ?_
  refine topc (y := (nI (i + 1))) (nI_add i 1) ?_
  refine va_sld hx hb hX hbl hbA hw.2.2 (vp_in_nI (by omega) (by omega)) dL_law_666 ?_
  refine lv_aload_n hx hb dL_law_667 rfl (lv_at hl 3 rfl) ?_
  refine lv_iload_n hx hb dL_law_668 rfl (lv_at hl 0 rfl) ?_
  refine lv_iconst (v := 2) hx hb dL_law_669 (by decide) ?_
  refine lv_iadd hx hb dL_law_670 ?_
  refine topc (y := (nI (i + 2))) (nI_add i 2) ?_
  refine va_sld hx hb hX hbl hbA hw.2.2 (vp_in_nI (by omega) (by omega)) dL_law_671 ?_
  refine lv_aload_n hx hb dL_law_672 rfl (lv_at hl 3 rfl) ?_
  refine lv_iload_n hx hb dL_law_673 rfl (lv_at hl 0 rfl) ?_
  refine lv_iconst (v := 3) hx hb dL_law_674 (by decide) ?_
  refine lv_iadd hx hb dL_law_675 ?_
  refine topc (y := (nI (i + 3))) (nI_add i 3) ?_
  refine va_sld hx hb hX hbl hbA hw.2.2 (vp_in_nI (by omega) (by omega)) dL_law_676 ?_
  refine goI hw (runVW (k := 36) (As := [.int (xs (nI (i + 1)).toNatClampNeg), .int (xs (nI (i + 2)).toNatClampNeg), .int (xs (nI (i + 3)).toNatClampNeg)]) (rest := []) cx hw (k_X8_load l D a cI cZ f_1 u_1 (xs (nI (i + 1)).toNatClampNeg) (xs (nI (i + 2)).toNatClampNeg) (xs (nI (i + 3)).toNatClampNeg) hi_1) lk_L_72 rfl rfl ⟨Nat.le_of_ble_eq_true rfl, Nat.le_of_ble_eq_true rfl⟩ ⟨rfl, rfl⟩ ⟨Nat.le_of_ble_eq_true rfl, Nat.le_of_ble_eq_true rfl⟩ rfl rfl hl.1 (Nat.le_of_ble_eq_true rfl) dL_law_677) (fun r_2 f_2 u_2 H locs hp_2 hw => ?_)
  obtain ⟨hi_2, kk_2⟩ := hp_2
  have vM_2 : vM f_2 = vM f_1 := vM_KK kk_2 (by decide)
  have vC_2 : vC f_2 = vC f_1 := vC_KQ (KQ_KK kk_2 (by decide))
  refine lv_pop hx hb dL_law_680 rfl ?_
  refine lv_goto (tgt := 1115) hx hb dL_law_681 (by decide) ?_
  refine lv_iinc (v := nI (i + 5)) (lv' := [(3, .int (nI (i + 5))), (2, .ref (a 36)), (1, .ref (a 0)), (0, .ref b)]) hx hb dL_law_1115 hl (k := 0) rfl (nI_add i 5) (by decide) rfl (fun ls hl => ?_)
  refine lv_goto (tgt := 18) hx hb dL_law_1118 (by decide) ?_
  have cp : vC f_2 = vM f_2 := by
    rw [vC_2, vC_1, vM_2, vM_1]
    exact hj.2
  exact next f_2 u_2 _ _ _ ⟨hi_2, cp⟩ hw hl

set_option maxHeartbeats 4000000 in
set_option maxRecDepth 100000 in
theorem law_14 {p : Program} {l : Launch} {e : Env} {s : State} {m : MethodId} {below : List Frame} {meth : Method} {c : Code} {b L : Nat} {xs : Nat → Int32} {D : va_G} {a : Nat → Nat} {cI cZ : ClassId} (C0 : lw_At p s m meth c b L xs) (hge : ∀ k, k < 61 → s.heap.size ≤ a k) (cx : Cx p s m #[Value.ref b] c cL_law RL 4 D cI cZ) (hL : L ≤ 2560) (i : Nat) (h5 : i + 5 ≤ L) (next : ∀ (f : FF) (u : UU) (H : Heap) (locs : List Loc) (ls : Array Slot), JJ f → Wd D a cI cZ s f u H locs → lv_has ls 4 [(3, .int (nI (i + 5))), (2, .ref (a 36)), (1, .ref (a 0)), (0, .ref b)] → W p l e room_1 s m #[Value.ref b] below meth c H locs 61 1071 (lw_Z below #[Value.ref b] s) (F0 m 18 ls [])) {f : FF} {u : UU} {H : Heap} {locs : List Loc} {ls : Array Slot} (hj : JJ f) (hw : Wd D a cI cZ s f u H locs) (hl : lv_has ls 4 [(3, .int (nI i)), (2, .ref (a 36)), (1, .ref (a 0)), (0, .ref b)]) : W p l e room_1 s m #[Value.ref b] below meth c H locs 61 1071 (lw_Z below #[Value.ref b] s) (F0 m 684 ls []) := by
  obtain ⟨hx, hb, hr, hml, hown, hts, hX, hbl, hlocks, hgv⟩ := id C0
  have hbA : ¬ AA a b := fun ⟨k, hk, q⟩ => by have := hge k hk; omega
  refine lv_aload_n hx hb dL_law_684 rfl (lv_at hl 2 rfl) ?_
  refine lv_aload_n hx hb dL_law_685 rfl (lv_at hl 3 rfl) ?_
  refine lv_iload_n hx hb dL_law_686 rfl (lv_at hl 0 rfl) ?_
  refine lv_iconst (v := 1) hx hb dL_law_687 (by decide) ?_
  refine lv_iadd hx hb dL_law_688 ?_
  refine topc (y := (nI (i + 1))) (nI_add i 1) ?_
  refine va_sld hx hb hX hbl hbA hw.2.2 (vp_in_nI (by omega) (by omega)) dL_law_689 ?_
  refine goI hw (runVW (k := 0) (As := [.int (xs (nI (i + 1)).toNatClampNeg)]) (rest := []) cx hw (k_X7_unload l D a cI cZ f u (xs (nI (i + 1)).toNatClampNeg) hj.1) lk_L_73 rfl rfl ⟨Nat.le_of_ble_eq_true rfl, Nat.le_of_ble_eq_true rfl⟩ ⟨rfl, rfl⟩ ⟨Nat.le_of_ble_eq_true rfl, Nat.le_of_ble_eq_true rfl⟩ rfl rfl hl.1 (Nat.le_of_ble_eq_true rfl) dL_law_690) (fun r_1 f_1 u_1 H locs hp_1 hw => ?_)
  obtain ⟨hi_1, kk_1⟩ := hp_1
  have vC_1 : vC f_1 = vC f := vC_KK kk_1 (by decide)
  have vM_1 : vM f_1 = vM f := vM_KP (KP_KK kk_1 (by decide))
  refine lv_pop hx hb dL_law_693 rfl ?_
  refine lv_aload_n hx hb dL_law_694 rfl (lv_at hl 1 rfl) ?_
  refine lv_aload_n hx hb dL_law_695 rfl (lv_at hl 3 rfl) ?_
  refine lv_iload_n hx hb dL_law_696 rfl (lv_at hl 0 rfl) ?_
  refine lv_iconst (v := 1) hx hb dL_law_697 (by decide) ?_
  refine lv_iadd hx hb dL_law_698 ?_
  refine topc (y := (nI (i + 1))) (nI_add i 1) ?_
  refine va_sld hx hb hX hbl hbA hw.2.2 (vp_in_nI (by omega) (by omega)) dL_law_699 ?_
  refine goI hw (runVW (k := 36) (As := [.int (xs (nI (i + 1)).toNatClampNeg)]) (rest := []) cx hw (k_X8_unload l D a cI cZ f_1 u_1 (xs (nI (i + 1)).toNatClampNeg) hi_1) lk_L_76 rfl rfl ⟨Nat.le_of_ble_eq_true rfl, Nat.le_of_ble_eq_true rfl⟩ ⟨rfl, rfl⟩ ⟨Nat.le_of_ble_eq_true rfl, Nat.le_of_ble_eq_true rfl⟩ rfl rfl hl.1 (Nat.le_of_ble_eq_true rfl) dL_law_700) (fun r_2 f_2 u_2 H locs hp_2 hw => ?_)
  obtain ⟨hi_2, kk_2⟩ := hp_2
  have vM_2 : vM f_2 = vM f_1 := vM_KK kk_2 (by decide)
  have vC_2 : vC f_2 = vC f_1 := vC_KQ (KQ_KK kk_2 (by decide))
  refine lv_pop hx hb dL_law_703 rfl ?_
  refine lv_goto (tgt := 1115) hx hb dL_law_704 (by decide) ?_
  refine lv_iinc (v := nI (i + 5)) (lv' := [(3, .int (nI (i + 5))), (2, .ref (a 36)), (1, .ref (a 0)), (0, .ref b)]) hx hb dL_law_1115 hl (k := 0) rfl (nI_add i 5) (by decide) rfl (fun ls hl => ?_)
  refine lv_goto (tgt := 18) hx hb dL_law_1118 (by decide) ?_
  have cp : vC f_2 = vM f_2 := by
    rw [vC_2, vC_1, vM_2, vM_1]
    exact hj.2
  exact next f_2 u_2 _ _ _ ⟨hi_2, cp⟩ hw hl

set_option maxHeartbeats 4000000 in
set_option maxRecDepth 100000 in
theorem law_15 {p : Program} {l : Launch} {e : Env} {s : State} {m : MethodId} {below : List Frame} {meth : Method} {c : Code} {b L : Nat} {xs : Nat → Int32} {D : va_G} {a : Nat → Nat} {cI cZ : ClassId} (C0 : lw_At p s m meth c b L xs) (hge : ∀ k, k < 61 → s.heap.size ≤ a k) (cx : Cx p s m #[Value.ref b] c cL_law RL 4 D cI cZ) (hL : L ≤ 2560) (i : Nat) (h5 : i + 5 ≤ L) (next : ∀ (f : FF) (u : UU) (H : Heap) (locs : List Loc) (ls : Array Slot), JJ f → Wd D a cI cZ s f u H locs → lv_has ls 4 [(3, .int (nI (i + 5))), (2, .ref (a 36)), (1, .ref (a 0)), (0, .ref b)] → W p l e room_1 s m #[Value.ref b] below meth c H locs 61 1071 (lw_Z below #[Value.ref b] s) (F0 m 18 ls [])) {f : FF} {u : UU} {H : Heap} {locs : List Loc} {ls : Array Slot} (hj : JJ f) (hw : Wd D a cI cZ s f u H locs) (hl : lv_has ls 4 [(3, .int (nI i)), (2, .ref (a 36)), (1, .ref (a 0)), (0, .ref b)]) : W p l e room_1 s m #[Value.ref b] below meth c H locs 61 1071 (lw_Z below #[Value.ref b] s) (F0 m 707 ls []) := by
  obtain ⟨hx, hb, hr, hml, hown, hts, hX, hbl, hlocks, hgv⟩ := id C0
  have hbA : ¬ AA a b := fun ⟨k, hk, q⟩ => by have := hge k hk; omega
  refine lv_aload_n hx hb dL_law_707 rfl (lv_at hl 2 rfl) ?_
  refine lv_aload_n hx hb dL_law_708 rfl (lv_at hl 3 rfl) ?_
  refine lv_iload_n hx hb dL_law_709 rfl (lv_at hl 0 rfl) ?_
  refine lv_iconst (v := 1) hx hb dL_law_710 (by decide) ?_
  refine lv_iadd hx hb dL_law_711 ?_
  refine topc (y := (nI (i + 1))) (nI_add i 1) ?_
  refine va_sld hx hb hX hbl hbA hw.2.2 (vp_in_nI (by omega) (by omega)) dL_law_712 ?_
  refine goI hw (runVW (k := 0) (As := [.int (xs (nI (i + 1)).toNatClampNeg)]) (rest := []) cx hw (k_X7_where l D a cI cZ f u (xs (nI (i + 1)).toNatClampNeg) hj.1) lk_L_77 rfl rfl ⟨Nat.le_of_ble_eq_true rfl, Nat.le_of_ble_eq_true rfl⟩ ⟨rfl, rfl⟩ ⟨Nat.le_of_ble_eq_true rfl, Nat.le_of_ble_eq_true rfl⟩ rfl rfl hl.1 (Nat.le_of_ble_eq_true rfl) dL_law_713) (fun r_1 f_1 u_1 H locs hp_1 hw => ?_)
  obtain ⟨rfl, rfl⟩ := hp_1
  refine lv_pop hx hb dL_law_716 rfl ?_
  refine lv_aload_n hx hb dL_law_717 rfl (lv_at hl 1 rfl) ?_
  refine lv_aload_n hx hb dL_law_718 rfl (lv_at hl 3 rfl) ?_
  refine lv_iload_n hx hb dL_law_719 rfl (lv_at hl 0 rfl) ?_
  refine lv_iconst (v := 1) hx hb dL_law_720 (by decide) ?_
  refine lv_iadd hx hb dL_law_721 ?_
  refine topc (y := (nI (i + 1))) (nI_add i 1) ?_
  refine va_sld hx hb hX hbl hbA hw.2.2 (vp_in_nI (by omega) (by omega)) dL_law_722 ?_
  refine goI hw (runVW (k := 36) (As := [.int (xs (nI (i + 1)).toNatClampNeg)]) (rest := []) cx hw (k_X8_where l D a cI cZ f u (xs (nI (i + 1)).toNatClampNeg) hj.1) lk_L_80 rfl rfl ⟨Nat.le_of_ble_eq_true rfl, Nat.le_of_ble_eq_true rfl⟩ ⟨rfl, rfl⟩ ⟨Nat.le_of_ble_eq_true rfl, Nat.le_of_ble_eq_true rfl⟩ rfl rfl hl.1 (Nat.le_of_ble_eq_true rfl) dL_law_723) (fun r_2 f_2 u_2 H locs hp_2 hw => ?_)
  obtain ⟨rfl, rfl⟩ := hp_2
  refine lv_pop hx hb dL_law_726 rfl ?_
  refine lv_goto (tgt := 1115) hx hb dL_law_727 (by decide) ?_
  refine lv_iinc (v := nI (i + 5)) (lv' := [(3, .int (nI (i + 5))), (2, .ref (a 36)), (1, .ref (a 0)), (0, .ref b)]) hx hb dL_law_1115 hl (k := 0) rfl (nI_add i 5) (by decide) rfl (fun ls hl => ?_)
  refine lv_goto (tgt := 18) hx hb dL_law_1118 (by decide) ?_
  exact next f u _ _ _ hj hw hl

set_option maxHeartbeats 4000000 in
set_option maxRecDepth 100000 in
theorem law_16 {p : Program} {l : Launch} {e : Env} {s : State} {m : MethodId} {below : List Frame} {meth : Method} {c : Code} {b L : Nat} {xs : Nat → Int32} {D : va_G} {a : Nat → Nat} {cI cZ : ClassId} (C0 : lw_At p s m meth c b L xs) (hge : ∀ k, k < 61 → s.heap.size ≤ a k) (cx : Cx p s m #[Value.ref b] c cL_law RL 4 D cI cZ) (hL : L ≤ 2560) (i : Nat) (h5 : i + 5 ≤ L) (next : ∀ (f : FF) (u : UU) (H : Heap) (locs : List Loc) (ls : Array Slot), JJ f → Wd D a cI cZ s f u H locs → lv_has ls 4 [(3, .int (nI (i + 5))), (2, .ref (a 36)), (1, .ref (a 0)), (0, .ref b)] → W p l e room_1 s m #[Value.ref b] below meth c H locs 61 1071 (lw_Z below #[Value.ref b] s) (F0 m 18 ls [])) {f : FF} {u : UU} {H : Heap} {locs : List Loc} {ls : Array Slot} (hj : JJ f) (hw : Wd D a cI cZ s f u H locs) (hl : lv_has ls 4 [(3, .int (nI i)), (2, .ref (a 36)), (1, .ref (a 0)), (0, .ref b)]) : W p l e room_1 s m #[Value.ref b] below meth c H locs 61 1071 (lw_Z below #[Value.ref b] s) (F0 m 730 ls []) := by
  obtain ⟨hx, hb, hr, hml, hown, hts, hX, hbl, hlocks, hgv⟩ := id C0
  have hbA : ¬ AA a b := fun ⟨k, hk, q⟩ => by have := hge k hk; omega
  refine lv_aload_n hx hb dL_law_730 rfl (lv_at hl 2 rfl) ?_
  refine lv_aload_n hx hb dL_law_731 rfl (lv_at hl 3 rfl) ?_
  refine lv_iload_n hx hb dL_law_732 rfl (lv_at hl 0 rfl) ?_
  refine lv_iconst (v := 1) hx hb dL_law_733 (by decide) ?_
  refine lv_iadd hx hb dL_law_734 ?_
  refine topc (y := (nI (i + 1))) (nI_add i 1) ?_
  refine va_sld hx hb hX hbl hbA hw.2.2 (vp_in_nI (by omega) (by omega)) dL_law_735 ?_
  refine lv_aload_n hx hb dL_law_736 rfl (lv_at hl 3 rfl) ?_
  refine lv_iload_n hx hb dL_law_737 rfl (lv_at hl 0 rfl) ?_
  refine lv_iconst (v := 2) hx hb dL_law_738 (by decide) ?_
  refine lv_iadd hx hb dL_law_739 ?_
  refine topc (y := (nI (i + 2))) (nI_add i 2) ?_
  refine va_sld hx hb hX hbl hbA hw.2.2 (vp_in_nI (by omega) (by omega)) dL_law_740 ?_
  refine goI hw (runVW (k := 0) (As := [.int (xs (nI (i + 1)).toNatClampNeg), .int (xs (nI (i + 2)).toNatClampNeg)]) (rest := []) cx hw (k_X7_in l D a cI cZ f u (xs (nI (i + 1)).toNatClampNeg) (xs (nI (i + 2)).toNatClampNeg) hj.1) lk_L_81 rfl rfl ⟨Nat.le_of_ble_eq_true rfl, Nat.le_of_ble_eq_true rfl⟩ ⟨rfl, rfl⟩ ⟨Nat.le_of_ble_eq_true rfl, Nat.le_of_ble_eq_true rfl⟩ rfl rfl hl.1 (Nat.le_of_ble_eq_true rfl) dL_law_741) (fun r_1 f_1 u_1 H locs hp_1 hw => ?_)
  obtain ⟨rfl, rfl⟩ := hp_1
  refine lv_pop hx hb dL_law_744 rfl ?_
  refine lv_aload_n hx hb dL_law_745 rfl (lv_at hl 1 rfl) ?_
  refine lv_aload_n hx hb dL_law_746 rfl (lv_at hl 3 rfl) ?_
  refine lv_iload_n hx hb dL_law_747 rfl (lv_at hl 0 rfl) ?_
  refine lv_iconst (v := 1) hx hb dL_law_748 (by decide) ?_
  refine lv_iadd hx hb dL_law_749 ?_
  refine topc (y := (nI (i + 1))) (nI_add i 1) ?_
  refine va_sld hx hb hX hbl hbA hw.2.2 (vp_in_nI (by omega) (by omega)) dL_law_750 ?_
  refine lv_aload_n hx hb dL_law_751 rfl (lv_at hl 3 rfl) ?_
  refine lv_iload_n hx hb dL_law_752 rfl (lv_at hl 0 rfl) ?_
  refine lv_iconst (v := 2) hx hb dL_law_753 (by decide) ?_
  refine lv_iadd hx hb dL_law_754 ?_
  refine topc (y := (nI (i + 2))) (nI_add i 2) ?_
  refine va_sld hx hb hX hbl hbA hw.2.2 (vp_in_nI (by omega) (by omega)) dL_law_755 ?_
  refine goI hw (runVW (k := 36) (As := [.int (xs (nI (i + 1)).toNatClampNeg), .int (xs (nI (i + 2)).toNatClampNeg)]) (rest := []) cx hw (k_X8_in l D a cI cZ f u (xs (nI (i + 1)).toNatClampNeg) (xs (nI (i + 2)).toNatClampNeg) hj.1) lk_L_84 rfl rfl ⟨Nat.le_of_ble_eq_true rfl, Nat.le_of_ble_eq_true rfl⟩ ⟨rfl, rfl⟩ ⟨Nat.le_of_ble_eq_true rfl, Nat.le_of_ble_eq_true rfl⟩ rfl rfl hl.1 (Nat.le_of_ble_eq_true rfl) dL_law_756) (fun r_2 f_2 u_2 H locs hp_2 hw => ?_)
  obtain ⟨rfl, rfl⟩ := hp_2
  refine lv_pop hx hb dL_law_759 rfl ?_
  refine lv_goto (tgt := 1115) hx hb dL_law_760 (by decide) ?_
  refine lv_iinc (v := nI (i + 5)) (lv' := [(3, .int (nI (i + 5))), (2, .ref (a 36)), (1, .ref (a 0)), (0, .ref b)]) hx hb dL_law_1115 hl (k := 0) rfl (nI_add i 5) (by decide) rfl (fun ls hl => ?_)
  refine lv_goto (tgt := 18) hx hb dL_law_1118 (by decide) ?_
  exact next f u _ _ _ hj hw hl

set_option maxHeartbeats 4000000 in
set_option maxRecDepth 100000 in
theorem law_17 {p : Program} {l : Launch} {e : Env} {s : State} {m : MethodId} {below : List Frame} {meth : Method} {c : Code} {b L : Nat} {xs : Nat → Int32} {D : va_G} {a : Nat → Nat} {cI cZ : ClassId} (C0 : lw_At p s m meth c b L xs) (hge : ∀ k, k < 61 → s.heap.size ≤ a k) (cx : Cx p s m #[Value.ref b] c cL_law RL 4 D cI cZ) (hL : L ≤ 2560) (i : Nat) (h5 : i + 5 ≤ L) (next : ∀ (f : FF) (u : UU) (H : Heap) (locs : List Loc) (ls : Array Slot), JJ f → Wd D a cI cZ s f u H locs → lv_has ls 4 [(3, .int (nI (i + 5))), (2, .ref (a 36)), (1, .ref (a 0)), (0, .ref b)] → W p l e room_1 s m #[Value.ref b] below meth c H locs 61 1071 (lw_Z below #[Value.ref b] s) (F0 m 18 ls [])) {f : FF} {u : UU} {H : Heap} {locs : List Loc} {ls : Array Slot} (hj : JJ f) (hw : Wd D a cI cZ s f u H locs) (hl : lv_has ls 4 [(3, .int (nI i)), (2, .ref (a 36)), (1, .ref (a 0)), (0, .ref b)]) : W p l e room_1 s m #[Value.ref b] below meth c H locs 61 1071 (lw_Z below #[Value.ref b] s) (F0 m 763 ls []) := by
  obtain ⟨hx, hb, hr, hml, hown, hts, hX, hbl, hlocks, hgv⟩ := id C0
  have hbA : ¬ AA a b := fun ⟨k, hk, q⟩ => by have := hge k hk; omega
  refine lv_aload_n hx hb dL_law_763 rfl (lv_at hl 2 rfl) ?_
  refine lv_aload_n hx hb dL_law_764 rfl (lv_at hl 3 rfl) ?_
  refine lv_iload_n hx hb dL_law_765 rfl (lv_at hl 0 rfl) ?_
  refine lv_iconst (v := 1) hx hb dL_law_766 (by decide) ?_
  refine lv_iadd hx hb dL_law_767 ?_
  refine topc (y := (nI (i + 1))) (nI_add i 1) ?_
  refine va_sld hx hb hX hbl hbA hw.2.2 (vp_in_nI (by omega) (by omega)) dL_law_768 ?_
  refine lv_aload_n hx hb dL_law_769 rfl (lv_at hl 3 rfl) ?_
  refine lv_iload_n hx hb dL_law_770 rfl (lv_at hl 0 rfl) ?_
  refine lv_iconst (v := 2) hx hb dL_law_771 (by decide) ?_
  refine lv_iadd hx hb dL_law_772 ?_
  refine topc (y := (nI (i + 2))) (nI_add i 2) ?_
  refine va_sld hx hb hX hbl hbA hw.2.2 (vp_in_nI (by omega) (by omega)) dL_law_773 ?_
  refine goI hw (runVW (k := 0) (As := [.int (xs (nI (i + 1)).toNatClampNeg), .int (xs (nI (i + 2)).toNatClampNeg)]) (rest := []) cx hw (k_X7_about l D a cI cZ f u (xs (nI (i + 1)).toNatClampNeg) (xs (nI (i + 2)).toNatClampNeg) hj.1) lk_L_85 rfl rfl ⟨Nat.le_of_ble_eq_true rfl, Nat.le_of_ble_eq_true rfl⟩ ⟨rfl, rfl⟩ ⟨Nat.le_of_ble_eq_true rfl, Nat.le_of_ble_eq_true rfl⟩ rfl rfl hl.1 (Nat.le_of_ble_eq_true rfl) dL_law_774) (fun r_1 f_1 u_1 H locs hp_1 hw => ?_)
  obtain ⟨rfl, rfl⟩ := hp_1
  refine lv_pop hx hb dL_law_777 rfl ?_
  refine lv_aload_n hx hb dL_law_778 rfl (lv_at hl 1 rfl) ?_
  refine lv_aload_n hx hb dL_law_779 rfl (lv_at hl 3 rfl) ?_
  refine lv_iload_n hx hb dL_law_780 rfl (lv_at hl 0 rfl) ?_
  refine lv_iconst (v := 1) hx hb dL_law_781 (by decide) ?_
  refine lv_iadd hx hb dL_law_782 ?_
  refine topc (y := (nI (i + 1))) (nI_add i 1) ?_
  refine va_sld hx hb hX hbl hbA hw.2.2 (vp_in_nI (by omega) (by omega)) dL_law_783 ?_
  refine lv_aload_n hx hb dL_law_784 rfl (lv_at hl 3 rfl) ?_
  refine lv_iload_n hx hb dL_law_785 rfl (lv_at hl 0 rfl) ?_
  refine lv_iconst (v := 2) hx hb dL_law_786 (by decide) ?_
  refine lv_iadd hx hb dL_law_787 ?_
  refine topc (y := (nI (i + 2))) (nI_add i 2) ?_
  refine va_sld hx hb hX hbl hbA hw.2.2 (vp_in_nI (by omega) (by omega)) dL_law_788 ?_
  refine goI hw (runVW (k := 36) (As := [.int (xs (nI (i + 1)).toNatClampNeg), .int (xs (nI (i + 2)).toNatClampNeg)]) (rest := []) cx hw (k_X8_about l D a cI cZ f u (xs (nI (i + 1)).toNatClampNeg) (xs (nI (i + 2)).toNatClampNeg) hj.1) lk_L_88 rfl rfl ⟨Nat.le_of_ble_eq_true rfl, Nat.le_of_ble_eq_true rfl⟩ ⟨rfl, rfl⟩ ⟨Nat.le_of_ble_eq_true rfl, Nat.le_of_ble_eq_true rfl⟩ rfl rfl hl.1 (Nat.le_of_ble_eq_true rfl) dL_law_789) (fun r_2 f_2 u_2 H locs hp_2 hw => ?_)
  obtain ⟨rfl, rfl⟩ := hp_2
  refine lv_pop hx hb dL_law_792 rfl ?_
  refine lv_goto (tgt := 1115) hx hb dL_law_793 (by decide) ?_
  refine lv_iinc (v := nI (i + 5)) (lv' := [(3, .int (nI (i + 5))), (2, .ref (a 36)), (1, .ref (a 0)), (0, .ref b)]) hx hb dL_law_1115 hl (k := 0) rfl (nI_add i 5) (by decide) rfl (fun ls hl => ?_)
  refine lv_goto (tgt := 18) hx hb dL_law_1118 (by decide) ?_
  exact next f u _ _ _ hj hw hl

set_option maxHeartbeats 4000000 in
set_option maxRecDepth 100000 in
theorem law_18 {p : Program} {l : Launch} {e : Env} {s : State} {m : MethodId} {below : List Frame} {meth : Method} {c : Code} {b L : Nat} {xs : Nat → Int32} {D : va_G} {a : Nat → Nat} {cI cZ : ClassId} (C0 : lw_At p s m meth c b L xs) (hge : ∀ k, k < 61 → s.heap.size ≤ a k) (cx : Cx p s m #[Value.ref b] c cL_law RL 4 D cI cZ) (hL : L ≤ 2560) (i : Nat) (h5 : i + 5 ≤ L) (next : ∀ (f : FF) (u : UU) (H : Heap) (locs : List Loc) (ls : Array Slot), JJ f → Wd D a cI cZ s f u H locs → lv_has ls 4 [(3, .int (nI (i + 5))), (2, .ref (a 36)), (1, .ref (a 0)), (0, .ref b)] → W p l e room_1 s m #[Value.ref b] below meth c H locs 61 1071 (lw_Z below #[Value.ref b] s) (F0 m 18 ls [])) {f : FF} {u : UU} {H : Heap} {locs : List Loc} {ls : Array Slot} (hj : JJ f) (hw : Wd D a cI cZ s f u H locs) (hl : lv_has ls 4 [(3, .int (nI i)), (2, .ref (a 36)), (1, .ref (a 0)), (0, .ref b)]) : W p l e room_1 s m #[Value.ref b] below meth c H locs 61 1071 (lw_Z below #[Value.ref b] s) (F0 m 796 ls []) := by
  obtain ⟨hx, hb, hr, hml, hown, hts, hX, hbl, hlocks, hgv⟩ := id C0
  have hbA : ¬ AA a b := fun ⟨k, hk, q⟩ => by have := hge k hk; omega
  refine lv_aload_n hx hb dL_law_796 rfl (lv_at hl 2 rfl) ?_
  refine lv_aload_n hx hb dL_law_797 rfl (lv_at hl 3 rfl) ?_
  refine lv_iload_n hx hb dL_law_798 rfl (lv_at hl 0 rfl) ?_
  refine lv_iconst (v := 1) hx hb dL_law_799 (by decide) ?_
  refine lv_iadd hx hb dL_law_800 ?_
  refine topc (y := (nI (i + 1))) (nI_add i 1) ?_
  refine va_sld hx hb hX hbl hbA hw.2.2 (vp_in_nI (by omega) (by omega)) dL_law_801 ?_
  refine goI hw (runVW (k := 0) (As := [.int (xs (nI (i + 1)).toNatClampNeg)]) (rest := []) cx hw (k_X7_weight l D a cI cZ f u (xs (nI (i + 1)).toNatClampNeg) hj.1) lk_L_89 rfl rfl ⟨Nat.le_of_ble_eq_true rfl, Nat.le_of_ble_eq_true rfl⟩ ⟨rfl, rfl⟩ ⟨Nat.le_of_ble_eq_true rfl, Nat.le_of_ble_eq_true rfl⟩ rfl rfl hl.1 (Nat.le_of_ble_eq_true rfl) dL_law_802) (fun r_1 f_1 u_1 H locs hp_1 hw => ?_)
  obtain ⟨rfl, rfl⟩ := hp_1
  refine lv_pop hx hb dL_law_805 rfl ?_
  refine lv_aload_n hx hb dL_law_806 rfl (lv_at hl 1 rfl) ?_
  refine lv_aload_n hx hb dL_law_807 rfl (lv_at hl 3 rfl) ?_
  refine lv_iload_n hx hb dL_law_808 rfl (lv_at hl 0 rfl) ?_
  refine lv_iconst (v := 1) hx hb dL_law_809 (by decide) ?_
  refine lv_iadd hx hb dL_law_810 ?_
  refine topc (y := (nI (i + 1))) (nI_add i 1) ?_
  refine va_sld hx hb hX hbl hbA hw.2.2 (vp_in_nI (by omega) (by omega)) dL_law_811 ?_
  refine goI hw (runVW (k := 36) (As := [.int (xs (nI (i + 1)).toNatClampNeg)]) (rest := []) cx hw (k_X8_weight l D a cI cZ f u (xs (nI (i + 1)).toNatClampNeg) hj.1) lk_L_92 rfl rfl ⟨Nat.le_of_ble_eq_true rfl, Nat.le_of_ble_eq_true rfl⟩ ⟨rfl, rfl⟩ ⟨Nat.le_of_ble_eq_true rfl, Nat.le_of_ble_eq_true rfl⟩ rfl rfl hl.1 (Nat.le_of_ble_eq_true rfl) dL_law_812) (fun r_2 f_2 u_2 H locs hp_2 hw => ?_)
  obtain ⟨rfl, rfl⟩ := hp_2
  refine lv_pop hx hb dL_law_815 rfl ?_
  refine lv_goto (tgt := 1115) hx hb dL_law_816 (by decide) ?_
  refine lv_iinc (v := nI (i + 5)) (lv' := [(3, .int (nI (i + 5))), (2, .ref (a 36)), (1, .ref (a 0)), (0, .ref b)]) hx hb dL_law_1115 hl (k := 0) rfl (nI_add i 5) (by decide) rfl (fun ls hl => ?_)
  refine lv_goto (tgt := 18) hx hb dL_law_1118 (by decide) ?_
  exact next f u _ _ _ hj hw hl

set_option maxHeartbeats 4000000 in
set_option maxRecDepth 100000 in
theorem law_19 {p : Program} {l : Launch} {e : Env} {s : State} {m : MethodId} {below : List Frame} {meth : Method} {c : Code} {b L : Nat} {xs : Nat → Int32} {D : va_G} {a : Nat → Nat} {cI cZ : ClassId} (C0 : lw_At p s m meth c b L xs) (hge : ∀ k, k < 61 → s.heap.size ≤ a k) (cx : Cx p s m #[Value.ref b] c cL_law RL 4 D cI cZ) (hL : L ≤ 2560) (i : Nat) (h5 : i + 5 ≤ L) (next : ∀ (f : FF) (u : UU) (H : Heap) (locs : List Loc) (ls : Array Slot), JJ f → Wd D a cI cZ s f u H locs → lv_has ls 4 [(3, .int (nI (i + 5))), (2, .ref (a 36)), (1, .ref (a 0)), (0, .ref b)] → W p l e room_1 s m #[Value.ref b] below meth c H locs 61 1071 (lw_Z below #[Value.ref b] s) (F0 m 18 ls [])) {f : FF} {u : UU} {H : Heap} {locs : List Loc} {ls : Array Slot} (hj : JJ f) (hw : Wd D a cI cZ s f u H locs) (hl : lv_has ls 4 [(3, .int (nI i)), (2, .ref (a 36)), (1, .ref (a 0)), (0, .ref b)]) : W p l e room_1 s m #[Value.ref b] below meth c H locs 61 1071 (lw_Z below #[Value.ref b] s) (F0 m 819 ls []) := by
  obtain ⟨hx, hb, hr, hml, hown, hts, hX, hbl, hlocks, hgv⟩ := id C0
  have hbA : ¬ AA a b := fun ⟨k, hk, q⟩ => by have := hge k hk; omega
  refine lv_aload_n hx hb dL_law_819 rfl (lv_at hl 2 rfl) ?_
  refine lv_aload_n hx hb dL_law_820 rfl (lv_at hl 3 rfl) ?_
  refine lv_iload_n hx hb dL_law_821 rfl (lv_at hl 0 rfl) ?_
  refine lv_iconst (v := 1) hx hb dL_law_822 (by decide) ?_
  refine lv_iadd hx hb dL_law_823 ?_
  refine topc (y := (nI (i + 1))) (nI_add i 1) ?_
  refine va_sld hx hb hX hbl hbA hw.2.2 (vp_in_nI (by omega) (by omega)) dL_law_824 ?_
  refine goL hw (runVW (k := 0) (As := [.int (xs (nI (i + 1)).toNatClampNeg)]) (rest := []) cx hw (k_X7_moment l D a cI cZ f u (xs (nI (i + 1)).toNatClampNeg) hj.1) lk_L_93 rfl rfl ⟨Nat.le_of_ble_eq_true rfl, Nat.le_of_ble_eq_true rfl⟩ ⟨rfl, rfl⟩ ⟨Nat.le_of_ble_eq_true rfl, Nat.le_of_ble_eq_true rfl⟩ rfl rfl hl.1 (Nat.le_of_ble_eq_true rfl) dL_law_825) (fun r_1 f_1 u_1 H locs hp_1 hw => ?_)
  obtain ⟨rfl, rfl⟩ := hp_1
  refine lv_pop2_2 hx hb dL_law_828 rfl ?_
  refine lv_aload_n hx hb dL_law_829 rfl (lv_at hl 1 rfl) ?_
  refine lv_aload_n hx hb dL_law_830 rfl (lv_at hl 3 rfl) ?_
  refine lv_iload_n hx hb dL_law_831 rfl (lv_at hl 0 rfl) ?_
  refine lv_iconst (v := 1) hx hb dL_law_832 (by decide) ?_
  refine lv_iadd hx hb dL_law_833 ?_
  refine topc (y := (nI (i + 1))) (nI_add i 1) ?_
  refine va_sld hx hb hX hbl hbA hw.2.2 (vp_in_nI (by omega) (by omega)) dL_law_834 ?_
  refine goL hw (runVW (k := 36) (As := [.int (xs (nI (i + 1)).toNatClampNeg)]) (rest := []) cx hw (k_X8_moment l D a cI cZ f u (xs (nI (i + 1)).toNatClampNeg) hj.1) lk_L_97 rfl rfl ⟨Nat.le_of_ble_eq_true rfl, Nat.le_of_ble_eq_true rfl⟩ ⟨rfl, rfl⟩ ⟨Nat.le_of_ble_eq_true rfl, Nat.le_of_ble_eq_true rfl⟩ rfl rfl hl.1 (Nat.le_of_ble_eq_true rfl) dL_law_835) (fun r_2 f_2 u_2 H locs hp_2 hw => ?_)
  obtain ⟨rfl, rfl⟩ := hp_2
  refine lv_pop2_2 hx hb dL_law_838 rfl ?_
  refine lv_goto (tgt := 1115) hx hb dL_law_839 (by decide) ?_
  refine lv_iinc (v := nI (i + 5)) (lv' := [(3, .int (nI (i + 5))), (2, .ref (a 36)), (1, .ref (a 0)), (0, .ref b)]) hx hb dL_law_1115 hl (k := 0) rfl (nI_add i 5) (by decide) rfl (fun ls hl => ?_)
  refine lv_goto (tgt := 18) hx hb dL_law_1118 (by decide) ?_
  exact next f u _ _ _ hj hw hl

set_option maxHeartbeats 4000000 in
set_option maxRecDepth 100000 in
theorem law_20 {p : Program} {l : Launch} {e : Env} {s : State} {m : MethodId} {below : List Frame} {meth : Method} {c : Code} {b L : Nat} {xs : Nat → Int32} {D : va_G} {a : Nat → Nat} {cI cZ : ClassId} (C0 : lw_At p s m meth c b L xs) (hge : ∀ k, k < 61 → s.heap.size ≤ a k) (cx : Cx p s m #[Value.ref b] c cL_law RL 4 D cI cZ) (hL : L ≤ 2560) (i : Nat) (h5 : i + 5 ≤ L) (next : ∀ (f : FF) (u : UU) (H : Heap) (locs : List Loc) (ls : Array Slot), JJ f → Wd D a cI cZ s f u H locs → lv_has ls 4 [(3, .int (nI (i + 5))), (2, .ref (a 36)), (1, .ref (a 0)), (0, .ref b)] → W p l e room_1 s m #[Value.ref b] below meth c H locs 61 1071 (lw_Z below #[Value.ref b] s) (F0 m 18 ls [])) {f : FF} {u : UU} {H : Heap} {locs : List Loc} {ls : Array Slot} (hj : JJ f) (hw : Wd D a cI cZ s f u H locs) (hl : lv_has ls 4 [(3, .int (nI i)), (2, .ref (a 36)), (1, .ref (a 0)), (0, .ref b)]) : W p l e room_1 s m #[Value.ref b] below meth c H locs 61 1071 (lw_Z below #[Value.ref b] s) (F0 m 842 ls []) := by
  obtain ⟨hx, hb, hr, hml, hown, hts, hX, hbl, hlocks, hgv⟩ := id C0
  have hbA : ¬ AA a b := fun ⟨k, hk, q⟩ => by have := hge k hk; omega
  refine lv_aload_n hx hb dL_law_842 rfl (lv_at hl 2 rfl) ?_
  refine lv_aload_n hx hb dL_law_843 rfl (lv_at hl 3 rfl) ?_
  refine lv_iload_n hx hb dL_law_844 rfl (lv_at hl 0 rfl) ?_
  refine lv_iconst (v := 1) hx hb dL_law_845 (by decide) ?_
  refine lv_iadd hx hb dL_law_846 ?_
  refine topc (y := (nI (i + 1))) (nI_add i 1) ?_
  refine va_sld hx hb hX hbl hbA hw.2.2 (vp_in_nI (by omega) (by omega)) dL_law_847 ?_
  refine lv_aload_n hx hb dL_law_848 rfl (lv_at hl 3 rfl) ?_
  refine lv_iload_n hx hb dL_law_849 rfl (lv_at hl 0 rfl) ?_
  refine lv_iconst (v := 2) hx hb dL_law_850 (by decide) ?_
  refine lv_iadd hx hb dL_law_851 ?_
  refine topc (y := (nI (i + 2))) (nI_add i 2) ?_
  refine va_sld hx hb hX hbl hbA hw.2.2 (vp_in_nI (by omega) (by omega)) dL_law_852 ?_
  refine goL hw (runVW (k := 0) (As := [.int (xs (nI (i + 1)).toNatClampNeg), .int (xs (nI (i + 2)).toNatClampNeg)]) (rest := []) cx hw (k_X7_burnt l D a cI cZ f u (xs (nI (i + 1)).toNatClampNeg) (xs (nI (i + 2)).toNatClampNeg) hj.1) lk_L_98 rfl rfl ⟨Nat.le_of_ble_eq_true rfl, Nat.le_of_ble_eq_true rfl⟩ ⟨rfl, rfl⟩ ⟨Nat.le_of_ble_eq_true rfl, Nat.le_of_ble_eq_true rfl⟩ rfl rfl hl.1 (Nat.le_of_ble_eq_true rfl) dL_law_853) (fun r_1 f_1 u_1 H locs hp_1 hw => ?_)
  obtain ⟨rfl, rfl⟩ := hp_1
  refine lv_pop2_2 hx hb dL_law_856 rfl ?_
  refine lv_aload_n hx hb dL_law_857 rfl (lv_at hl 1 rfl) ?_
  refine lv_aload_n hx hb dL_law_858 rfl (lv_at hl 3 rfl) ?_
  refine lv_iload_n hx hb dL_law_859 rfl (lv_at hl 0 rfl) ?_
  refine lv_iconst (v := 1) hx hb dL_law_860 (by decide) ?_
  refine lv_iadd hx hb dL_law_861 ?_
  refine topc (y := (nI (i + 1))) (nI_add i 1) ?_
  refine va_sld hx hb hX hbl hbA hw.2.2 (vp_in_nI (by omega) (by omega)) dL_law_862 ?_
  refine lv_aload_n hx hb dL_law_863 rfl (lv_at hl 3 rfl) ?_
  refine lv_iload_n hx hb dL_law_864 rfl (lv_at hl 0 rfl) ?_
  refine lv_iconst (v := 2) hx hb dL_law_865 (by decide) ?_
  refine lv_iadd hx hb dL_law_866 ?_
  refine topc (y := (nI (i + 2))) (nI_add i 2) ?_
  refine va_sld hx hb hX hbl hbA hw.2.2 (vp_in_nI (by omega) (by omega)) dL_law_867 ?_
  refine goL hw (runVW (k := 36) (As := [.int (xs (nI (i + 1)).toNatClampNeg), .int (xs (nI (i + 2)).toNatClampNeg)]) (rest := []) cx hw (k_X8_burnt l D a cI cZ f u (xs (nI (i + 1)).toNatClampNeg) (xs (nI (i + 2)).toNatClampNeg) hj.1) lk_L_102 rfl rfl ⟨Nat.le_of_ble_eq_true rfl, Nat.le_of_ble_eq_true rfl⟩ ⟨rfl, rfl⟩ ⟨Nat.le_of_ble_eq_true rfl, Nat.le_of_ble_eq_true rfl⟩ rfl rfl hl.1 (Nat.le_of_ble_eq_true rfl) dL_law_868) (fun r_2 f_2 u_2 H locs hp_2 hw => ?_)
  obtain ⟨rfl, rfl⟩ := hp_2
  refine lv_pop2_2 hx hb dL_law_871 rfl ?_
  refine lv_goto (tgt := 1115) hx hb dL_law_872 (by decide) ?_
  refine lv_iinc (v := nI (i + 5)) (lv' := [(3, .int (nI (i + 5))), (2, .ref (a 36)), (1, .ref (a 0)), (0, .ref b)]) hx hb dL_law_1115 hl (k := 0) rfl (nI_add i 5) (by decide) rfl (fun ls hl => ?_)
  refine lv_goto (tgt := 18) hx hb dL_law_1118 (by decide) ?_
  exact next f u _ _ _ hj hw hl

set_option maxHeartbeats 4000000 in
set_option maxRecDepth 100000 in
theorem law_21 {p : Program} {l : Launch} {e : Env} {s : State} {m : MethodId} {below : List Frame} {meth : Method} {c : Code} {b L : Nat} {xs : Nat → Int32} {D : va_G} {a : Nat → Nat} {cI cZ : ClassId} (C0 : lw_At p s m meth c b L xs) (hge : ∀ k, k < 61 → s.heap.size ≤ a k) (cx : Cx p s m #[Value.ref b] c cL_law RL 4 D cI cZ) (hL : L ≤ 2560) (i : Nat) (h5 : i + 5 ≤ L) (next : ∀ (f : FF) (u : UU) (H : Heap) (locs : List Loc) (ls : Array Slot), JJ f → Wd D a cI cZ s f u H locs → lv_has ls 4 [(3, .int (nI (i + 5))), (2, .ref (a 36)), (1, .ref (a 0)), (0, .ref b)] → W p l e room_1 s m #[Value.ref b] below meth c H locs 61 1071 (lw_Z below #[Value.ref b] s) (F0 m 18 ls [])) {f : FF} {u : UU} {H : Heap} {locs : List Loc} {ls : Array Slot} (hj : JJ f) (hw : Wd D a cI cZ s f u H locs) (hl : lv_has ls 4 [(3, .int (nI i)), (2, .ref (a 36)), (1, .ref (a 0)), (0, .ref b)]) : W p l e room_1 s m #[Value.ref b] below meth c H locs 61 1071 (lw_Z below #[Value.ref b] s) (F0 m 875 ls []) := by
  obtain ⟨hx, hb, hr, hml, hown, hts, hX, hbl, hlocks, hgv⟩ := id C0
  have hbA : ¬ AA a b := fun ⟨k, hk, q⟩ => by have := hge k hk; omega
  refine lv_aload_n hx hb dL_law_875 rfl (lv_at hl 2 rfl) ?_
  refine lv_aload_n hx hb dL_law_876 rfl (lv_at hl 3 rfl) ?_
  refine lv_iload_n hx hb dL_law_877 rfl (lv_at hl 0 rfl) ?_
  refine lv_iconst (v := 1) hx hb dL_law_878 (by decide) ?_
  refine lv_iadd hx hb dL_law_879 ?_
  refine topc (y := (nI (i + 1))) (nI_add i 1) ?_
  refine va_sld hx hb hX hbl hbA hw.2.2 (vp_in_nI (by omega) (by omega)) dL_law_880 ?_
  refine goI hw (runVW (k := 0) (As := [.int (xs (nI (i + 1)).toNatClampNeg)]) (rest := []) cx hw (k_X7_within l D a cI cZ f u (xs (nI (i + 1)).toNatClampNeg) hj.1) lk_L_103 rfl rfl ⟨Nat.le_of_ble_eq_true rfl, Nat.le_of_ble_eq_true rfl⟩ ⟨rfl, rfl⟩ ⟨Nat.le_of_ble_eq_true rfl, Nat.le_of_ble_eq_true rfl⟩ rfl rfl hl.1 (Nat.le_of_ble_eq_true rfl) dL_law_881) (fun r_1 f_1 u_1 H locs hp_1 hw => ?_)
  obtain ⟨rfl, rfl⟩ := hp_1
  refine lv_pop hx hb dL_law_884 rfl ?_
  refine lv_aload_n hx hb dL_law_885 rfl (lv_at hl 1 rfl) ?_
  refine lv_aload_n hx hb dL_law_886 rfl (lv_at hl 3 rfl) ?_
  refine lv_iload_n hx hb dL_law_887 rfl (lv_at hl 0 rfl) ?_
  refine lv_iconst (v := 1) hx hb dL_law_888 (by decide) ?_
  refine lv_iadd hx hb dL_law_889 ?_
  refine topc (y := (nI (i + 1))) (nI_add i 1) ?_
  refine va_sld hx hb hX hbl hbA hw.2.2 (vp_in_nI (by omega) (by omega)) dL_law_890 ?_
  refine goI hw (runVW (k := 36) (As := [.int (xs (nI (i + 1)).toNatClampNeg)]) (rest := []) cx hw (k_X8_within l D a cI cZ f u (xs (nI (i + 1)).toNatClampNeg) hj.1) lk_L_106 rfl rfl ⟨Nat.le_of_ble_eq_true rfl, Nat.le_of_ble_eq_true rfl⟩ ⟨rfl, rfl⟩ ⟨Nat.le_of_ble_eq_true rfl, Nat.le_of_ble_eq_true rfl⟩ rfl rfl hl.1 (Nat.le_of_ble_eq_true rfl) dL_law_891) (fun r_2 f_2 u_2 H locs hp_2 hw => ?_)
  obtain ⟨rfl, rfl⟩ := hp_2
  refine lv_pop hx hb dL_law_894 rfl ?_
  refine lv_goto (tgt := 1115) hx hb dL_law_895 (by decide) ?_
  refine lv_iinc (v := nI (i + 5)) (lv' := [(3, .int (nI (i + 5))), (2, .ref (a 36)), (1, .ref (a 0)), (0, .ref b)]) hx hb dL_law_1115 hl (k := 0) rfl (nI_add i 5) (by decide) rfl (fun ls hl => ?_)
  refine lv_goto (tgt := 18) hx hb dL_law_1118 (by decide) ?_
  exact next f u _ _ _ hj hw hl

set_option maxHeartbeats 4000000 in
set_option maxRecDepth 100000 in
theorem law_22 {p : Program} {l : Launch} {e : Env} {s : State} {m : MethodId} {below : List Frame} {meth : Method} {c : Code} {b L : Nat} {xs : Nat → Int32} {D : va_G} {a : Nat → Nat} {cI cZ : ClassId} (C0 : lw_At p s m meth c b L xs) (hge : ∀ k, k < 61 → s.heap.size ≤ a k) (cx : Cx p s m #[Value.ref b] c cL_law RL 4 D cI cZ) (hL : L ≤ 2560) (i : Nat) (h5 : i + 5 ≤ L) (next : ∀ (f : FF) (u : UU) (H : Heap) (locs : List Loc) (ls : Array Slot), JJ f → Wd D a cI cZ s f u H locs → lv_has ls 4 [(3, .int (nI (i + 5))), (2, .ref (a 36)), (1, .ref (a 0)), (0, .ref b)] → W p l e room_1 s m #[Value.ref b] below meth c H locs 61 1071 (lw_Z below #[Value.ref b] s) (F0 m 18 ls [])) {f : FF} {u : UU} {H : Heap} {locs : List Loc} {ls : Array Slot} (hj : JJ f) (hw : Wd D a cI cZ s f u H locs) (hl : lv_has ls 4 [(3, .int (nI i)), (2, .ref (a 36)), (1, .ref (a 0)), (0, .ref b)]) : W p l e room_1 s m #[Value.ref b] below meth c H locs 61 1071 (lw_Z below #[Value.ref b] s) (F0 m 898 ls []) := by
  obtain ⟨hx, hb, hr, hml, hown, hts, hX, hbl, hlocks, hgv⟩ := id C0
  have hbA : ¬ AA a b := fun ⟨k, hk, q⟩ => by have := hge k hk; omega
  refine lv_aload_n hx hb dL_law_898 rfl (lv_at hl 2 rfl) ?_
  refine lv_aload_n hx hb dL_law_899 rfl (lv_at hl 3 rfl) ?_
  refine lv_iload_n hx hb dL_law_900 rfl (lv_at hl 0 rfl) ?_
  refine lv_iconst (v := 1) hx hb dL_law_901 (by decide) ?_
  refine lv_iadd hx hb dL_law_902 ?_
  refine topc (y := (nI (i + 1))) (nI_add i 1) ?_
  refine va_sld hx hb hX hbl hbA hw.2.2 (vp_in_nI (by omega) (by omega)) dL_law_903 ?_
  refine goI hw (runVW (k := 0) (As := [.int (xs (nI (i + 1)).toNatClampNeg)]) (rest := []) cx hw (k_X7_safe l D a cI cZ f u (xs (nI (i + 1)).toNatClampNeg) hj.1) lk_L_107 rfl rfl ⟨Nat.le_of_ble_eq_true rfl, Nat.le_of_ble_eq_true rfl⟩ ⟨rfl, rfl⟩ ⟨Nat.le_of_ble_eq_true rfl, Nat.le_of_ble_eq_true rfl⟩ rfl rfl hl.1 (Nat.le_of_ble_eq_true rfl) dL_law_904) (fun r_1 f_1 u_1 H locs hp_1 hw => ?_)
  obtain ⟨hi_1, kk_1⟩ := hp_1
  have vC_1 : vC f_1 = vC f := vC_KK kk_1 (by decide)
  have vM_1 : vM f_1 = vM f := vM_KP (KP_KK kk_1 (by decide))
  refine lv_pop hx hb dL_law_907 rfl ?_
  refine lv_aload_n hx hb dL_law_908 rfl (lv_at hl 1 rfl) ?_
  refine lv_aload_n hx hb dL_law_909 rfl (lv_at hl 3 rfl) ?_
  refine lv_iload_n hx hb dL_law_910 rfl (lv_at hl 0 rfl) ?_
  refine lv_iconst (v := 1) hx hb dL_law_911 (by decide) ?_
  refine lv_iadd hx hb dL_law_912 ?_
  refine topc (y := (nI (i + 1))) (nI_add i 1) ?_
  refine va_sld hx hb hX hbl hbA hw.2.2 (vp_in_nI (by omega) (by omega)) dL_law_913 ?_
  refine goI hw (runVW (k := 36) (As := [.int (xs (nI (i + 1)).toNatClampNeg)]) (rest := []) cx hw (k_X8_safe l D a cI cZ f_1 u_1 (xs (nI (i + 1)).toNatClampNeg) hi_1) lk_L_110 rfl rfl ⟨Nat.le_of_ble_eq_true rfl, Nat.le_of_ble_eq_true rfl⟩ ⟨rfl, rfl⟩ ⟨Nat.le_of_ble_eq_true rfl, Nat.le_of_ble_eq_true rfl⟩ rfl rfl hl.1 (Nat.le_of_ble_eq_true rfl) dL_law_914) (fun r_2 f_2 u_2 H locs hp_2 hw => ?_)
  obtain ⟨rfl, rfl⟩ := hp_2
  refine lv_pop hx hb dL_law_917 rfl ?_
  refine lv_goto (tgt := 1115) hx hb dL_law_918 (by decide) ?_
  refine lv_iinc (v := nI (i + 5)) (lv' := [(3, .int (nI (i + 5))), (2, .ref (a 36)), (1, .ref (a 0)), (0, .ref b)]) hx hb dL_law_1115 hl (k := 0) rfl (nI_add i 5) (by decide) rfl (fun ls hl => ?_)
  refine lv_goto (tgt := 18) hx hb dL_law_1118 (by decide) ?_
  have cp : vC f_1 = vM f_1 := by
    rw [vC_1, vM_1]
    exact hj.2
  exact next f_1 u_1 _ _ _ ⟨hi_1, cp⟩ hw hl

set_option maxHeartbeats 4000000 in
set_option maxRecDepth 100000 in
theorem law_23 {p : Program} {l : Launch} {e : Env} {s : State} {m : MethodId} {below : List Frame} {meth : Method} {c : Code} {b L : Nat} {xs : Nat → Int32} {D : va_G} {a : Nat → Nat} {cI cZ : ClassId} (C0 : lw_At p s m meth c b L xs) (hge : ∀ k, k < 61 → s.heap.size ≤ a k) (cx : Cx p s m #[Value.ref b] c cL_law RL 4 D cI cZ) (hL : L ≤ 2560) (i : Nat) (h5 : i + 5 ≤ L) (next : ∀ (f : FF) (u : UU) (H : Heap) (locs : List Loc) (ls : Array Slot), JJ f → Wd D a cI cZ s f u H locs → lv_has ls 4 [(3, .int (nI (i + 5))), (2, .ref (a 36)), (1, .ref (a 0)), (0, .ref b)] → W p l e room_1 s m #[Value.ref b] below meth c H locs 61 1071 (lw_Z below #[Value.ref b] s) (F0 m 18 ls [])) {f : FF} {u : UU} {H : Heap} {locs : List Loc} {ls : Array Slot} (hj : JJ f) (hw : Wd D a cI cZ s f u H locs) (hl : lv_has ls 4 [(3, .int (nI i)), (2, .ref (a 36)), (1, .ref (a 0)), (0, .ref b)]) : W p l e room_1 s m #[Value.ref b] below meth c H locs 61 1071 (lw_Z below #[Value.ref b] s) (F0 m 921 ls []) := by
  obtain ⟨hx, hb, hr, hml, hown, hts, hX, hbl, hlocks, hgv⟩ := id C0
  have hbA : ¬ AA a b := fun ⟨k, hk, q⟩ => by have := hge k hk; omega
  refine lv_aload_n hx hb dL_law_921 rfl (lv_at hl 2 rfl) ?_
  refine lv_aload_n hx hb dL_law_922 rfl (lv_at hl 3 rfl) ?_
  refine lv_iload_n hx hb dL_law_923 rfl (lv_at hl 0 rfl) ?_
  refine lv_iconst (v := 1) hx hb dL_law_924 (by decide) ?_
  refine lv_iadd hx hb dL_law_925 ?_
  refine topc (y := (nI (i + 1))) (nI_add i 1) ?_
  refine va_sld hx hb hX hbl hbA hw.2.2 (vp_in_nI (by omega) (by omega)) dL_law_926 ?_
  refine goI hw (runVW (k := 0) (As := [.int (xs (nI (i + 1)).toNatClampNeg)]) (rest := []) cx hw (k_X7_wrong l D a cI cZ f u (xs (nI (i + 1)).toNatClampNeg) hj.1) lk_L_111 rfl rfl ⟨Nat.le_of_ble_eq_true rfl, Nat.le_of_ble_eq_true rfl⟩ ⟨rfl, rfl⟩ ⟨Nat.le_of_ble_eq_true rfl, Nat.le_of_ble_eq_true rfl⟩ rfl rfl hl.1 (Nat.le_of_ble_eq_true rfl) dL_law_927) (fun r_1 f_1 u_1 H locs hp_1 hw => ?_)
  obtain ⟨hi_1, kk_1⟩ := hp_1
  have vC_1 : vC f_1 = vC f := vC_KK kk_1 (by decide)
  have vM_1 : vM f_1 = vM f := vM_KP (KP_KK kk_1 (by decide))
  refine lv_pop hx hb dL_law_930 rfl ?_
  refine lv_aload_n hx hb dL_law_931 rfl (lv_at hl 1 rfl) ?_
  refine lv_aload_n hx hb dL_law_932 rfl (lv_at hl 3 rfl) ?_
  refine lv_iload_n hx hb dL_law_933 rfl (lv_at hl 0 rfl) ?_
  refine lv_iconst (v := 1) hx hb dL_law_934 (by decide) ?_
  refine lv_iadd hx hb dL_law_935 ?_
  refine topc (y := (nI (i + 1))) (nI_add i 1) ?_
  refine va_sld hx hb hX hbl hbA hw.2.2 (vp_in_nI (by omega) (by omega)) dL_law_936 ?_
  refine goI hw (runVW (k := 36) (As := [.int (xs (nI (i + 1)).toNatClampNeg)]) (rest := []) cx hw (k_X8_wrong l D a cI cZ f_1 u_1 (xs (nI (i + 1)).toNatClampNeg) hi_1) lk_L_114 rfl rfl ⟨Nat.le_of_ble_eq_true rfl, Nat.le_of_ble_eq_true rfl⟩ ⟨rfl, rfl⟩ ⟨Nat.le_of_ble_eq_true rfl, Nat.le_of_ble_eq_true rfl⟩ rfl rfl hl.1 (Nat.le_of_ble_eq_true rfl) dL_law_937) (fun r_2 f_2 u_2 H locs hp_2 hw => ?_)
  obtain ⟨rfl, rfl⟩ := hp_2
  refine lv_pop hx hb dL_law_940 rfl ?_
  refine lv_goto (tgt := 1115) hx hb dL_law_941 (by decide) ?_
  refine lv_iinc (v := nI (i + 5)) (lv' := [(3, .int (nI (i + 5))), (2, .ref (a 36)), (1, .ref (a 0)), (0, .ref b)]) hx hb dL_law_1115 hl (k := 0) rfl (nI_add i 5) (by decide) rfl (fun ls hl => ?_)
  refine lv_goto (tgt := 18) hx hb dL_law_1118 (by decide) ?_
  have cp : vC f_1 = vM f_1 := by
    rw [vC_1, vM_1]
    exact hj.2
  exact next f_1 u_1 _ _ _ ⟨hi_1, cp⟩ hw hl

set_option maxHeartbeats 4000000 in
set_option maxRecDepth 100000 in
theorem law_24 {p : Program} {l : Launch} {e : Env} {s : State} {m : MethodId} {below : List Frame} {meth : Method} {c : Code} {b L : Nat} {xs : Nat → Int32} {D : va_G} {a : Nat → Nat} {cI cZ : ClassId} (C0 : lw_At p s m meth c b L xs) (hge : ∀ k, k < 61 → s.heap.size ≤ a k) (cx : Cx p s m #[Value.ref b] c cL_law RL 4 D cI cZ) (hL : L ≤ 2560) (i : Nat) (h5 : i + 5 ≤ L) (next : ∀ (f : FF) (u : UU) (H : Heap) (locs : List Loc) (ls : Array Slot), JJ f → Wd D a cI cZ s f u H locs → lv_has ls 4 [(3, .int (nI (i + 5))), (2, .ref (a 36)), (1, .ref (a 0)), (0, .ref b)] → W p l e room_1 s m #[Value.ref b] below meth c H locs 61 1071 (lw_Z below #[Value.ref b] s) (F0 m 18 ls [])) {f : FF} {u : UU} {H : Heap} {locs : List Loc} {ls : Array Slot} (hj : JJ f) (hw : Wd D a cI cZ s f u H locs) (hl : lv_has ls 4 [(3, .int (nI i)), (2, .ref (a 36)), (1, .ref (a 0)), (0, .ref b)]) : W p l e room_1 s m #[Value.ref b] below meth c H locs 61 1071 (lw_Z below #[Value.ref b] s) (F0 m 944 ls []) := by
  obtain ⟨hx, hb, hr, hml, hown, hts, hX, hbl, hlocks, hgv⟩ := id C0
  have hbA : ¬ AA a b := fun ⟨k, hk, q⟩ => by have := hge k hk; omega
  refine lv_aload_n hx hb dL_law_944 rfl (lv_at hl 2 rfl) ?_
  refine lv_aload_n hx hb dL_law_945 rfl (lv_at hl 3 rfl) ?_
  refine lv_iload_n hx hb dL_law_946 rfl (lv_at hl 0 rfl) ?_
  refine lv_iconst (v := 1) hx hb dL_law_947 (by decide) ?_
  refine lv_iadd hx hb dL_law_948 ?_
  refine topc (y := (nI (i + 1))) (nI_add i 1) ?_
  refine va_sld hx hb hX hbl hbA hw.2.2 (vp_in_nI (by omega) (by omega)) dL_law_949 ?_
  refine goI hw (runVW (k := 0) (As := [.int (xs (nI (i + 1)).toNatClampNeg)]) (rest := []) cx hw (k_X7_pushed l D a cI cZ f u (xs (nI (i + 1)).toNatClampNeg) hj.1) lk_L_115 rfl rfl ⟨Nat.le_of_ble_eq_true rfl, Nat.le_of_ble_eq_true rfl⟩ ⟨rfl, rfl⟩ ⟨Nat.le_of_ble_eq_true rfl, Nat.le_of_ble_eq_true rfl⟩ rfl rfl hl.1 (Nat.le_of_ble_eq_true rfl) dL_law_950) (fun r_1 f_1 u_1 H locs hp_1 hw => ?_)
  obtain ⟨rfl, rfl⟩ := hp_1
  refine lv_pop hx hb dL_law_953 rfl ?_
  refine lv_aload_n hx hb dL_law_954 rfl (lv_at hl 1 rfl) ?_
  refine lv_aload_n hx hb dL_law_955 rfl (lv_at hl 3 rfl) ?_
  refine lv_iload_n hx hb dL_law_956 rfl (lv_at hl 0 rfl) ?_
  refine lv_iconst (v := 1) hx hb dL_law_957 (by decide) ?_
  refine lv_iadd hx hb dL_law_958 ?_
  refine topc (y := (nI (i + 1))) (nI_add i 1) ?_
  refine va_sld hx hb hX hbl hbA hw.2.2 (vp_in_nI (by omega) (by omega)) dL_law_959 ?_
  refine goI hw (runVW (k := 36) (As := [.int (xs (nI (i + 1)).toNatClampNeg)]) (rest := []) cx hw (k_X8_pushed l D a cI cZ f u (xs (nI (i + 1)).toNatClampNeg) hj.1) lk_L_118 rfl rfl ⟨Nat.le_of_ble_eq_true rfl, Nat.le_of_ble_eq_true rfl⟩ ⟨rfl, rfl⟩ ⟨Nat.le_of_ble_eq_true rfl, Nat.le_of_ble_eq_true rfl⟩ rfl rfl hl.1 (Nat.le_of_ble_eq_true rfl) dL_law_960) (fun r_2 f_2 u_2 H locs hp_2 hw => ?_)
  obtain ⟨rfl, rfl⟩ := hp_2
  refine lv_pop hx hb dL_law_963 rfl ?_
  refine lv_goto (tgt := 1115) hx hb dL_law_964 (by decide) ?_
  refine lv_iinc (v := nI (i + 5)) (lv' := [(3, .int (nI (i + 5))), (2, .ref (a 36)), (1, .ref (a 0)), (0, .ref b)]) hx hb dL_law_1115 hl (k := 0) rfl (nI_add i 5) (by decide) rfl (fun ls hl => ?_)
  refine lv_goto (tgt := 18) hx hb dL_law_1118 (by decide) ?_
  exact next f u _ _ _ hj hw hl

set_option maxHeartbeats 4000000 in
set_option maxRecDepth 100000 in
theorem law_25 {p : Program} {l : Launch} {e : Env} {s : State} {m : MethodId} {below : List Frame} {meth : Method} {c : Code} {b L : Nat} {xs : Nat → Int32} {D : va_G} {a : Nat → Nat} {cI cZ : ClassId} (C0 : lw_At p s m meth c b L xs) (hge : ∀ k, k < 61 → s.heap.size ≤ a k) (cx : Cx p s m #[Value.ref b] c cL_law RL 4 D cI cZ) (hL : L ≤ 2560) (i : Nat) (h5 : i + 5 ≤ L) (next : ∀ (f : FF) (u : UU) (H : Heap) (locs : List Loc) (ls : Array Slot), JJ f → Wd D a cI cZ s f u H locs → lv_has ls 4 [(3, .int (nI (i + 5))), (2, .ref (a 36)), (1, .ref (a 0)), (0, .ref b)] → W p l e room_1 s m #[Value.ref b] below meth c H locs 61 1071 (lw_Z below #[Value.ref b] s) (F0 m 18 ls [])) {f : FF} {u : UU} {H : Heap} {locs : List Loc} {ls : Array Slot} (hj : JJ f) (hw : Wd D a cI cZ s f u H locs) (hl : lv_has ls 4 [(3, .int (nI i)), (2, .ref (a 36)), (1, .ref (a 0)), (0, .ref b)]) : W p l e room_1 s m #[Value.ref b] below meth c H locs 61 1071 (lw_Z below #[Value.ref b] s) (F0 m 967 ls []) := by
  obtain ⟨hx, hb, hr, hml, hown, hts, hX, hbl, hlocks, hgv⟩ := id C0
  have hbA : ¬ AA a b := fun ⟨k, hk, q⟩ => by have := hge k hk; omega
  refine lv_aload_n hx hb dL_law_967 rfl (lv_at hl 2 rfl) ?_
  refine lv_aload_n hx hb dL_law_968 rfl (lv_at hl 3 rfl) ?_
  refine lv_iload_n hx hb dL_law_969 rfl (lv_at hl 0 rfl) ?_
  refine lv_iconst (v := 1) hx hb dL_law_970 (by decide) ?_
  refine lv_iadd hx hb dL_law_971 ?_
  refine topc (y := (nI (i + 1))) (nI_add i 1) ?_
  refine va_sld hx hb hX hbl hbA hw.2.2 (vp_in_nI (by omega) (by omega)) dL_law_972 ?_
  refine goI hw (runVW (k := 0) (As := [.int (xs (nI (i + 1)).toNatClampNeg)]) (rest := []) cx hw (k_X7_arrive l D a cI cZ f u (xs (nI (i + 1)).toNatClampNeg) hj.1) lk_L_119 rfl rfl ⟨Nat.le_of_ble_eq_true rfl, Nat.le_of_ble_eq_true rfl⟩ ⟨rfl, rfl⟩ ⟨Nat.le_of_ble_eq_true rfl, Nat.le_of_ble_eq_true rfl⟩ rfl rfl hl.1 (Nat.le_of_ble_eq_true rfl) dL_law_973) (fun r_1 f_1 u_1 H locs hp_1 hw => ?_)
  obtain ⟨hi_1, kk_1⟩ := hp_1
  have vC_1 : vC f_1 = vC f := vC_KK kk_1 (by decide)
  have vM_1 : vM f_1 = vM f := vM_KP (KP_KK kk_1 (by decide))
  refine lv_pop hx hb dL_law_976 rfl ?_
  refine lv_aload_n hx hb dL_law_977 rfl (lv_at hl 1 rfl) ?_
  refine lv_aload_n hx hb dL_law_978 rfl (lv_at hl 3 rfl) ?_
  refine lv_iload_n hx hb dL_law_979 rfl (lv_at hl 0 rfl) ?_
  refine lv_iconst (v := 1) hx hb dL_law_980 (by decide) ?_
  refine lv_iadd hx hb dL_law_981 ?_
  refine topc (y := (nI (i + 1))) (nI_add i 1) ?_
  refine va_sld hx hb hX hbl hbA hw.2.2 (vp_in_nI (by omega) (by omega)) dL_law_982 ?_
  refine goI hw (runVW (k := 36) (As := [.int (xs (nI (i + 1)).toNatClampNeg)]) (rest := []) cx hw (k_X8_arrive l D a cI cZ f_1 u_1 (xs (nI (i + 1)).toNatClampNeg) hi_1) lk_L_122 rfl rfl ⟨Nat.le_of_ble_eq_true rfl, Nat.le_of_ble_eq_true rfl⟩ ⟨rfl, rfl⟩ ⟨Nat.le_of_ble_eq_true rfl, Nat.le_of_ble_eq_true rfl⟩ rfl rfl hl.1 (Nat.le_of_ble_eq_true rfl) dL_law_983) (fun r_2 f_2 u_2 H locs hp_2 hw => ?_)
  obtain ⟨hi_2, kk_2⟩ := hp_2
  have vM_2 : vM f_2 = vM f_1 := vM_KK kk_2 (by decide)
  have vC_2 : vC f_2 = vC f_1 := vC_KQ (KQ_KK kk_2 (by decide))
  refine lv_pop hx hb dL_law_986 rfl ?_
  refine lv_goto (tgt := 1115) hx hb dL_law_987 (by decide) ?_
  refine lv_iinc (v := nI (i + 5)) (lv' := [(3, .int (nI (i + 5))), (2, .ref (a 36)), (1, .ref (a 0)), (0, .ref b)]) hx hb dL_law_1115 hl (k := 0) rfl (nI_add i 5) (by decide) rfl (fun ls hl => ?_)
  refine lv_goto (tgt := 18) hx hb dL_law_1118 (by decide) ?_
  have cp : vC f_2 = vM f_2 := by
    rw [vC_2, vC_1, vM_2, vM_1]
    exact hj.2
  exact next f_2 u_2 _ _ _ ⟨hi_2, cp⟩ hw hl

set_option maxHeartbeats 4000000 in
set_option maxRecDepth 100000 in
theorem law_26 {p : Program} {l : Launch} {e : Env} {s : State} {m : MethodId} {below : List Frame} {meth : Method} {c : Code} {b L : Nat} {xs : Nat → Int32} {D : va_G} {a : Nat → Nat} {cI cZ : ClassId} (C0 : lw_At p s m meth c b L xs) (hge : ∀ k, k < 61 → s.heap.size ≤ a k) (cx : Cx p s m #[Value.ref b] c cL_law RL 4 D cI cZ) (hL : L ≤ 2560) (i : Nat) (h5 : i + 5 ≤ L) (next : ∀ (f : FF) (u : UU) (H : Heap) (locs : List Loc) (ls : Array Slot), JJ f → Wd D a cI cZ s f u H locs → lv_has ls 4 [(3, .int (nI (i + 5))), (2, .ref (a 36)), (1, .ref (a 0)), (0, .ref b)] → W p l e room_1 s m #[Value.ref b] below meth c H locs 61 1071 (lw_Z below #[Value.ref b] s) (F0 m 18 ls [])) {f : FF} {u : UU} {H : Heap} {locs : List Loc} {ls : Array Slot} (hj : JJ f) (hw : Wd D a cI cZ s f u H locs) (hl : lv_has ls 4 [(3, .int (nI i)), (2, .ref (a 36)), (1, .ref (a 0)), (0, .ref b)]) : W p l e room_1 s m #[Value.ref b] below meth c H locs 61 1071 (lw_Z below #[Value.ref b] s) (F0 m 990 ls []) := by
  obtain ⟨hx, hb, hr, hml, hown, hts, hX, hbl, hlocks, hgv⟩ := id C0
  have hbA : ¬ AA a b := fun ⟨k, hk, q⟩ => by have := hge k hk; omega
  refine lv_aload_n hx hb dL_law_990 rfl (lv_at hl 2 rfl) ?_
  refine lv_aload_n hx hb dL_law_991 rfl (lv_at hl 3 rfl) ?_
  refine lv_iload_n hx hb dL_law_992 rfl (lv_at hl 0 rfl) ?_
  refine lv_iconst (v := 1) hx hb dL_law_993 (by decide) ?_
  refine lv_iadd hx hb dL_law_994 ?_
  refine topc (y := (nI (i + 1))) (nI_add i 1) ?_
  refine va_sld hx hb hX hbl hbA hw.2.2 (vp_in_nI (by omega) (by omega)) dL_law_995 ?_
  refine goI hw (runVW (k := 0) (As := [.int (xs (nI (i + 1)).toNatClampNeg)]) (rest := []) cx hw (k_X7_loadAll l D a cI cZ f u (xs (nI (i + 1)).toNatClampNeg) hj.1) lk_L_123 rfl rfl ⟨Nat.le_of_ble_eq_true rfl, Nat.le_of_ble_eq_true rfl⟩ ⟨rfl, rfl⟩ ⟨Nat.le_of_ble_eq_true rfl, Nat.le_of_ble_eq_true rfl⟩ rfl rfl hl.1 (Nat.le_of_ble_eq_true rfl) dL_law_996) (fun r_1 f_1 u_1 H locs hp_1 hw => ?_)
  obtain ⟨hi_1, kk_1⟩ := hp_1
  have vC_1 : vC f_1 = vC f := vC_KK kk_1 (by decide)
  have vM_1 : vM f_1 = vM f := vM_KP (KP_KK kk_1 (by decide))
  refine lv_pop hx hb dL_law_999 rfl ?_
  refine lv_aload_n hx hb dL_law_1000 rfl (lv_at hl 1 rfl) ?_
  refine lv_aload_n hx hb dL_law_1001 rfl (lv_at hl 3 rfl) ?_
  refine lv_iload_n hx hb dL_law_1002 rfl (lv_at hl 0 rfl) ?_
  refine lv_iconst (v := 1) hx hb dL_law_1003 (by decide) ?_
  refine lv_iadd hx hb dL_law_1004 ?_
  refine topc (y := (nI (i + 1))) (nI_add i 1) ?_
  refine va_sld hx hb hX hbl hbA hw.2.2 (vp_in_nI (by omega) (by omega)) dL_law_1005 ?_
  refine goI hw (runVW (k := 36) (As := [.int (xs (nI (i + 1)).toNatClampNeg)]) (rest := []) cx hw (k_X8_loadAll l D a cI cZ f_1 u_1 (xs (nI (i + 1)).toNatClampNeg) hi_1) lk_L_126 rfl rfl ⟨Nat.le_of_ble_eq_true rfl, Nat.le_of_ble_eq_true rfl⟩ ⟨rfl, rfl⟩ ⟨Nat.le_of_ble_eq_true rfl, Nat.le_of_ble_eq_true rfl⟩ rfl rfl hl.1 (Nat.le_of_ble_eq_true rfl) dL_law_1006) (fun r_2 f_2 u_2 H locs hp_2 hw => ?_)
  obtain ⟨hi_2, kk_2⟩ := hp_2
  have vM_2 : vM f_2 = vM f_1 := vM_KK kk_2 (by decide)
  have vC_2 : vC f_2 = vC f_1 := vC_KQ (KQ_KK kk_2 (by decide))
  refine lv_pop hx hb dL_law_1009 rfl ?_
  refine lv_goto (tgt := 1115) hx hb dL_law_1010 (by decide) ?_
  refine lv_iinc (v := nI (i + 5)) (lv' := [(3, .int (nI (i + 5))), (2, .ref (a 36)), (1, .ref (a 0)), (0, .ref b)]) hx hb dL_law_1115 hl (k := 0) rfl (nI_add i 5) (by decide) rfl (fun ls hl => ?_)
  refine lv_goto (tgt := 18) hx hb dL_law_1118 (by decide) ?_
  have cp : vC f_2 = vM f_2 := by
    rw [vC_2, vC_1, vM_2, vM_1]
    exact hj.2
  exact next f_2 u_2 _ _ _ ⟨hi_2, cp⟩ hw hl

set_option maxHeartbeats 4000000 in
set_option maxRecDepth 100000 in
theorem law_27 {p : Program} {l : Launch} {e : Env} {s : State} {m : MethodId} {below : List Frame} {meth : Method} {c : Code} {b L : Nat} {xs : Nat → Int32} {D : va_G} {a : Nat → Nat} {cI cZ : ClassId} (C0 : lw_At p s m meth c b L xs) (hge : ∀ k, k < 61 → s.heap.size ≤ a k) (cx : Cx p s m #[Value.ref b] c cL_law RL 4 D cI cZ) (hL : L ≤ 2560) (i : Nat) (h5 : i + 5 ≤ L) (next : ∀ (f : FF) (u : UU) (H : Heap) (locs : List Loc) (ls : Array Slot), JJ f → Wd D a cI cZ s f u H locs → lv_has ls 4 [(3, .int (nI (i + 5))), (2, .ref (a 36)), (1, .ref (a 0)), (0, .ref b)] → W p l e room_1 s m #[Value.ref b] below meth c H locs 61 1071 (lw_Z below #[Value.ref b] s) (F0 m 18 ls [])) {f : FF} {u : UU} {H : Heap} {locs : List Loc} {ls : Array Slot} (hj : JJ f) (hw : Wd D a cI cZ s f u H locs) (hl : lv_has ls 4 [(3, .int (nI i)), (2, .ref (a 36)), (1, .ref (a 0)), (0, .ref b)]) : W p l e room_1 s m #[Value.ref b] below meth c H locs 61 1071 (lw_Z below #[Value.ref b] s) (F0 m 1013 ls []) := by
  obtain ⟨hx, hb, hr, hml, hown, hts, hX, hbl, hlocks, hgv⟩ := id C0
  have hbA : ¬ AA a b := fun ⟨k, hk, q⟩ => by have := hge k hk; omega
  refine lv_aload_n hx hb dL_law_1013 rfl (lv_at hl 2 rfl) ?_
  refine lv_aload_n hx hb dL_law_1014 rfl (lv_at hl 3 rfl) ?_
  refine lv_iload_n hx hb dL_law_1015 rfl (lv_at hl 0 rfl) ?_
  refine lv_iconst (v := 1) hx hb dL_law_1016 (by decide) ?_
  refine lv_iadd hx hb dL_law_1017 ?_
  refine topc (y := (nI (i + 1))) (nI_add i 1) ?_
  refine va_sld hx hb hX hbl hbA hw.2.2 (vp_in_nI (by omega) (by omega)) dL_law_1018 ?_
  refine goI hw (runVW (k := 0) (As := [.int (xs (nI (i + 1)).toNatClampNeg)]) (rest := []) cx hw (k_X7_better l D a cI cZ f u (xs (nI (i + 1)).toNatClampNeg) hj.1) lk_L_127 rfl rfl ⟨Nat.le_of_ble_eq_true rfl, Nat.le_of_ble_eq_true rfl⟩ ⟨rfl, rfl⟩ ⟨Nat.le_of_ble_eq_true rfl, Nat.le_of_ble_eq_true rfl⟩ rfl rfl hl.1 (Nat.le_of_ble_eq_true rfl) dL_law_1019) (fun r_1 f_1 u_1 H locs hp_1 hw => ?_)
  obtain ⟨hi_1, kk_1⟩ := hp_1
  have vC_1 : vC f_1 = vC f := vC_KK kk_1 (by decide)
  have vM_1 : vM f_1 = vM f := vM_KP (KP_KK kk_1 (by decide))
  refine lv_pop hx hb dL_law_1022 rfl ?_
  refine lv_aload_n hx hb dL_law_1023 rfl (lv_at hl 1 rfl) ?_
  refine lv_aload_n hx hb dL_law_1024 rfl (lv_at hl 3 rfl) ?_
  refine lv_iload_n hx hb dL_law_1025 rfl (lv_at hl 0 rfl) ?_
  refine lv_iconst (v := 1) hx hb dL_law_1026 (by decide) ?_
  refine lv_iadd hx hb dL_law_1027 ?_
  refine topc (y := (nI (i + 1))) (nI_add i 1) ?_
  refine va_sld hx hb hX hbl hbA hw.2.2 (vp_in_nI (by omega) (by omega)) dL_law_1028 ?_
  refine goI hw (runVW (k := 36) (As := [.int (xs (nI (i + 1)).toNatClampNeg)]) (rest := []) cx hw (k_X8_better l D a cI cZ f_1 u_1 (xs (nI (i + 1)).toNatClampNeg) hi_1) lk_L_130 rfl rfl ⟨Nat.le_of_ble_eq_true rfl, Nat.le_of_ble_eq_true rfl⟩ ⟨rfl, rfl⟩ ⟨Nat.le_of_ble_eq_true rfl, Nat.le_of_ble_eq_true rfl⟩ rfl rfl hl.1 (Nat.le_of_ble_eq_true rfl) dL_law_1029) (fun r_2 f_2 u_2 H locs hp_2 hw => ?_)
  obtain ⟨hi_2, kk_2⟩ := hp_2
  have vM_2 : vM f_2 = vM f_1 := vM_KK kk_2 (by decide)
  have vC_2 : vC f_2 = vC f_1 := vC_KQ (KQ_KK kk_2 (by decide))
  refine lv_pop hx hb dL_law_1032 rfl ?_
  refine lv_goto (tgt := 1115) hx hb dL_law_1033 (by decide) ?_
  refine lv_iinc (v := nI (i + 5)) (lv' := [(3, .int (nI (i + 5))), (2, .ref (a 36)), (1, .ref (a 0)), (0, .ref b)]) hx hb dL_law_1115 hl (k := 0) rfl (nI_add i 5) (by decide) rfl (fun ls hl => ?_)
  refine lv_goto (tgt := 18) hx hb dL_law_1118 (by decide) ?_
  have cp : vC f_2 = vM f_2 := by
    rw [vC_2, vC_1, vM_2, vM_1]
    exact hj.2
  exact next f_2 u_2 _ _ _ ⟨hi_2, cp⟩ hw hl

set_option maxHeartbeats 4000000 in
set_option maxRecDepth 100000 in
theorem law_28 {p : Program} {l : Launch} {e : Env} {s : State} {m : MethodId} {below : List Frame} {meth : Method} {c : Code} {b L : Nat} {xs : Nat → Int32} {D : va_G} {a : Nat → Nat} {cI cZ : ClassId} (C0 : lw_At p s m meth c b L xs) (hge : ∀ k, k < 61 → s.heap.size ≤ a k) (cx : Cx p s m #[Value.ref b] c cL_law RL 4 D cI cZ) (hL : L ≤ 2560) (i : Nat) (h5 : i + 5 ≤ L) (next : ∀ (f : FF) (u : UU) (H : Heap) (locs : List Loc) (ls : Array Slot), JJ f → Wd D a cI cZ s f u H locs → lv_has ls 4 [(3, .int (nI (i + 5))), (2, .ref (a 36)), (1, .ref (a 0)), (0, .ref b)] → W p l e room_1 s m #[Value.ref b] below meth c H locs 61 1071 (lw_Z below #[Value.ref b] s) (F0 m 18 ls [])) {f : FF} {u : UU} {H : Heap} {locs : List Loc} {ls : Array Slot} (hj : JJ f) (hw : Wd D a cI cZ s f u H locs) (hl : lv_has ls 4 [(3, .int (nI i)), (2, .ref (a 36)), (1, .ref (a 0)), (0, .ref b)]) : W p l e room_1 s m #[Value.ref b] below meth c H locs 61 1071 (lw_Z below #[Value.ref b] s) (F0 m 1036 ls []) := by
  obtain ⟨hx, hb, hr, hml, hown, hts, hX, hbl, hlocks, hgv⟩ := id C0
  have hbA : ¬ AA a b := fun ⟨k, hk, q⟩ => by have := hge k hk; omega
  refine lv_aload_n hx hb dL_law_1036 rfl (lv_at hl 2 rfl) ?_
  refine lv_aload_n hx hb dL_law_1037 rfl (lv_at hl 3 rfl) ?_
  refine lv_iload_n hx hb dL_law_1038 rfl (lv_at hl 0 rfl) ?_
  refine lv_iconst (v := 1) hx hb dL_law_1039 (by decide) ?_
  refine lv_iadd hx hb dL_law_1040 ?_
  refine topc (y := (nI (i + 1))) (nI_add i 1) ?_
  refine va_sld hx hb hX hbl hbA hw.2.2 (vp_in_nI (by omega) (by omega)) dL_law_1041 ?_
  refine goI hw (runVW (k := 0) (As := [.int (xs (nI (i + 1)).toNatClampNeg)]) (rest := []) cx hw (k_X7_best l D a cI cZ f u (xs (nI (i + 1)).toNatClampNeg) hj.1) lk_L_131 rfl rfl ⟨Nat.le_of_ble_eq_true rfl, Nat.le_of_ble_eq_true rfl⟩ ⟨rfl, rfl⟩ ⟨Nat.le_of_ble_eq_true rfl, Nat.le_of_ble_eq_true rfl⟩ rfl rfl hl.1 (Nat.le_of_ble_eq_true rfl) dL_law_1042) (fun r_1 f_1 u_1 H locs hp_1 hw => ?_)
  obtain ⟨hi_1, kk_1⟩ := hp_1
  have vC_1 : vC f_1 = vC f := vC_KK kk_1 (by decide)
  have vM_1 : vM f_1 = vM f := vM_KP (KP_KK kk_1 (by decide))
  refine lv_pop hx hb dL_law_1045 rfl ?_
  refine lv_aload_n hx hb dL_law_1046 rfl (lv_at hl 1 rfl) ?_
  refine lv_aload_n hx hb dL_law_1047 rfl (lv_at hl 3 rfl) ?_
  refine lv_iload_n hx hb dL_law_1048 rfl (lv_at hl 0 rfl) ?_
  refine lv_iconst (v := 1) hx hb dL_law_1049 (by decide) ?_
  refine lv_iadd hx hb dL_law_1050 ?_
  refine topc (y := (nI (i + 1))) (nI_add i 1) ?_
  refine va_sld hx hb hX hbl hbA hw.2.2 (vp_in_nI (by omega) (by omega)) dL_law_1051 ?_
  refine goI hw (runVW (k := 36) (As := [.int (xs (nI (i + 1)).toNatClampNeg)]) (rest := []) cx hw (k_X8_best l D a cI cZ f_1 u_1 (xs (nI (i + 1)).toNatClampNeg) hi_1) lk_L_134 rfl rfl ⟨Nat.le_of_ble_eq_true rfl, Nat.le_of_ble_eq_true rfl⟩ ⟨rfl, rfl⟩ ⟨Nat.le_of_ble_eq_true rfl, Nat.le_of_ble_eq_true rfl⟩ rfl rfl hl.1 (Nat.le_of_ble_eq_true rfl) dL_law_1052) (fun r_2 f_2 u_2 H locs hp_2 hw => ?_)
  obtain ⟨hi_2, kk_2⟩ := hp_2
  have vM_2 : vM f_2 = vM f_1 := vM_KK kk_2 (by decide)
  have vC_2 : vC f_2 = vC f_1 := vC_KQ (KQ_KK kk_2 (by decide))
  refine lv_pop hx hb dL_law_1055 rfl ?_
  refine lv_goto (tgt := 1115) hx hb dL_law_1056 (by decide) ?_
  refine lv_iinc (v := nI (i + 5)) (lv' := [(3, .int (nI (i + 5))), (2, .ref (a 36)), (1, .ref (a 0)), (0, .ref b)]) hx hb dL_law_1115 hl (k := 0) rfl (nI_add i 5) (by decide) rfl (fun ls hl => ?_)
  refine lv_goto (tgt := 18) hx hb dL_law_1118 (by decide) ?_
  have cp : vC f_2 = vM f_2 := by
    rw [vC_2, vC_1, vM_2, vM_1]
    exact hj.2
  exact next f_2 u_2 _ _ _ ⟨hi_2, cp⟩ hw hl

set_option maxHeartbeats 4000000 in
set_option maxRecDepth 100000 in
theorem law_29 {p : Program} {l : Launch} {e : Env} {s : State} {m : MethodId} {below : List Frame} {meth : Method} {c : Code} {b L : Nat} {xs : Nat → Int32} {D : va_G} {a : Nat → Nat} {cI cZ : ClassId} (C0 : lw_At p s m meth c b L xs) (hge : ∀ k, k < 61 → s.heap.size ≤ a k) (cx : Cx p s m #[Value.ref b] c cL_law RL 4 D cI cZ) (hL : L ≤ 2560) (i : Nat) (h5 : i + 5 ≤ L) (next : ∀ (f : FF) (u : UU) (H : Heap) (locs : List Loc) (ls : Array Slot), JJ f → Wd D a cI cZ s f u H locs → lv_has ls 4 [(3, .int (nI (i + 5))), (2, .ref (a 36)), (1, .ref (a 0)), (0, .ref b)] → W p l e room_1 s m #[Value.ref b] below meth c H locs 61 1071 (lw_Z below #[Value.ref b] s) (F0 m 18 ls [])) {f : FF} {u : UU} {H : Heap} {locs : List Loc} {ls : Array Slot} (hj : JJ f) (hw : Wd D a cI cZ s f u H locs) (hl : lv_has ls 4 [(3, .int (nI i)), (2, .ref (a 36)), (1, .ref (a 0)), (0, .ref b)]) : W p l e room_1 s m #[Value.ref b] below meth c H locs 61 1071 (lw_Z below #[Value.ref b] s) (F0 m 1059 ls []) := by
  obtain ⟨hx, hb, hr, hml, hown, hts, hX, hbl, hlocks, hgv⟩ := id C0
  have hbA : ¬ AA a b := fun ⟨k, hk, q⟩ => by have := hge k hk; omega
  refine lv_aload_n hx hb dL_law_1059 rfl (lv_at hl 2 rfl) ?_
  refine lv_aload_n hx hb dL_law_1060 rfl (lv_at hl 3 rfl) ?_
  refine lv_iload_n hx hb dL_law_1061 rfl (lv_at hl 0 rfl) ?_
  refine lv_iconst (v := 1) hx hb dL_law_1062 (by decide) ?_
  refine lv_iadd hx hb dL_law_1063 ?_
  refine topc (y := (nI (i + 1))) (nI_add i 1) ?_
  refine va_sld hx hb hX hbl hbA hw.2.2 (vp_in_nI (by omega) (by omega)) dL_law_1064 ?_
  refine lv_aload_n hx hb dL_law_1065 rfl (lv_at hl 3 rfl) ?_
  refine lv_iload_n hx hb dL_law_1066 rfl (lv_at hl 0 rfl) ?_
  refine lv_iconst (v := 2) hx hb dL_law_1067 (by decide) ?_
  refine lv_iadd hx hb dL_law_1068 ?_
  refine topc (y := (nI (i + 2))) (nI_add i 2) ?_
  refine va_sld hx hb hX hbl hbA hw.2.2 (vp_in_nI (by omega) (by omega)) dL_law_1069 ?_
  refine goI hw (runVW (k := 0) (As := [.int (xs (nI (i + 1)).toNatClampNeg), .int (xs (nI (i + 2)).toNatClampNeg)]) (rest := []) cx hw (k_X7_late l D a cI cZ f u (xs (nI (i + 1)).toNatClampNeg) (xs (nI (i + 2)).toNatClampNeg) hj.1) lk_L_135 rfl rfl ⟨Nat.le_of_ble_eq_true rfl, Nat.le_of_ble_eq_true rfl⟩ ⟨rfl, rfl⟩ ⟨Nat.le_of_ble_eq_true rfl, Nat.le_of_ble_eq_true rfl⟩ rfl rfl hl.1 (Nat.le_of_ble_eq_true rfl) dL_law_1070) (fun r_1 f_1 u_1 H locs hp_1 hw => ?_)
  obtain ⟨hi_1, kk_1⟩ := hp_1
  have vC_1 : vC f_1 = vC f := vC_KK kk_1 (by decide)
  have vM_1 : vM f_1 = vM f := vM_KP (KP_KK kk_1 (by decide))
  refine lv_pop hx hb dL_law_1073 rfl ?_
  refine lv_aload_n hx hb dL_law_1074 rfl (lv_at hl 1 rfl) ?_
  refine lv_aload_n hx hb dL_law_1075 rfl (lv_at hl 3 rfl) ?_
  refine lv_iload_n hx hb dL_law_1076 rfl (lv_at hl 0 rfl) ?_
  refine lv_iconst (v := 1) hx hb dL_law_1077 (by decide) ?_
  refine lv_iadd hx hb dL_law_1078 ?_
  refine topc (y := (nI (i + 1))) (nI_add i 1) ?_
  refine va_sld hx hb hX hbl hbA hw.2.2 (vp_in_nI (by omega) (by omega)) dL_law_1079 ?_
  refine lv_aload_n hx hb dL_law_1080 rfl (lv_at hl 3 rfl) ?_
  refine lv_iload_n hx hb dL_law_1081 rfl (lv_at hl 0 rfl) ?_
  refine lv_iconst (v := 2) hx hb dL_law_1082 (by decide) ?_
  refine lv_iadd hx hb dL_law_1083 ?_
  refine topc (y := (nI (i + 2))) (nI_add i 2) ?_
  refine va_sld hx hb hX hbl hbA hw.2.2 (vp_in_nI (by omega) (by omega)) dL_law_1084 ?_
  refine goI hw (runVW (k := 36) (As := [.int (xs (nI (i + 1)).toNatClampNeg), .int (xs (nI (i + 2)).toNatClampNeg)]) (rest := []) cx hw (k_X8_late l D a cI cZ f_1 u_1 (xs (nI (i + 1)).toNatClampNeg) (xs (nI (i + 2)).toNatClampNeg) hi_1) lk_L_138 rfl rfl ⟨Nat.le_of_ble_eq_true rfl, Nat.le_of_ble_eq_true rfl⟩ ⟨rfl, rfl⟩ ⟨Nat.le_of_ble_eq_true rfl, Nat.le_of_ble_eq_true rfl⟩ rfl rfl hl.1 (Nat.le_of_ble_eq_true rfl) dL_law_1085) (fun r_2 f_2 u_2 H locs hp_2 hw => ?_)
  obtain ⟨hi_2, kk_2⟩ := hp_2
  have vM_2 : vM f_2 = vM f_1 := vM_KK kk_2 (by decide)
  have vC_2 : vC f_2 = vC f_1 := vC_KQ (KQ_KK kk_2 (by decide))
  refine lv_pop hx hb dL_law_1088 rfl ?_
  refine lv_goto (tgt := 1115) hx hb dL_law_1089 (by decide) ?_
  refine lv_iinc (v := nI (i + 5)) (lv' := [(3, .int (nI (i + 5))), (2, .ref (a 36)), (1, .ref (a 0)), (0, .ref b)]) hx hb dL_law_1115 hl (k := 0) rfl (nI_add i 5) (by decide) rfl (fun ls hl => ?_)
  refine lv_goto (tgt := 18) hx hb dL_law_1118 (by decide) ?_
  have cp : vC f_2 = vM f_2 := by
    rw [vC_2, vC_1, vM_2, vM_1]
    exact hj.2
  exact next f_2 u_2 _ _ _ ⟨hi_2, cp⟩ hw hl

set_option maxHeartbeats 4000000 in
set_option maxRecDepth 100000 in
theorem law_30 {p : Program} {l : Launch} {e : Env} {s : State} {m : MethodId} {below : List Frame} {meth : Method} {c : Code} {b L : Nat} {xs : Nat → Int32} {D : va_G} {a : Nat → Nat} {cI cZ : ClassId} (C0 : lw_At p s m meth c b L xs) (hge : ∀ k, k < 61 → s.heap.size ≤ a k) (cx : Cx p s m #[Value.ref b] c cL_law RL 4 D cI cZ) (hL : L ≤ 2560) (i : Nat) (h5 : i + 5 ≤ L) (next : ∀ (f : FF) (u : UU) (H : Heap) (locs : List Loc) (ls : Array Slot), JJ f → Wd D a cI cZ s f u H locs → lv_has ls 4 [(3, .int (nI (i + 5))), (2, .ref (a 36)), (1, .ref (a 0)), (0, .ref b)] → W p l e room_1 s m #[Value.ref b] below meth c H locs 61 1071 (lw_Z below #[Value.ref b] s) (F0 m 18 ls [])) {f : FF} {u : UU} {H : Heap} {locs : List Loc} {ls : Array Slot} (hj : JJ f) (hw : Wd D a cI cZ s f u H locs) (hl : lv_has ls 4 [(3, .int (nI i)), (2, .ref (a 36)), (1, .ref (a 0)), (0, .ref b)]) : W p l e room_1 s m #[Value.ref b] below meth c H locs 61 1071 (lw_Z below #[Value.ref b] s) (F0 m 1092 ls []) := by
  obtain ⟨hx, hb, hr, hml, hown, hts, hX, hbl, hlocks, hgv⟩ := id C0
  have hbA : ¬ AA a b := fun ⟨k, hk, q⟩ => by have := hge k hk; omega
  refine lv_aload_n hx hb dL_law_1092 rfl (lv_at hl 2 rfl) ?_
  refine lv_aload_n hx hb dL_law_1093 rfl (lv_at hl 3 rfl) ?_
  refine lv_iload_n hx hb dL_law_1094 rfl (lv_at hl 0 rfl) ?_
  refine lv_iconst (v := 1) hx hb dL_law_1095 (by decide) ?_
  refine lv_iadd hx hb dL_law_1096 ?_
  refine topc (y := (nI (i + 1))) (nI_add i 1) ?_
  refine va_sld hx hb hX hbl hbA hw.2.2 (vp_in_nI (by omega) (by omega)) dL_law_1097 ?_
  refine goI hw (runVW (k := 0) (As := [.int (xs (nI (i + 1)).toNatClampNeg)]) (rest := []) cx hw (k_X7_count l D a cI cZ f u (xs (nI (i + 1)).toNatClampNeg) hj.1) lk_L_139 rfl rfl ⟨Nat.le_of_ble_eq_true rfl, Nat.le_of_ble_eq_true rfl⟩ ⟨rfl, rfl⟩ ⟨Nat.le_of_ble_eq_true rfl, Nat.le_of_ble_eq_true rfl⟩ rfl rfl hl.1 (Nat.le_of_ble_eq_true rfl) dL_law_1098) (fun r_1 f_1 u_1 H locs hp_1 hw => ?_)
  obtain ⟨rfl, rfl⟩ := hp_1
  refine lv_pop hx hb dL_law_1101 rfl ?_
  refine lv_aload_n hx hb dL_law_1102 rfl (lv_at hl 1 rfl) ?_
  refine lv_aload_n hx hb dL_law_1103 rfl (lv_at hl 3 rfl) ?_
  refine lv_iload_n hx hb dL_law_1104 rfl (lv_at hl 0 rfl) ?_
  refine lv_iconst (v := 1) hx hb dL_law_1105 (by decide) ?_
  refine lv_iadd hx hb dL_law_1106 ?_
  refine topc (y := (nI (i + 1))) (nI_add i 1) ?_
  refine va_sld hx hb hX hbl hbA hw.2.2 (vp_in_nI (by omega) (by omega)) dL_law_1107 ?_
  refine goI hw (runVW (k := 36) (As := [.int (xs (nI (i + 1)).toNatClampNeg)]) (rest := []) cx hw (k_X8_count l D a cI cZ f u (xs (nI (i + 1)).toNatClampNeg) hj.1) lk_L_142 rfl rfl ⟨Nat.le_of_ble_eq_true rfl, Nat.le_of_ble_eq_true rfl⟩ ⟨rfl, rfl⟩ ⟨Nat.le_of_ble_eq_true rfl, Nat.le_of_ble_eq_true rfl⟩ rfl rfl hl.1 (Nat.le_of_ble_eq_true rfl) dL_law_1108) (fun r_2 f_2 u_2 H locs hp_2 hw => ?_)
  obtain ⟨rfl, rfl⟩ := hp_2
  refine lv_pop hx hb dL_law_1111 rfl ?_
  refine lv_goto (tgt := 1115) hx hb dL_law_1112 (by decide) ?_
  refine lv_iinc (v := nI (i + 5)) (lv' := [(3, .int (nI (i + 5))), (2, .ref (a 36)), (1, .ref (a 0)), (0, .ref b)]) hx hb dL_law_1115 hl (k := 0) rfl (nI_add i 5) (by decide) rfl (fun ls hl => ?_)
  refine lv_goto (tgt := 18) hx hb dL_law_1118 (by decide) ?_
  exact next f u _ _ _ hj hw hl
