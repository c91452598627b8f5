section JDK
variable {p : Program} {l : Launch} {e : Env} {R : Room} {s : State} {m : MethodId} {args : Array Value} {below : List Frame} {meth : Method} {c : Code} {H : Heap} {locs : List Loc} {cells slots : Nat} {Q : State → Prop}
variable {cc : ByteArray} {pc : Nat} {ls : Array Slot} {rest : List Value} {D : va_G} {cI cZ : ClassId} {own : String} {nL idx : Nat}
theorem jMax {x y : Int32} (cx : Cx p s m args c cc own nL D cI cZ) (hls : ls.size = nL) (hlink : Cond.methodLink own idx yJ9_max_7cf53 ∈ T0) (hf : 1 ≤ R.frames) (hlo : (rest.map fun v => v.category).sum + 13 ≤ R.locals) (hz : cells ≤ R.cells ∧ slots ≤ R.slots) (hdg : decode cc pc = .ok (.invokestatic idx, 3)) (kk : ∀ z : Int32, W p l e R s m args below meth c H locs cells slots Q (F0 m (pc + 3) ls (.int z :: rest))) : W p l e R s m args below meth c H locs cells slots Q (F0 m pc ls (.int y :: .int x :: rest)) := va_mmax cx.1.1 cx.1.2.1 (by rw [cx.1.2.2.1, hls]) cx.1.2.2.2.1 (cx.1.2.2.2.2 _ hlink) (cx.1.2.2.2.2 _ mm_2_216) (cx.1.2.2.2.2 _ mm_1_11) (cx.1.2.2.2.2 _ mm_2_217) hf hlo hz.1 hz.2 hdg (kk _)
theorem jMin {x y : Int32} (cx : Cx p s m args c cc own nL D cI cZ) (hls : ls.size = nL) (hlink : Cond.methodLink own idx yJ9_min_7cf53 ∈ T0) (hf : 1 ≤ R.frames) (hlo : (rest.map fun v => v.category).sum + 13 ≤ R.locals) (hz : cells ≤ R.cells ∧ slots ≤ R.slots) (hdg : decode cc pc = .ok (.invokestatic idx, 3)) (kk : ∀ z : Int32, W p l e R s m args below meth c H locs cells slots Q (F0 m (pc + 3) ls (.int z :: rest))) : W p l e R s m args below meth c H locs cells slots Q (F0 m pc ls (.int y :: .int x :: rest)) := va_mmin cx.1.1 cx.1.2.1 (by rw [cx.1.2.2.1, hls]) cx.1.2.2.2.1 (cx.1.2.2.2.2 _ hlink) (cx.1.2.2.2.2 _ mm_3_32) (cx.1.2.2.2.2 _ mm_1_11) (cx.1.2.2.2.2 _ mm_3_33) hf hlo hz.1 hz.2 hdg (kk _)
theorem jAbs {x : Int32} (cx : Cx p s m args c cc own nL D cI cZ) (hls : ls.size = nL) (hlink : Cond.methodLink own idx yJ9_abs_0f7a4 ∈ T0) (hf : 1 ≤ R.frames) (hlo : (rest.map fun v => v.category).sum + 13 ≤ R.locals) (hz : cells ≤ R.cells ∧ slots ≤ R.slots) (hdg : decode cc pc = .ok (.invokestatic idx, 3)) (kk : ∀ z : Int32, W p l e R s m args below meth c H locs cells slots Q (F0 m (pc + 3) ls (.int z :: rest))) : W p l e R s m args below meth c H locs cells slots Q (F0 m pc ls (.int x :: rest)) := va_mabs cx.1.1 cx.1.2.1 (by rw [cx.1.2.2.1, hls]) cx.1.2.2.2.1 (cx.1.2.2.2.2 _ hlink) (cx.1.2.2.2.2 _ mm_2_175) (cx.1.2.2.2.2 _ mm_1_11) (cx.1.2.2.2.2 _ mm_2_176) hf hlo hz.1 hz.2 hdg (kk _)
theorem jAbsL {x : Int64} (cx : Cx p s m args c cc own nL D cI cZ) (hls : ls.size = nL) (hlink : Cond.methodLink own idx yJ9_abs_067f4 ∈ T0) (hf : 1 ≤ R.frames) (hlo : (rest.map fun v => v.category).sum + 13 ≤ R.locals) (hz : cells ≤ R.cells ∧ slots ≤ R.slots) (hdg : decode cc pc = .ok (.invokestatic idx, 3)) (kk : ∀ z : Int64, W p l e R s m args below meth c H locs cells slots Q (F0 m (pc + 3) ls (.long z :: rest))) : W p l e R s m args below meth c H locs cells slots Q (F0 m pc ls (.long x :: rest)) := by
  intro T hT X
  obtain ⟨vm', X', st⟩ := va_abs_longV X cx.1.1 cx.1.2.2.2.1 (cx.1.2.2.2.2 _ hlink) (cx.1.2.2.2.2 _ mm_3_152) (cx.1.2.2.2.2 _ mm_1_11) (cx.1.2.2.2.2 _ mm_3_153) (g := F0 m pc ls (.long x :: rest)) rfl (by rw [cx.1.2.2.1]; exact hls) (a := x) (rest := rest) rfl (by rw [cx.1.2.1]; exact hdg) hf (by show 2 * 0 + _ + 13 ≤ _; omega) hz.1 hz.2
  obtain ⟨t, a1, b1⟩ := kk _ (T.setVm vm') hT X'
  exact ⟨t, st t a1, b1⟩
end JDK

set_option maxHeartbeats 4000000 in
set_option maxRecDepth 100000 in
theorem k_J6_bitCount_0f7a4 (l : Launch) (D : va_G) (a : Nat → Nat) (cI cZ : ClassId) (f : FF) (u : UU) (x : Int32)  : KI l yJ6_bitCount_0f7a4 cJ6_bitCount_0f7a4 1 (some .int) ({ frames := 1, cells := 0, slots := 0, locals := 12 } : Room) D a cI cZ [.int x] f u (fun r f2 u2 => f = f2 ∧ u = u2) := by
  refine KX.of (by decide) (Nat.le_of_ble_eq_true rfl) ?_
  intro p e s m below meth c cx hw hr hk ls hl
  have cx : Cx p s m _ c cJ6_bitCount_0f7a4 RJ6 1 D cI cZ := cx
  have hl : lv_has ls 1 [(0, .int x)] := hl
  have hx := cx.1.1
  have hb := cx.1.2.1
  refine lv_iload_n hx hb dJ6_bitCount_0f7a4_0 rfl (lv_at hl 0 rfl) ?_
  refine lv_iload_n hx hb dJ6_bitCount_0f7a4_1 rfl (lv_at hl 0 rfl) ?_
  refine lv_iconst (v := 1) hx hb dJ6_bitCount_0f7a4_2 (by decide) ?_
  refine lv_iushr hx hb dJ6_bitCount_0f7a4_3 rfl ?_
  refine lv_topi (fun x_1 _ => ?_)
  refine lv_ldcw (v := 1431655765) hx hb cx.1.2.2.2.1 (cx.1.2.2.2.2 _ mm_3_123) dJ6_bitCount_0f7a4_4 ?_
  refine lv_iand hx hb dJ6_bitCount_0f7a4_7 ?_
  refine lv_topi (fun x_2 _ => ?_)
  refine lv_isub hx hb dJ6_bitCount_0f7a4_8 ?_
  refine lv_topi (fun x_3 _ => ?_)
  refine lv_istore_n (lv' := [(0, .int x_3)]) hx hb dJ6_bitCount_0f7a4_9 rfl hl (by decide) rfl (fun ls hl => ?_)
  refine lv_iload_n hx hb dJ6_bitCount_0f7a4_10 rfl (lv_at hl 0 rfl) ?_
  refine lv_ldcw (v := 858993459) hx hb cx.1.2.2.2.1 (cx.1.2.2.2.2 _ mm_3_124) dJ6_bitCount_0f7a4_11 ?_
  refine lv_iand hx hb dJ6_bitCount_0f7a4_14 ?_
  refine lv_topi (fun x_4 _ => ?_)
  refine lv_iload_n hx hb dJ6_bitCount_0f7a4_15 rfl (lv_at hl 0 rfl) ?_
  refine lv_iconst (v := 2) hx hb dJ6_bitCount_0f7a4_16 (by decide) ?_
  refine lv_iushr hx hb dJ6_bitCount_0f7a4_17 rfl ?_
  refine lv_topi (fun x_5 _ => ?_)
  refine lv_ldcw (v := 858993459) hx hb cx.1.2.2.2.1 (cx.1.2.2.2.2 _ mm_3_124) dJ6_bitCount_0f7a4_18 ?_
  refine lv_iand hx hb dJ6_bitCount_0f7a4_21 ?_
  refine lv_topi (fun x_6 _ => ?_)
  refine lv_iadd hx hb dJ6_bitCount_0f7a4_22 ?_
  refine lv_topi (fun x_7 _ => ?_)
  refine lv_istore_n (lv' := [(0, .int x_7)]) hx hb dJ6_bitCount_0f7a4_23 rfl hl (by decide) rfl (fun ls hl => ?_)
  refine lv_iload_n hx hb dJ6_bitCount_0f7a4_24 rfl (lv_at hl 0 rfl) ?_
  refine lv_iload_n hx hb dJ6_bitCount_0f7a4_25 rfl (lv_at hl 0 rfl) ?_
  refine lv_iconst (v := 4) hx hb dJ6_bitCount_0f7a4_26 (by decide) ?_
  refine lv_iushr hx hb dJ6_bitCount_0f7a4_27 rfl ?_
  refine lv_topi (fun x_8 _ => ?_)
  refine lv_iadd hx hb dJ6_bitCount_0f7a4_28 ?_
  refine lv_topi (fun x_9 _ => ?_)
  refine lv_ldcw (v := 252645135) hx hb cx.1.2.2.2.1 (cx.1.2.2.2.2 _ mm_3_125) dJ6_bitCount_0f7a4_29 ?_
  refine lv_iand hx hb dJ6_bitCount_0f7a4_32 ?_
  refine lv_topi (fun x_10 _ => ?_)
  refine lv_istore_n (lv' := [(0, .int x_10)]) hx hb dJ6_bitCount_0f7a4_33 rfl hl (by decide) rfl (fun ls hl => ?_)
  refine lv_iload_n hx hb dJ6_bitCount_0f7a4_34 rfl (lv_at hl 0 rfl) ?_
  refine lv_iload_n hx hb dJ6_bitCount_0f7a4_35 rfl (lv_at hl 0 rfl) ?_
  refine lv_bipush (v := 8) hx hb dJ6_bitCount_0f7a4_36 (by decide) ?_
  refine lv_iushr hx hb dJ6_bitCount_0f7a4_38 rfl ?_
  refine lv_topi (fun x_11 _ => ?_)
  refine lv_iadd hx hb dJ6_bitCount_0f7a4_39 ?_
  refine lv_topi (fun x_12 _ => ?_)
  refine lv_istore_n (lv' := [(0, .int x_12)]) hx hb dJ6_bitCount_0f7a4_40 rfl hl (by decide) rfl (fun ls hl => ?_)
  refine lv_iload_n hx hb dJ6_bitCount_0f7a4_41 rfl (lv_at hl 0 rfl) ?_
  refine lv_iload_n hx hb dJ6_bitCount_0f7a4_42 rfl (lv_at hl 0 rfl) ?_
  refine lv_bipush (v := 16) hx hb dJ6_bitCount_0f7a4_43 (by decide) ?_
  refine lv_iushr hx hb dJ6_bitCount_0f7a4_45 rfl ?_
  refine lv_topi (fun x_13 _ => ?_)
  refine lv_iadd hx hb dJ6_bitCount_0f7a4_46 ?_
  refine lv_topi (fun x_14 _ => ?_)
  refine lv_istore_n (lv' := [(0, .int x_14)]) hx hb dJ6_bitCount_0f7a4_47 rfl hl (by decide) rfl (fun ls hl => ?_)
  refine lv_iload_n hx hb dJ6_bitCount_0f7a4_48 rfl (lv_at hl 0 rfl) ?_
  refine lv_bipush (v := 63) hx hb dJ6_bitCount_0f7a4_49 (by decide) ?_
  refine lv_iand hx hb dJ6_bitCount_0f7a4_51 ?_
  refine lv_topi (fun x_15 _ => ?_)
  exact retI cx hw hr hk dJ6_bitCount_0f7a4_52 ⟨rfl, rfl⟩
