def rg (v lo hi : Int32) : Int32 := if lo ≤ v ∧ v ≤ hi then 1 else 0
theorem rg_in {v lo hi : Int32} (h1 : ¬ v < lo) (h2 : ¬ hi < v) : 1 = rg v lo hi := by
  unfold rg
  rw [if_pos ⟨Int32.not_lt.mp h1, Int32.not_lt.mp h2⟩]
theorem rg_lo {v lo hi : Int32} (h1 : v < lo) : 0 = rg v lo hi := by
  unfold rg
  rw [if_neg (fun h => (Int32.not_le.mpr h1) h.1)]
theorem rg_hi {v lo hi : Int32} (_ : ¬ v < lo) (h2 : hi < v) : 0 = rg v lo hi := by
  unfold rg
  rw [if_neg (fun h => (Int32.not_le.mpr h2) h.2)]
theorem rg_ne {v lo hi : Int32} (h : ¬ rg v lo hi = 0) : lo ≤ v ∧ v ≤ hi := by
  unfold rg at h
  by_cases q : lo ≤ v ∧ v ≤ hi
  · exact q
  · rw [if_neg q] at h; exact absurd rfl h
theorem nar_rg (v lo hi : Int32) : narrow .boolean (.int (rg v lo hi)) = .int (rg v lo hi) := by
  unfold rg
  by_cases q : lo ≤ v ∧ v ≤ hi
  · rw [if_pos q]; rfl
  · rw [if_neg q]; rfl
theorem rg_m1 (v : Int32) : rg v 0 (-1) = 0 := by
  unfold rg
  rw [if_neg]
  intro h
  have h1 := Int32.le_iff_toInt_le.mp h.1
  have h2 := Int32.le_iff_toInt_le.mp h.2
  have e1 : (0 : Int32).toInt = 0 := rfl
  have e2 : (-1 : Int32).toInt = -1 := rfl
  omega
theorem rg_nat {v hi : Int32} {n : Nat} (hn : hi.toInt = n) (h : ¬ rg v 0 hi = 0) : ∃ j : Nat, j ≤ n ∧ v = nI j := nI_of2 hn (Int32.not_lt.mpr (rg_ne h).1) (rg_ne h).2
theorem rg_01 {v : Int32} (h : ¬ rg v 0 1 = 0) : v = 0 ∨ v = 1 := by
  obtain ⟨j, hj, rfl⟩ := rg_nat (n := 1) rfl h
  rcases (show j = 0 ∨ j = 1 by omega) with rfl | rfl
  · exact Or.inl rfl
  · exact Or.inr rfl
theorem rg_ph1 {v : Int32} (h : v = 0) : 1 = rg v 0 1 := by rw [h]; rfl
theorem rg_ph2 {v : Int32} (_ : ¬ v = 0) (h : v = 1) : 1 = rg v 0 1 := by rw [h]; rfl
theorem rg_ph3 {v : Int32} (h0 : ¬ v = 0) (h : ¬ v = 1) : 0 = rg v 0 1 := by
  by_cases q : rg v 0 1 = 0
  · exact q.symm
  · exact (rg_01 q).elim (fun e => absurd e h0) (fun e => absurd e h)
theorem ix8 {x y : Int32} (hx : ¬ rg x 0 7 = 0) (hy : ¬ rg y 0 7 = 0) : vp_in ((x * 8) + y) 64 := by
  obtain ⟨i, hi, rfl⟩ := rg_nat (n := 7) rfl hx
  obtain ⟨j, hj, rfl⟩ := rg_nat (n := 7) rfl hy
  have e : (8 : Int32) = nI 8 := rfl
  rw [e, pk_mul, nI_add]
  exact vp_in_nI (by omega) (by decide)
theorem ix8b {x y : Int32} (hx : ¬ rg x 0 7 = 0) (hy : ¬ rg y 0 7 = 0) : vp_in ((8 * x) + y) 64 := by
  obtain ⟨i, hi, rfl⟩ := rg_nat (n := 7) rfl hx
  obtain ⟨j, hj, rfl⟩ := rg_nat (n := 7) rfl hy
  have e : (8 : Int32) = nI 8 := rfl
  rw [e, pk_mul, nI_add]
  exact vp_in_nI (by omega) (by decide)
theorem late0 {n : Int32} (h : ¬ rg n 0 80 = 0) (c : n ≤ 0) : n = 0 := by
  obtain ⟨j, hj, rfl⟩ := rg_nat (n := 80) rfl h
  have h1 := Int32.le_iff_toInt_le.mp c
  rw [nI_toInt (by omega)] at h1
  have e1 : (0 : Int32).toInt = 0 := rfl
  have : j = 0 := by omega
  rw [this]; rfl
theorem rg_p0 : rg 0 0 4 = 1 := rfl
theorem rg_p1 {s : Int32} (h : ¬ s = 0) : rg s 0 4 = rg s 1 4 := by
  unfold rg
  by_cases q : 1 ≤ s
  · have q0 : (0 : Int32) ≤ s := by
      have := Int32.le_iff_toInt_le.mp q
      have e1 : (1 : Int32).toInt = 1 := rfl
      exact Int32.le_iff_toInt_le.mpr (by have e0 : (0 : Int32).toInt = 0 := rfl; omega)
    simp [q, q0]
  · have q0 : ¬ (0 : Int32) ≤ s := by
      intro z
      have z1 := Int32.le_iff_toInt_le.mp z
      have z2 := Int32.lt_iff_toInt_lt.mp (Int32.not_le.mp q)
      have e1 : (1 : Int32).toInt = 1 := rfl
      have e0 : (0 : Int32).toInt = 0 := rfl
      exact h (Int32.toInt_inj.mp (by omega))
    simp [q, q0]
section TOPS
variable {p : Program} {l : Launch} {e : Env} {R : Room} {s : State} {m : MethodId} {args : Array Value} {below : List Frame} {meth : Method} {c : Code} {H : Heap} {locs : List Loc} {cells slots : Nat} {Q : State → Prop}
variable {cc : ByteArray} {pc : Nat} {ls : Array Slot} {rest : List Value} {D : va_G} {a : Nat → Nat} {cI cZ : ClassId} {f : FF} {u : UU} {own : String} {nL : Nat}
theorem topc {x y : Int32} (h : x = y) (k : W p l e R s m args below meth c H locs cells slots Q (F0 m pc ls (.int y :: rest))) : W p l e R s m args below meth c H locs cells slots Q (F0 m pc ls (.int x :: rest)) := h ▸ k
theorem topL {x y : Int64} (h : x = y) (k : W p l e R s m args below meth c H locs cells slots Q (F0 m pc ls (.long y :: rest))) : W p l e R s m args below meth c H locs cells slots Q (F0 m pc ls (.long x :: rest)) := h ▸ k
theorem aldC {i : Int32} {n : Nat} (k j : Nat) (cx : Cx p s m args c cc own nL D cI cZ) (hw : Wd D a cI cZ s f u H locs) (ha : (wd a cI cZ f u)[k]? = some (a k, .inl (cI, n, .inl (f k)))) (hj : i.toNatClampNeg = j) (hin : ¬ (i < 0 ∨ n ≤ i.toNatClampNeg)) (hdg : decode cc pc = .ok (.iaload, 1)) (kk : W p l e R s m args below meth c H locs cells slots Q (F0 m (pc + 1) ls (.int (f k j) :: rest))) : W p l e R s m args below meth c H locs cells slots Q (F0 m pc ls (.int i :: .ref (a k) :: rest)) :=
  aldW k cx hw ha hin hdg (hj ▸ kk)
theorem astC {i x : Int32} {n : Nat} (k j : Nat) (cx : Cx p s m args c cc own nL D cI cZ) (hw : Wd D a cI cZ s f u H locs) (ha : (wd a cI cZ f u)[k]? = some (a k, .inl (cI, n, .inl (f k)))) (hs : ∀ g : Nat → Int32, (wd a cI cZ f u).set k (a k, .inl (cI, n, .inl g)) = wd a cI cZ (up f k g) u) (hj : i.toNatClampNeg = j) (hin : ¬ (i < 0 ∨ n ≤ i.toNatClampNeg)) (hdg : decode cc pc = .ok (.iastore, 1)) (kk : ∀ (H : Heap) (locs : List Loc), Wd D a cI cZ s (up f k (upd (f k) j x)) u H locs → W p l e R s m args below meth c H locs cells slots Q (F0 m (pc + 1) ls rest)) : W p l e R s m args below meth c H locs cells slots Q (F0 m pc ls (.int x :: .int i :: .ref (a k) :: rest)) :=
  astW k cx hw ha hs hin hdg (hj ▸ kk)
end TOPS
/-- the reference's cells stay -/
def KP (f g : FF) : Prop := ∀ k, 36 ≤ k → g k = f k
theorem KP.rf {f : FF} : KP f f := fun _ _ => rfl
theorem KP.up {f g : FF} {k : Nat} {h : Nat → Int32} (hk : k < 36) (q : KP f g) : KP f (up g k h) := fun j hj => by
  have e : Nat.beq j k = false := by
    cases z : Nat.beq j k with
    | false => rfl
    | true => exact absurd (Nat.eq_of_beq_eq_true z) (by omega)
  show cond (Nat.beq j k) h (g j) = f j
  rw [e]
  exact q j hj
theorem KP.tr {f g h : FF} (q : KP f g) (r : KP g h) : KP f h := fun j hj => (r j hj).trans (q j hj)
def an_empty (w m : Int32) : Int32 := if rg w 1000 100000 = 0 then -2 else if rg m 0 5000 = 0 then -2 else 0
def an_hold (m q : Int32) : Int32 := if rg m 0 20000 = 0 then -2 else if rg q 0 20000 = 0 then -2 else 0
def an_apart (x y d : Int32) : Int32 := if rg x 0 7 = 0 then -1 else if rg y 0 7 = 0 then -1 else if rg d 0 8 = 0 then -2 else 0
def an_item (w k s : Int32) : Int32 := if rg w 1 5000 = 0 then -2 else if rg k 0 7 = 0 then -1 else if rg s 1 4 = 0 then -1 else 0
def an_row (m n : Int32) : Int32 := if rg m 0 5000 = 0 then -2 else if rg n 1 8 = 0 then -2 else 0
def an_tank (m q : Int32) : Int32 := if rg m 0 5000 = 0 then -2 else if rg q 0 20000 = 0 then -2 else 0
def an_person (w : Int32) : Int32 := if rg w 50 150 = 0 then -2 else 80
def an_point (ph w lo hi : Int32) : Int32 := if rg ph 0 1 = 0 then -1 else if rg w 1 1000000 = 0 then -2 else if rg lo 0 5000 = 0 then -2 else if rg hi 0 5000 = 0 then -2 else if lo ≤ hi then 1 else -2
def an_wipe (ph : Int32) : Int32 := if rg ph 0 1 = 0 then -1 else 0
def an_weight (w : Int32) : Int32 := if w = 0 then 1000 else if w = 1 then 1000 else if w = 2 then 0 else -1
def an_moment (w : Int32) : Int64 := if w = 0 then 0 else if w = 1 then 0 else if w = 2 then 0 else -9223372036854775808
def an_burnt (b w : Int32) : Int64 := if rg b 0 0 = 0 then -9223372036854775808 else if w = 0 then 0 else if w = 1 then (1000 - b).toInt64 else -9223372036854775808
def an_within (ph : Int32) : Int32 := if rg ph 0 1 = 0 then -1 else -3
def an_safe (n : Int32) : Int32 := if 0 ≤ n then -3 else -2
def an_pushed (s : Int32) : Int32 := if rg s 0 4 = 0 then -1 else 0
def an_arrive (s : Int32) : Int32 := if rg s 1 4 = 0 then -1 else 0
def an_arm (m : Int32) : Int32 := if rg m 0 5000 = 0 then -2 else 0
def an_best (m : Int32) : Int32 := if rg m 0 5000 = 0 then -2 else -3
def an_late (n m : Int32) : Int32 := if rg n 0 80 = 0 then -2 else if rg m 0 5000 = 0 then -2 else 0
def an_count (w : Int32) : Int32 := if w = 0 then 0 else if w = 1 then 0 else if w = 2 then 0 else if w = 3 then 0 else if w = 4 then 0 else if w = 5 then 0 else if w = 6 then 0 else if w = 7 then 80 else -1
