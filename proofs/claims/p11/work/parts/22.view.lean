def vC (f : FF) : FF := fun k => match k with
  | 0 => fun j => match j with
    | 0 => f 1 3
    | 1 => f 1 12
    | 2 => f 2 3
    | 3 => f 3 3
    | 4 => f 2 4
    | _ => 0
  | 1 => f 20
  | 2 => f 25
  | 3 => f 26
  | _ => fun _ => 0
theorem vC_s_1_3 {f : FF} {x : Int32} : vC (up f 1 (upd (f 1) 3 x)) = up (vC f) 0 (upd (vC f 0) 0 x) := by
  funext k
  match k with
  | 0 =>
    funext j
    match j with
    | 0 => rfl
    | 1 => rfl
    | 2 => rfl
    | 3 => rfl
    | 4 => rfl
    | n + 5 => rfl
  | 1 => rfl
  | 2 => rfl
  | 3 => rfl
  | n + 4 => rfl
theorem vC_s_1_12 {f : FF} {x : Int32} : vC (up f 1 (upd (f 1) 12 x)) = up (vC f) 0 (upd (vC f 0) 1 x) := by
  funext k
  match k with
  | 0 =>
    funext j
    match j with
    | 0 => rfl
    | 1 => rfl
    | 2 => rfl
    | 3 => rfl
    | 4 => rfl
    | n + 5 => rfl
  | 1 => rfl
  | 2 => rfl
  | 3 => rfl
  | n + 4 => rfl
theorem vC_s_2_3 {f : FF} {x : Int32} : vC (up f 2 (upd (f 2) 3 x)) = up (vC f) 0 (upd (vC f 0) 2 x) := by
  funext k
  match k with
  | 0 =>
    funext j
    match j with
    | 0 => rfl
    | 1 => rfl
    | 2 => rfl
    | 3 => rfl
    | 4 => rfl
    | n + 5 => rfl
  | 1 => rfl
  | 2 => rfl
  | 3 => rfl
  | n + 4 => rfl
theorem vC_s_3_3 {f : FF} {x : Int32} : vC (up f 3 (upd (f 3) 3 x)) = up (vC f) 0 (upd (vC f 0) 3 x) := by
  funext k
  match k with
  | 0 =>
    funext j
    match j with
    | 0 => rfl
    | 1 => rfl
    | 2 => rfl
    | 3 => rfl
    | 4 => rfl
    | n + 5 => rfl
  | 1 => rfl
  | 2 => rfl
  | 3 => rfl
  | n + 4 => rfl
theorem vC_s_2_4 {f : FF} {x : Int32} : vC (up f 2 (upd (f 2) 4 x)) = up (vC f) 0 (upd (vC f 0) 4 x) := by
  funext k
  match k with
  | 0 =>
    funext j
    match j with
    | 0 => rfl
    | 1 => rfl
    | 2 => rfl
    | 3 => rfl
    | 4 => rfl
    | n + 5 => rfl
  | 1 => rfl
  | 2 => rfl
  | 3 => rfl
  | n + 4 => rfl
theorem vC_a_20 {f : FF} {g : Nat → Int32} : vC (up f 20 g) = up (vC f) 1 g := by
  funext k
  match k with
  | 0 =>
    funext j
    match j with
    | 0 => rfl
    | 1 => rfl
    | 2 => rfl
    | 3 => rfl
    | 4 => rfl
    | n + 5 => rfl
  | 1 => rfl
  | 2 => rfl
  | 3 => rfl
  | n + 4 => rfl
theorem vC_a_25 {f : FF} {g : Nat → Int32} : vC (up f 25 g) = up (vC f) 2 g := by
  funext k
  match k with
  | 0 =>
    funext j
    match j with
    | 0 => rfl
    | 1 => rfl
    | 2 => rfl
    | 3 => rfl
    | 4 => rfl
    | n + 5 => rfl
  | 1 => rfl
  | 2 => rfl
  | 3 => rfl
  | n + 4 => rfl
theorem vC_a_26 {f : FF} {g : Nat → Int32} : vC (up f 26 g) = up (vC f) 3 g := by
  funext k
  match k with
  | 0 =>
    funext j
    match j with
    | 0 => rfl
    | 1 => rfl
    | 2 => rfl
    | 3 => rfl
    | 4 => rfl
    | n + 5 => rfl
  | 1 => rfl
  | 2 => rfl
  | 3 => rfl
  | n + 4 => rfl
theorem vC_of {f g : FF} (h1 : g 1 = f 1) (h2 : g 2 = f 2) (h3 : g 3 = f 3) (h20 : g 20 = f 20) (h25 : g 25 = f 25) (h26 : g 26 = f 26) : vC g = vC f := by
  unfold vC
  rw [h1, h2, h3, h20, h25, h26]
theorem vC_KK {S : List Nat} {f g : FF} (h : KK S f g) (z : [1, 2, 3, 20, 25, 26].all (fun k => S.contains k == false) = true) : vC g = vC f := by
  simp only [List.all_cons, List.all_nil, Bool.and_true, Bool.and_eq_true, beq_iff_eq] at z
  exact vC_of (h.1 1 z.1) (h.1 2 z.2.1) (h.1 3 z.2.2.1) (h.1 20 z.2.2.2.1) (h.1 25 z.2.2.2.2.1) (h.1 26 z.2.2.2.2.2)
def vM (f : FF) : FF := fun k => match k with
  | 0 => fun j => match j with
    | 0 => f 36 3
    | 1 => f 36 11
    | 2 => f 36 16
    | 3 => f 36 20
    | 4 => f 36 24
    | _ => 0
  | 1 => f 43
  | 2 => f 52
  | 3 => f 53
  | _ => fun _ => 0
theorem vM_s_36_3 {f : FF} {x : Int32} : vM (up f 36 (upd (f 36) 3 x)) = up (vM f) 0 (upd (vM f 0) 0 x) := by
  funext k
  match k with
  | 0 =>
    funext j
    match j with
    | 0 => rfl
    | 1 => rfl
    | 2 => rfl
    | 3 => rfl
    | 4 => rfl
    | n + 5 => rfl
  | 1 => rfl
  | 2 => rfl
  | 3 => rfl
  | n + 4 => rfl
theorem vM_s_36_11 {f : FF} {x : Int32} : vM (up f 36 (upd (f 36) 11 x)) = up (vM f) 0 (upd (vM f 0) 1 x) := by
  funext k
  match k with
  | 0 =>
    funext j
    match j with
    | 0 => rfl
    | 1 => rfl
    | 2 => rfl
    | 3 => rfl
    | 4 => rfl
    | n + 5 => rfl
  | 1 => rfl
  | 2 => rfl
  | 3 => rfl
  | n + 4 => rfl
theorem vM_s_36_16 {f : FF} {x : Int32} : vM (up f 36 (upd (f 36) 16 x)) = up (vM f) 0 (upd (vM f 0) 2 x) := by
  funext k
  match k with
  | 0 =>
    funext j
    match j with
    | 0 => rfl
    | 1 => rfl
    | 2 => rfl
    | 3 => rfl
    | 4 => rfl
    | n + 5 => rfl
  | 1 => rfl
  | 2 => rfl
  | 3 => rfl
  | n + 4 => rfl
theorem vM_s_36_20 {f : FF} {x : Int32} : vM (up f 36 (upd (f 36) 20 x)) = up (vM f) 0 (upd (vM f 0) 3 x) := by
  funext k
  match k with
  | 0 =>
    funext j
    match j with
    | 0 => rfl
    | 1 => rfl
    | 2 => rfl
    | 3 => rfl
    | 4 => rfl
    | n + 5 => rfl
  | 1 => rfl
  | 2 => rfl
  | 3 => rfl
  | n + 4 => rfl
theorem vM_s_36_24 {f : FF} {x : Int32} : vM (up f 36 (upd (f 36) 24 x)) = up (vM f) 0 (upd (vM f 0) 4 x) := by
  funext k
  match k with
  | 0 =>
    funext j
    match j with
    | 0 => rfl
    | 1 => rfl
    | 2 => rfl
    | 3 => rfl
    | 4 => rfl
    | n + 5 => rfl
  | 1 => rfl
  | 2 => rfl
  | 3 => rfl
  | n + 4 => rfl
theorem vM_a_43 {f : FF} {g : Nat → Int32} : vM (up f 43 g) = up (vM f) 1 g := by
  funext k
  match k with
  | 0 =>
    funext j
    match j with
    | 0 => rfl
    | 1 => rfl
    | 2 => rfl
    | 3 => rfl
    | 4 => rfl
    | n + 5 => rfl
  | 1 => rfl
  | 2 => rfl
  | 3 => rfl
  | n + 4 => rfl
theorem vM_a_52 {f : FF} {g : Nat → Int32} : vM (up f 52 g) = up (vM f) 2 g := by
  funext k
  match k with
  | 0 =>
    funext j
    match j with
    | 0 => rfl
    | 1 => rfl
    | 2 => rfl
    | 3 => rfl
    | 4 => rfl
    | n + 5 => rfl
  | 1 => rfl
  | 2 => rfl
  | 3 => rfl
  | n + 4 => rfl
theorem vM_a_53 {f : FF} {g : Nat → Int32} : vM (up f 53 g) = up (vM f) 3 g := by
  funext k
  match k with
  | 0 =>
    funext j
    match j with
    | 0 => rfl
    | 1 => rfl
    | 2 => rfl
    | 3 => rfl
    | 4 => rfl
    | n + 5 => rfl
  | 1 => rfl
  | 2 => rfl
  | 3 => rfl
  | n + 4 => rfl
theorem vM_of {f g : FF} (s3 : g 36 3 = f 36 3) (s11 : g 36 11 = f 36 11) (s16 : g 36 16 = f 36 16) (s20 : g 36 20 = f 36 20) (s24 : g 36 24 = f 36 24) (h43 : g 43 = f 43) (h52 : g 52 = f 52) (h53 : g 53 = f 53) : vM g = vM f := by
  unfold vM
  rw [s3, s11, s16, s20, s24, h43, h52, h53]
theorem vM_KK {S : List Nat} {f g : FF} (h : KK S f g) (z : [43, 52, 53].all (fun k => S.contains k == false) = true) : vM g = vM f := by
  simp only [List.all_cons, List.all_nil, Bool.and_true, Bool.and_eq_true, beq_iff_eq] at z
  exact vM_of (h.2 3 rfl) (h.2 11 rfl) (h.2 16 rfl) (h.2 20 rfl) (h.2 24 rfl) (h.1 43 z.1) (h.1 52 z.2.1) (h.1 53 z.2.2)
def KQ (f g : FF) : Prop := ∀ k, k < 36 → g k = f k
theorem KQ.rf {f : FF} : KQ f f := fun _ _ => rfl
theorem KQ.wr {f g : FF} {k : Nat} {h : Nat → Int32} (hk : 36 ≤ k) (q : KQ f g) : KQ f (up g k h) := fun j hj => by
  rw [up_ne (by omega)]; exact q j hj
theorem KQ.tr {f g h : FF} (q : KQ f g) (r : KQ g h) : KQ f h := fun j hj => (r j hj).trans (q j hj)
theorem KP_KK {S : List Nat} {f g : FF} (h : KK S f g) (z : S.all (fun k => decide (k < 36)) = true) : KP f g := fun k hk => h.1 k (by
  cases q : S.contains k with
  | false => rfl
  | true =>
    have h1 := List.all_eq_true.mp z k (by simpa using q)
    have h2 := of_decide_eq_true h1
    omega)
theorem KQ_KK {S : List Nat} {f g : FF} (h : KK S f g) (z : S.all (fun k => decide (36 ≤ k)) = true) : KQ f g := fun k hk => h.1 k (by
  cases q : S.contains k with
  | false => rfl
  | true =>
    have h1 := List.all_eq_true.mp z k (by simpa using q)
    have h2 := of_decide_eq_true h1
    omega)
theorem vM_KP {f g : FF} (h : KP f g) : vM g = vM f := vM_of (congrFun (h 36 (by decide)) 3) (congrFun (h 36 (by decide)) 11) (congrFun (h 36 (by decide)) 16) (congrFun (h 36 (by decide)) 20) (congrFun (h 36 (by decide)) 24) (h 43 (by decide)) (h 52 (by decide)) (h 53 (by decide))
theorem vC_KQ {f g : FF} (h : KQ f g) : vC g = vC f := vC_of (h 1 (by decide)) (h 2 (by decide)) (h 3 (by decide)) (h 20 (by decide)) (h 25 (by decide)) (h 26 (by decide))
/-- both sides show the same -/
def Cp (f : FF) : Prop := vC f = vM f
def JJ (f : FF) : Prop := IV f ∧ Cp f
def S_cnt (j : Nat) (n : Int32) (v : FF) : Int32 × FF := if v 0 j = n then (-4, v) else (v 0 j, up v 0 (upd (v 0) j (v 0 j + 1)))
def S_hold (mo fl : Int32) (v : FF) : Int32 × FF := if rg mo 0 20000 = 0 then (-2, v) else if rg fl 0 20000 = 0 then (-2, v) else S_cnt 0 4 v
def S_item (we ki sp : Int32) (v : FF) : Int32 × FF := if rg we 1 5000 = 0 then (-2, v) else if rg ki 0 7 = 0 then (-1, v) else if rg sp 1 4 = 0 then (-1, v) else S_cnt 1 40 v
def S_row (ar n : Int32) (v : FF) : Int32 × FF := if rg ar 0 5000 = 0 then (-2, v) else if rg n 1 8 = 0 then (-2, v) else S_cnt 2 10 v
def S_tk (mo : Int32) (v : FF) : Int32 × FF := if v 0 3 = 4 then (-4, v) else (v 0 3, up (up v 2 (upd (v 2) (v 0 3).toNatClampNeg mo)) 0 (upd (v 0) 3 (v 0 3 + 1)))
def S_tank (ar mo : Int32) (v : FF) : Int32 × FF := if rg ar 0 5000 = 0 then (-2, v) else if rg mo 0 20000 = 0 then (-2, v) else S_tk mo v
def S_person (we : Int32) (v : FF) : Int32 × FF := if rg we 50 150 = 0 then (-2, v) else (v 0 4, up v 0 (upd (v 0) 4 we))
def S_ap (x y : Nat) (d : Int32) (v : FF) : Int32 × FF := (v 1 (x * 8 + y), up (up v 1 (upd (v 1) (x * 8 + y) d)) 1 (upd (upd (v 1) (x * 8 + y) d) (y * 8 + x) d))
def S_apart (x y d : Int32) (v : FF) : Int32 × FF := if rg x 0 7 = 0 then (-1, v) else if rg y 0 7 = 0 then (-1, v) else if rg d 0 8 = 0 then (-2, v) else S_ap x.toNatClampNeg y.toNatClampNeg d v
def S_fuel (tn am : Int32) (v : FF) : Int32 × FF := if rg tn 0 (v 0 3 - 1) = 0 then (-1, v) else if rg am 0 (v 2 tn.toNatClampNeg) = 0 then (-2, v) else (v 3 tn.toNatClampNeg, up v 3 (upd (v 3) tn.toNatClampNeg am))
theorem S_cnt_f {j n : Nat} {N : Int32} {v : FF} {k : Nat} (e : v 0 j = nI k) (hk : k < 2 ^ 31) (hn : nI n = N) (h : k = n) : S_cnt j N v = (-4, v) := by
  unfold S_cnt; rw [if_pos (by rw [e, h, hn])]
theorem S_cnt_n {j n : Nat} {N : Int32} {v : FF} {k : Nat} (e : v 0 j = nI k) (hk : k < 2 ^ 31) (h2 : n < 2 ^ 31) (hn : nI n = N) (h : k ≠ n) : S_cnt j N v = (nI k, up v 0 (upd (v 0) j (nI (k + 1)))) := by
  unfold S_cnt; rw [if_neg (fun z => h (nI_inj hk h2 (by rw [← e, z, hn]))), e, nI_1]
theorem S_tk_f {v : FF} {mo : Int32} {k : Nat} (e : v 0 3 = nI k) (h : k = 4) : S_tk mo v = (-4, v) := by
  unfold S_tk; rw [if_pos (by rw [e, h]; rfl)]
theorem S_tk_n {v : FF} {mo : Int32} {k : Nat} (e : v 0 3 = nI k) (hk : k < 2 ^ 31) (h : k ≠ 4) : S_tk mo v = (nI k, up (up v 2 (upd (v 2) k mo)) 0 (upd (v 0) 3 (nI (k + 1)))) := by
  unfold S_tk; rw [if_neg (fun z => h (nI_inj (b := 4) hk (by omega) (by rw [← e, z]; rfl))), e, nI_1, nI_clamp hk]
