def vC (f : FF) : FF := fun k => match k with
  | 0 => fun j => match j with
    | 0 => f 1 3
    | 1 => f 1 12
    | 2 => f 2 3
    | 3 => f 3 3
    | 4 => f 2 4
    | _ => 0
  | 1 => f 20
  | 2 => f 25
  | 3 => f 26
  | 4 => fun j => match j with
    | 0 => f 4 3
    | 1 => f 5 3
    | _ => 0
  | 5 => fun i => if i < 10 then f 27 i else 0
  | 6 => fun i => if i < 10 then f 30 i else 0
  | 7 => f 11
  | 8 => f 12
  | _ => fun _ => 0
theorem vC_s_1_3 {f : FF} {x : Int32} : vC (up f 1 (upd (f 1) 3 x)) = up (vC f) 0 (upd (vC f 0) 0 x) := by
  funext k
  match k with
  | 0 =>
    funext j
    match j with
    | 0 => rfl
    | 1 => rfl
    | 2 => rfl
    | 3 => rfl
    | 4 => rfl
    | n + 5 => rfl
  | 1 => rfl
  | 2 => rfl
  | 3 => rfl
  | 4 =>
    funext j
    match j with
    | 0 => rfl
    | 1 => rfl
    | n + 2 => rfl
  | 5 => rfl
  | 6 => rfl
  | 7 => rfl
  | 8 => rfl
  | n + 9 => rfl
theorem vC_s_1_12 {f : FF} {x : Int32} : vC (up f 1 (upd (f 1) 12 x)) = up (vC f) 0 (upd (vC f 0) 1 x) := by
  funext k
  match k with
  | 0 =>
    funext j
    match j with
    | 0 => rfl
    | 1 => rfl
    | 2 => rfl
    | 3 => rfl
    | 4 => rfl
    | n + 5 => rfl
  | 1 => rfl
  | 2 => rfl
  | 3 => rfl
  | 4 =>
    funext j
    match j with
    | 0 => rfl
    | 1 => rfl
    | n + 2 => rfl
  | 5 => rfl
  | 6 => rfl
  | 7 => rfl
  | 8 => rfl
  | n + 9 => rfl
theorem vC_s_2_3 {f : FF} {x : Int32} : vC (up f 2 (upd (f 2) 3 x)) = up (vC f) 0 (upd (vC f 0) 2 x) := by
  funext k
  match k with
  | 0 =>
    funext j
    match j with
    | 0 => rfl
    | 1 => rfl
    | 2 => rfl
    | 3 => rfl
    | 4 => rfl
    | n + 5 => rfl
  | 1 => rfl
  | 2 => rfl
  | 3 => rfl
  | 4 =>
    funext j
    match j with
    | 0 => rfl
    | 1 => rfl
    | n + 2 => rfl
  | 5 => rfl
  | 6 => rfl
  | 7 => rfl
  | 8 => rfl
  | n + 9 => rfl
theorem vC_s_3_3 {f : FF} {x : Int32} : vC (up f 3 (upd (f 3) 3 x)) = up (vC f) 0 (upd (vC f 0) 3 x) := by
  funext k
  match k with
  | 0 =>
    funext j
    match j with
    | 0 => rfl
    | 1 => rfl
    | 2 => rfl
    | 3 => rfl
    | 4 => rfl
    | n + 5 => rfl
  | 1 => rfl
  | 2 => rfl
  | 3 => rfl
  | 4 =>
    funext j
    match j with
    | 0 => rfl
    | 1 => rfl
    | n + 2 => rfl
  | 5 => rfl
  | 6 => rfl
  | 7 => rfl
  | 8 => rfl
  | n + 9 => rfl
theorem vC_s_2_4 {f : FF} {x : Int32} : vC (up f 2 (upd (f 2) 4 x)) = up (vC f) 0 (upd (vC f 0) 4 x) := by
  funext k
  match k with
  | 0 =>
    funext j
    match j with
    | 0 => rfl
    | 1 => rfl
    | 2 => rfl
    | 3 => rfl
    | 4 => rfl
    | n + 5 => rfl
  | 1 => rfl
  | 2 => rfl
  | 3 => rfl
  | 4 =>
    funext j
    match j with
    | 0 => rfl
    | 1 => rfl
    | n + 2 => rfl
  | 5 => rfl
  | 6 => rfl
  | 7 => rfl
  | 8 => rfl
  | n + 9 => rfl
theorem vC_s_4_3 {f : FF} {x : Int32} : vC (up f 4 (upd (f 4) 3 x)) = up (vC f) 4 (upd (vC f 4) 0 x) := by
  funext k
  match k with
  | 0 =>
    funext j
    match j with
    | 0 => rfl
    | 1 => rfl
    | 2 => rfl
    | 3 => rfl
    | 4 => rfl
    | n + 5 => rfl
  | 1 => rfl
  | 2 => rfl
  | 3 => rfl
  | 4 =>
    funext j
    match j with
    | 0 => rfl
    | 1 => rfl
    | n + 2 => rfl
  | 5 => rfl
  | 6 => rfl
  | 7 => rfl
  | 8 => rfl
  | n + 9 => rfl
theorem vC_s_5_3 {f : FF} {x : Int32} : vC (up f 5 (upd (f 5) 3 x)) = up (vC f) 4 (upd (vC f 4) 1 x) := by
  funext k
  match k with
  | 0 =>
    funext j
    match j with
    | 0 => rfl
    | 1 => rfl
    | 2 => rfl
    | 3 => rfl
    | 4 => rfl
    | n + 5 => rfl
  | 1 => rfl
  | 2 => rfl
  | 3 => rfl
  | 4 =>
    funext j
    match j with
    | 0 => rfl
    | 1 => rfl
    | n + 2 => rfl
  | 5 => rfl
  | 6 => rfl
  | 7 => rfl
  | 8 => rfl
  | n + 9 => rfl
theorem vC_a_20 {f : FF} {g : Nat → Int32} : vC (up f 20 g) = up (vC f) 1 g := by
  funext k
  match k with
  | 0 =>
    funext j
    match j with
    | 0 => rfl
    | 1 => rfl
    | 2 => rfl
    | 3 => rfl
    | 4 => rfl
    | n + 5 => rfl
  | 1 => rfl
  | 2 => rfl
  | 3 => rfl
  | 4 =>
    funext j
    match j with
    | 0 => rfl
    | 1 => rfl
    | n + 2 => rfl
  | 5 => rfl
  | 6 => rfl
  | 7 => rfl
  | 8 => rfl
  | n + 9 => rfl
theorem vC_a_25 {f : FF} {g : Nat → Int32} : vC (up f 25 g) = up (vC f) 2 g := by
  funext k
  match k with
  | 0 =>
    funext j
    match j with
    | 0 => rfl
    | 1 => rfl
    | 2 => rfl
    | 3 => rfl
    | 4 => rfl
    | n + 5 => rfl
  | 1 => rfl
  | 2 => rfl
  | 3 => rfl
  | 4 =>
    funext j
    match j with
    | 0 => rfl
    | 1 => rfl
    | n + 2 => rfl
  | 5 => rfl
  | 6 => rfl
  | 7 => rfl
  | 8 => rfl
  | n + 9 => rfl
theorem vC_a_26 {f : FF} {g : Nat → Int32} : vC (up f 26 g) = up (vC f) 3 g := by
  funext k
  match k with
  | 0 =>
    funext j
    match j with
    | 0 => rfl
    | 1 => rfl
    | 2 => rfl
    | 3 => rfl
    | 4 => rfl
    | n + 5 => rfl
  | 1 => rfl
  | 2 => rfl
  | 3 => rfl
  | 4 =>
    funext j
    match j with
    | 0 => rfl
    | 1 => rfl
    | n + 2 => rfl
  | 5 => rfl
  | 6 => rfl
  | 7 => rfl
  | 8 => rfl
  | n + 9 => rfl
theorem vC_a_11 {f : FF} {g : Nat → Int32} : vC (up f 11 g) = up (vC f) 7 g := by
  funext k
  match k with
  | 0 =>
    funext j
    match j with
    | 0 => rfl
    | 1 => rfl
    | 2 => rfl
    | 3 => rfl
    | 4 => rfl
    | n + 5 => rfl
  | 1 => rfl
  | 2 => rfl
  | 3 => rfl
  | 4 =>
    funext j
    match j with
    | 0 => rfl
    | 1 => rfl
    | n + 2 => rfl
  | 5 => rfl
  | 6 => rfl
  | 7 => rfl
  | 8 => rfl
  | n + 9 => rfl
theorem vC_a_12 {f : FF} {g : Nat → Int32} : vC (up f 12 g) = up (vC f) 8 g := by
  funext k
  match k with
  | 0 =>
    funext j
    match j with
    | 0 => rfl
    | 1 => rfl
    | 2 => rfl
    | 3 => rfl
    | 4 => rfl
    | n + 5 => rfl
  | 1 => rfl
  | 2 => rfl
  | 3 => rfl
  | 4 =>
    funext j
    match j with
    | 0 => rfl
    | 1 => rfl
    | n + 2 => rfl
  | 5 => rfl
  | 6 => rfl
  | 7 => rfl
  | 8 => rfl
  | n + 9 => rfl
theorem vC_w_27 {f : FF} {i : Nat} {x : Int32} (hi : i < 10) : vC (up f 27 (upd (f 27) i x)) = up (vC f) 5 (upd (vC f 5) i x) := by
  funext k
  match k with
  | 0 =>
    funext j
    match j with
    | 0 => rfl
    | 1 => rfl
    | 2 => rfl
    | 3 => rfl
    | 4 => rfl
    | n + 5 => rfl
  | 1 => rfl
  | 2 => rfl
  | 3 => rfl
  | 4 =>
    funext j
    match j with
    | 0 => rfl
    | 1 => rfl
    | n + 2 => rfl
  | 5 =>
    funext j
    show (if j < 10 then upd (f 27) i x j else 0) = upd (fun i => if i < 10 then f 27 i else 0) i x j
    by_cases e : j = i
    · subst e; rw [pk_us, pk_us, if_pos hi]
    · rw [pk_un e, pk_un e]
  | 6 => rfl
  | 7 => rfl
  | 8 => rfl
  | n + 9 => rfl
theorem vC_w_30 {f : FF} {i : Nat} {x : Int32} (hi : i < 10) : vC (up f 30 (upd (f 30) i x)) = up (vC f) 6 (upd (vC f 6) i x) := by
  funext k
  match k with
  | 0 =>
    funext j
    match j with
    | 0 => rfl
    | 1 => rfl
    | 2 => rfl
    | 3 => rfl
    | 4 => rfl
    | n + 5 => rfl
  | 1 => rfl
  | 2 => rfl
  | 3 => rfl
  | 4 =>
    funext j
    match j with
    | 0 => rfl
    | 1 => rfl
    | n + 2 => rfl
  | 5 => rfl
  | 6 =>
    funext j
    show (if j < 10 then upd (f 30) i x j else 0) = upd (fun i => if i < 10 then f 30 i else 0) i x j
    by_cases e : j = i
    · subst e; rw [pk_us, pk_us, if_pos hi]
    · rw [pk_un e, pk_un e]
  | 7 => rfl
  | 8 => rfl
  | n + 9 => rfl
def vM (f : FF) : FF := fun k => match k with
  | 0 => fun j => match j with
    | 0 => f 36 3
    | 1 => f 36 11
    | 2 => f 36 16
    | 3 => f 36 20
    | 4 => f 36 24
    | _ => 0
  | 1 => f 43
  | 2 => f 52
  | 3 => f 53
  | 4 => fun j => match j with
    | 0 => f 54 0
    | 1 => f 54 1
    | _ => 0
  | 5 => fun i => if i < 10 then f 55 i else 0
  | 6 => fun i => if i < 10 then f 55 (10 + i) else 0
  | 7 => f 39
  | 8 => f 40
  | _ => fun _ => 0
theorem vM_s_36_3 {f : FF} {x : Int32} : vM (up f 36 (upd (f 36) 3 x)) = up (vM f) 0 (upd (vM f 0) 0 x) := by
  funext k
  match k with
  | 0 =>
    funext j
    match j with
    | 0 => rfl
    | 1 => rfl
    | 2 => rfl
    | 3 => rfl
    | 4 => rfl
    | n + 5 => rfl
  | 1 => rfl
  | 2 => rfl
  | 3 => rfl
  | 4 =>
    funext j
    match j with
    | 0 => rfl
    | 1 => rfl
    | n + 2 => rfl
  | 5 => rfl
  | 6 => rfl
  | 7 => rfl
  | 8 => rfl
  | n + 9 => rfl
theorem vM_s_36_11 {f : FF} {x : Int32} : vM (up f 36 (upd (f 36) 11 x)) = up (vM f) 0 (upd (vM f 0) 1 x) := by
  funext k
  match k with
  | 0 =>
    funext j
    match j with
    | 0 => rfl
    | 1 => rfl
    | 2 => rfl
    | 3 => rfl
    | 4 => rfl
    | n + 5 => rfl
  | 1 => rfl
  | 2 => rfl
  | 3 => rfl
  | 4 =>
    funext j
    match j with
    | 0 => rfl
    | 1 => rfl
    | n + 2 => rfl
  | 5 => rfl
  | 6 => rfl
  | 7 => rfl
  | 8 => rfl
  | n + 9 => rfl
theorem vM_s_36_16 {f : FF} {x : Int32} : vM (up f 36 (upd (f 36) 16 x)) = up (vM f) 0 (upd (vM f 0) 2 x) := by
  funext k
  match k with
  | 0 =>
    funext j
    match j with
    | 0 => rfl
    | 1 => rfl
    | 2 => rfl
    | 3 => rfl
    | 4 => rfl
    | n + 5 => rfl
  | 1 => rfl
  | 2 => rfl
  | 3 => rfl
  | 4 =>
    funext j
    match j with
    | 0 => rfl
    | 1 => rfl
    | n + 2 => rfl
  | 5 => rfl
  | 6 => rfl
  | 7 => rfl
  | 8 => rfl
  | n + 9 => rfl
theorem vM_s_36_20 {f : FF} {x : Int32} : vM (up f 36 (upd (f 36) 20 x)) = up (vM f) 0 (upd (vM f 0) 3 x) := by
  funext k
  match k with
  | 0 =>
    funext j
    match j with
    | 0 => rfl
    | 1 => rfl
    | 2 => rfl
    | 3 => rfl
    | 4 => rfl
    | n + 5 => rfl
  | 1 => rfl
  | 2 => rfl
  | 3 => rfl
  | 4 =>
    funext j
    match j with
    | 0 => rfl
    | 1 => rfl
    | n + 2 => rfl
  | 5 => rfl
  | 6 => rfl
  | 7 => rfl
  | 8 => rfl
  | n + 9 => rfl
theorem vM_s_36_24 {f : FF} {x : Int32} : vM (up f 36 (upd (f 36) 24 x)) = up (vM f) 0 (upd (vM f 0) 4 x) := by
  funext k
  match k with
  | 0 =>
    funext j
    match j with
    | 0 => rfl
    | 1 => rfl
    | 2 => rfl
    | 3 => rfl
    | 4 => rfl
    | n + 5 => rfl
  | 1 => rfl
  | 2 => rfl
  | 3 => rfl
  | 4 =>
    funext j
    match j with
    | 0 => rfl
    | 1 => rfl
    | n + 2 => rfl
  | 5 => rfl
  | 6 => rfl
  | 7 => rfl
  | 8 => rfl
  | n + 9 => rfl
theorem vM_a_43 {f : FF} {g : Nat → Int32} : vM (up f 43 g) = up (vM f) 1 g := by
  funext k
  match k with
  | 0 =>
    funext j
    match j with
    | 0 => rfl
    | 1 => rfl
    | 2 => rfl
    | 3 => rfl
    | 4 => rfl
    | n + 5 => rfl
  | 1 => rfl
  | 2 => rfl
  | 3 => rfl
  | 4 =>
    funext j
    match j with
    | 0 => rfl
    | 1 => rfl
    | n + 2 => rfl
  | 5 => rfl
  | 6 => rfl
  | 7 => rfl
  | 8 => rfl
  | n + 9 => rfl
theorem vM_a_52 {f : FF} {g : Nat → Int32} : vM (up f 52 g) = up (vM f) 2 g := by
  funext k
  match k with
  | 0 =>
    funext j
    match j with
    | 0 => rfl
    | 1 => rfl
    | 2 => rfl
    | 3 => rfl
    | 4 => rfl
    | n + 5 => rfl
  | 1 => rfl
  | 2 => rfl
  | 3 => rfl
  | 4 =>
    funext j
    match j with
    | 0 => rfl
    | 1 => rfl
    | n + 2 => rfl
  | 5 => rfl
  | 6 => rfl
  | 7 => rfl
  | 8 => rfl
  | n + 9 => rfl
theorem vM_a_53 {f : FF} {g : Nat → Int32} : vM (up f 53 g) = up (vM f) 3 g := by
  funext k
  match k with
  | 0 =>
    funext j
    match j with
    | 0 => rfl
    | 1 => rfl
    | 2 => rfl
    | 3 => rfl
    | 4 => rfl
    | n + 5 => rfl
  | 1 => rfl
  | 2 => rfl
  | 3 => rfl
  | 4 =>
    funext j
    match j with
    | 0 => rfl
    | 1 => rfl
    | n + 2 => rfl
  | 5 => rfl
  | 6 => rfl
  | 7 => rfl
  | 8 => rfl
  | n + 9 => rfl
theorem vM_a_39 {f : FF} {g : Nat → Int32} : vM (up f 39 g) = up (vM f) 7 g := by
  funext k
  match k with
  | 0 =>
    funext j
    match j with
    | 0 => rfl
    | 1 => rfl
    | 2 => rfl
    | 3 => rfl
    | 4 => rfl
    | n + 5 => rfl
  | 1 => rfl
  | 2 => rfl
  | 3 => rfl
  | 4 =>
    funext j
    match j with
    | 0 => rfl
    | 1 => rfl
    | n + 2 => rfl
  | 5 => rfl
  | 6 => rfl
  | 7 => rfl
  | 8 => rfl
  | n + 9 => rfl
theorem vM_a_40 {f : FF} {g : Nat → Int32} : vM (up f 40 g) = up (vM f) 8 g := by
  funext k
  match k with
  | 0 =>
    funext j
    match j with
    | 0 => rfl
    | 1 => rfl
    | 2 => rfl
    | 3 => rfl
    | 4 => rfl
    | n + 5 => rfl
  | 1 => rfl
  | 2 => rfl
  | 3 => rfl
  | 4 =>
    funext j
    match j with
    | 0 => rfl
    | 1 => rfl
    | n + 2 => rfl
  | 5 => rfl
  | 6 => rfl
  | 7 => rfl
  | 8 => rfl
  | n + 9 => rfl
theorem vM_p_0 {f : FF} {x : Int32} : vM (up f 54 (upd (f 54) 0 x)) = up (vM f) 4 (upd (vM f 4) 0 x) := by
  funext k
  match k with
  | 0 =>
    funext j
    match j with
    | 0 => rfl
    | 1 => rfl
    | 2 => rfl
    | 3 => rfl
    | 4 => rfl
    | n + 5 => rfl
  | 1 => rfl
  | 2 => rfl
  | 3 => rfl
  | 4 =>
    funext j
    match j with
    | 0 => rfl
    | 1 => rfl
    | n + 2 => rfl
  | 5 => rfl
  | 6 => rfl
  | 7 => rfl
  | 8 => rfl
  | n + 9 => rfl
theorem vM_p_1 {f : FF} {x : Int32} : vM (up f 54 (upd (f 54) 1 x)) = up (vM f) 4 (upd (vM f 4) 1 x) := by
  funext k
  match k with
  | 0 =>
    funext j
    match j with
    | 0 => rfl
    | 1 => rfl
    | 2 => rfl
    | 3 => rfl
    | 4 => rfl
    | n + 5 => rfl
  | 1 => rfl
  | 2 => rfl
  | 3 => rfl
  | 4 =>
    funext j
    match j with
    | 0 => rfl
    | 1 => rfl
    | n + 2 => rfl
  | 5 => rfl
  | 6 => rfl
  | 7 => rfl
  | 8 => rfl
  | n + 9 => rfl
theorem vM_w_0 {f : FF} {i : Nat} {x : Int32} (hi : i < 10) : vM (up f 55 (upd (f 55) i x)) = up (vM f) 5 (upd (vM f 5) i x) := by
  funext k
  match k with
  | 0 =>
    funext j
    match j with
    | 0 => rfl
    | 1 => rfl
    | 2 => rfl
    | 3 => rfl
    | 4 => rfl
    | n + 5 => rfl
  | 1 => rfl
  | 2 => rfl
  | 3 => rfl
  | 4 =>
    funext j
    match j with
    | 0 => rfl
    | 1 => rfl
    | n + 2 => rfl
  | 5 =>
    funext j
    show (if j < 10 then upd (f 55) i x j else 0) = upd (fun i => if i < 10 then f 55 i else 0) i x j
    by_cases e : j = i
    · subst e; rw [pk_us, pk_us, if_pos hi]
    · rw [pk_un e, pk_un e]
  | 6 =>
    funext j
    show (if j < 10 then upd (f 55) i x (10 + j) else 0) = (if j < 10 then f 55 (10 + j) else 0)
    rw [pk_un (by omega)]
  | 7 => rfl
  | 8 => rfl
  | n + 9 => rfl
theorem vM_w_1 {f : FF} {i : Nat} {x : Int32} (hi : i < 10) : vM (up f 55 (upd (f 55) (10 + i) x)) = up (vM f) 6 (upd (vM f 6) i x) := by
  funext k
  match k with
  | 0 =>
    funext j
    match j with
    | 0 => rfl
    | 1 => rfl
    | 2 => rfl
    | 3 => rfl
    | 4 => rfl
    | n + 5 => rfl
  | 1 => rfl
  | 2 => rfl
  | 3 => rfl
  | 4 =>
    funext j
    match j with
    | 0 => rfl
    | 1 => rfl
    | n + 2 => rfl
  | 5 =>
    funext j
    show (if j < 10 then upd (f 55) (10 + i) x j else 0) = (if j < 10 then f 55 j else 0)
    by_cases e : j < 10
    · rw [if_pos e, if_pos e, pk_un (by omega)]
    · rw [if_neg e, if_neg e]
  | 6 =>
    funext j
    show (if j < 10 then upd (f 55) (10 + i) x (10 + j) else 0) = upd (fun i => if i < 10 then f 55 (10 + i) else 0) i x j
    by_cases e : j = i
    · subst e; rw [pk_us, pk_us, if_pos hi]
    · rw [pk_un (by omega), pk_un e]
  | 7 => rfl
  | 8 => rfl
  | n + 9 => rfl
theorem vC_of {f g : FF} (h1 : g 1 = f 1) (h2 : g 2 = f 2) (h3 : g 3 = f 3) (h4 : g 4 = f 4) (h5 : g 5 = f 5) (h11 : g 11 = f 11) (h12 : g 12 = f 12) (h20 : g 20 = f 20) (h25 : g 25 = f 25) (h26 : g 26 = f 26) (h27 : g 27 = f 27) (h30 : g 30 = f 30) : vC g = vC f := by
  unfold vC
  rw [h1, h2, h3, h4, h5, h11, h12, h20, h25, h26, h27, h30]
theorem vC_KK {S : List Nat} {f g : FF} (h : KK S f g) (z : [1, 2, 3, 4, 5, 11, 12, 20, 25, 26, 27, 30].all (fun k => S.contains k == false) = true) : vC g = vC f := by
  simp only [List.all_cons, List.all_nil, Bool.and_true, Bool.and_eq_true, beq_iff_eq] at z
  exact vC_of (h.1 1 z.1) (h.1 2 z.2.1) (h.1 3 z.2.2.1) (h.1 4 z.2.2.2.1) (h.1 5 z.2.2.2.2.1) (h.1 11 z.2.2.2.2.2.1) (h.1 12 z.2.2.2.2.2.2.1) (h.1 20 z.2.2.2.2.2.2.2.1) (h.1 25 z.2.2.2.2.2.2.2.2.1) (h.1 26 z.2.2.2.2.2.2.2.2.2.1) (h.1 27 z.2.2.2.2.2.2.2.2.2.2.1) (h.1 30 z.2.2.2.2.2.2.2.2.2.2.2)
theorem vM_of {f g : FF} (s3 : g 36 3 = f 36 3) (s11 : g 36 11 = f 36 11) (s16 : g 36 16 = f 36 16) (s20 : g 36 20 = f 36 20) (s24 : g 36 24 = f 36 24) (h39 : g 39 = f 39) (h40 : g 40 = f 40) (h43 : g 43 = f 43) (h52 : g 52 = f 52) (h53 : g 53 = f 53) (h54 : g 54 = f 54) (h55 : g 55 = f 55) : vM g = vM f := by
  unfold vM
  rw [s3, s11, s16, s20, s24, h39, h40, h43, h52, h53, h54, h55]
theorem vM_KK {S : List Nat} {f g : FF} (h : KK S f g) (z : [39, 40, 43, 52, 53, 54, 55].all (fun k => S.contains k == false) = true) : vM g = vM f := by
  simp only [List.all_cons, List.all_nil, Bool.and_true, Bool.and_eq_true, beq_iff_eq] at z
  exact vM_of (h.2 3 rfl) (h.2 11 rfl) (h.2 16 rfl) (h.2 20 rfl) (h.2 24 rfl) (h.1 39 z.1) (h.1 40 z.2.1) (h.1 43 z.2.2.1) (h.1 52 z.2.2.2.1) (h.1 53 z.2.2.2.2.1) (h.1 54 z.2.2.2.2.2.1) (h.1 55 z.2.2.2.2.2.2)
def KQ (f g : FF) : Prop := ∀ k, k < 36 → g k = f k
theorem KQ.rf {f : FF} : KQ f f := fun _ _ => rfl
theorem KQ.wr {f g : FF} {k : Nat} {h : Nat → Int32} (hk : 36 ≤ k) (q : KQ f g) : KQ f (up g k h) := fun j hj => by
  rw [up_ne (by omega)]; exact q j hj
theorem KQ.tr {f g h : FF} (q : KQ f g) (r : KQ g h) : KQ f h := fun j hj => (r j hj).trans (q j hj)
theorem KP_KK {S : List Nat} {f g : FF} (h : KK S f g) (z : S.all (fun k => decide (k < 36)) = true) : KP f g := fun k hk => h.1 k (by
  cases q : S.contains k with
  | false => rfl
  | true =>
    have h1 := List.all_eq_true.mp z k (by simpa using q)
    have h2 := of_decide_eq_true h1
    omega)
theorem KQ_KK {S : List Nat} {f g : FF} (h : KK S f g) (z : S.all (fun k => decide (36 ≤ k)) = true) : KQ f g := fun k hk => h.1 k (by
  cases q : S.contains k with
  | false => rfl
  | true =>
    have h1 := List.all_eq_true.mp z k (by simpa using q)
    have h2 := of_decide_eq_true h1
    omega)
theorem vM_KP {f g : FF} (h : KP f g) : vM g = vM f := vM_of (congrFun (h 36 (by decide)) 3) (congrFun (h 36 (by decide)) 11) (congrFun (h 36 (by decide)) 16) (congrFun (h 36 (by decide)) 20) (congrFun (h 36 (by decide)) 24) (h 39 (by decide)) (h 40 (by decide)) (h 43 (by decide)) (h 52 (by decide)) (h 53 (by decide)) (h 54 (by decide)) (h 55 (by decide))
theorem vC_KQ {f g : FF} (h : KQ f g) : vC g = vC f := vC_of (h 1 (by decide)) (h 2 (by decide)) (h 3 (by decide)) (h 4 (by decide)) (h 5 (by decide)) (h 11 (by decide)) (h 12 (by decide)) (h 20 (by decide)) (h 25 (by decide)) (h 26 (by decide)) (h 27 (by decide)) (h 30 (by decide))
/-- both sides show the same -/
def Cp (f : FF) : Prop := vC f = vM f
def JJ (f : FF) : Prop := IV f ∧ Cp f
def S_cnt (j : Nat) (n : Int32) (v : FF) : Int32 × FF := if v 0 j = n then (-4, v) else (v 0 j, up v 0 (upd (v 0) j (v 0 j + 1)))
def S_hold (mo fl : Int32) (v : FF) : Int32 × FF := if rg mo 0 20000 = 0 then (-2, v) else if rg fl 0 20000 = 0 then (-2, v) else S_cnt 0 4 v
def S_item (we ki sp : Int32) (v : FF) : Int32 × FF := if rg we 1 5000 = 0 then (-2, v) else if rg ki 0 7 = 0 then (-1, v) else if rg sp 1 4 = 0 then (-1, v) else S_cnt 1 40 v
def S_row (ar n : Int32) (v : FF) : Int32 × FF := if rg ar 0 5000 = 0 then (-2, v) else if rg n 1 8 = 0 then (-2, v) else S_cnt 2 10 v
def S_tk (mo : Int32) (v : FF) : Int32 × FF := if v 0 3 = 4 then (-4, v) else (v 0 3, up (up v 2 (upd (v 2) (v 0 3).toNatClampNeg mo)) 0 (upd (v 0) 3 (v 0 3 + 1)))
def S_tank (ar mo : Int32) (v : FF) : Int32 × FF := if rg ar 0 5000 = 0 then (-2, v) else if rg mo 0 20000 = 0 then (-2, v) else S_tk mo v
def S_person (we : Int32) (v : FF) : Int32 × FF := if rg we 50 150 = 0 then (-2, v) else (v 0 4, up v 0 (upd (v 0) 4 we))
def S_ap (x y : Nat) (d : Int32) (v : FF) : Int32 × FF := (v 1 (x * 8 + y), up (up v 1 (upd (v 1) (x * 8 + y) d)) 1 (upd (upd (v 1) (x * 8 + y) d) (y * 8 + x) d))
def S_apart (x y d : Int32) (v : FF) : Int32 × FF := if rg x 0 7 = 0 then (-1, v) else if rg y 0 7 = 0 then (-1, v) else if rg d 0 8 = 0 then (-2, v) else S_ap x.toNatClampNeg y.toNatClampNeg d v
def S_fuel (tn am : Int32) (v : FF) : Int32 × FF := if rg tn 0 (v 0 3 - 1) = 0 then (-1, v) else if rg am 0 (v 2 tn.toNatClampNeg) = 0 then (-2, v) else (v 3 tn.toNatClampNeg, up v 3 (upd (v 3) tn.toNatClampNeg am))
theorem S_cnt_f {j n : Nat} {N : Int32} {v : FF} {k : Nat} (e : v 0 j = nI k) (hk : k < 2 ^ 31) (hn : nI n = N) (h : k = n) : S_cnt j N v = (-4, v) := by
  unfold S_cnt; rw [if_pos (by rw [e, h, hn])]
theorem S_cnt_n {j n : Nat} {N : Int32} {v : FF} {k : Nat} (e : v 0 j = nI k) (hk : k < 2 ^ 31) (h2 : n < 2 ^ 31) (hn : nI n = N) (h : k ≠ n) : S_cnt j N v = (nI k, up v 0 (upd (v 0) j (nI (k + 1)))) := by
  unfold S_cnt; rw [if_neg (fun z => h (nI_inj hk h2 (by rw [← e, z, hn]))), e, nI_1]
theorem S_tk_f {v : FF} {mo : Int32} {k : Nat} (e : v 0 3 = nI k) (h : k = 4) : S_tk mo v = (-4, v) := by
  unfold S_tk; rw [if_pos (by rw [e, h]; rfl)]
theorem S_tk_n {v : FF} {mo : Int32} {k : Nat} (e : v 0 3 = nI k) (hk : k < 2 ^ 31) (h : k ≠ 4) : S_tk mo v = (nI k, up (up v 2 (upd (v 2) k mo)) 0 (upd (v 0) 3 (nI (k + 1)))) := by
  unfold S_tk; rw [if_neg (fun z => h (nI_inj (b := 4) hk (by omega) (by rw [← e, z]; rfl))), e, nI_1, nI_clamp hk]
/-- points: the last weight told of phase q, 0 where none is -/
def lst (q : Nat) (v : FF) : Int32 := if v 4 q = 0 then 0 else v (5 + q) ((v 4 q).toNatClampNeg - 1)
def S_wp (q : Nat) (v : FF) : Int32 × FF := (v 4 q, up v 4 (upd (v 4) q 0))
def S_wipe (ph : Int32) (v : FF) : Int32 × FF := if rg ph 0 1 = 0 then (-1, v) else if ph = 0 then S_wp 0 v else S_wp 1 v
def S_pa (q : Nat) (we : Int32) (v : FF) : Int32 × FF := if v 4 q = 10 then (-4, v) else (v 4 q + 1, up (up v (5 + q) (upd (v (5 + q)) (v 4 q).toNatClampNeg we)) 4 (upd (v 4) q (v 4 q + 1)))
def S_pt (q : Nat) (we lo hg : Int32) (v : FF) : Int32 × FF := if rg we (lst q v + 1) 1000000 = 0 then (-2, v) else if rg lo 0 5000 = 0 then (-2, v) else if rg hg 0 5000 = 0 then (-2, v) else if lo ≤ hg then S_pa q we v else (-2, v)
def S_point (ph we lo hg : Int32) (v : FF) : Int32 × FF := if rg ph 0 1 = 0 then (-1, v) else if ph = 0 then S_pt 0 we lo hg v else S_pt 1 we lo hg v
theorem S_wp_e {q n : Nat} {v : FF} (e : v 4 q = nI n) : S_wp q v = (nI n, up v 4 (upd (v 4) q 0)) := by
  unfold S_wp; rw [e]
theorem S_pa_f {q k : Nat} {we : Int32} {v : FF} (e : v 4 q = nI k) (h : k = 10) : S_pa q we v = (-4, v) := by
  unfold S_pa; rw [if_pos (by rw [e, h]; rfl)]
theorem S_pa_n {q k : Nat} {we : Int32} {v : FF} (e : v 4 q = nI k) (hk : k < 2 ^ 31) (h : k ≠ 10) : S_pa q we v = (nI (k + 1), up (up v (5 + q) (upd (v (5 + q)) k we)) 4 (upd (v 4) q (nI (k + 1)))) := by
  unfold S_pa; rw [if_neg (fun z => h (nI_inj (b := 10) hk (by omega) (by rw [← e, z]; rfl))), e, nI_1, nI_clamp hk]
theorem lst_z {q n : Nat} {v : FF} (e : v 4 q = nI n) (h : n = 0) : lst q v = nI 0 := by
  unfold lst; rw [if_pos (by rw [e, h]; rfl)]; rfl
theorem lst_s {q n : Nat} {v : FF} (e : v 4 q = nI n) (hn : n < 2 ^ 31) (h : n ≠ 0) : lst q v = v (5 + q) (n - 1) := by
  unfold lst; rw [if_neg (fun z => h (nI_inj (b := 0) hn (by omega) (by rw [← e, z]; rfl))), e, nI_clamp hn]
theorem lstC0 {f : FF} {n p : Nat} (e : f 4 3 = nI n) (hn : n ≤ 10) (h : n ≠ 0) (e2 : f 27 (n - 1) = nI p) : nI p = lst 0 (vC f) := by
  rw [lst_s (q := 0) (v := vC f) e (by omega) h]
  exact ((if_pos (show n - 1 < 10 by omega)).trans e2).symm
theorem lstC1 {f : FF} {n p : Nat} (e : f 5 3 = nI n) (hn : n ≤ 10) (h : n ≠ 0) (e2 : f 30 (n - 1) = nI p) : nI p = lst 1 (vC f) := by
  rw [lst_s (q := 1) (v := vC f) e (by omega) h]
  exact ((if_pos (show n - 1 < 10 by omega)).trans e2).symm
theorem lstM0 {f : FF} {n p : Nat} (e : f 54 0 = nI n) (hn : n ≤ 10) (h : n ≠ 0) (e2 : f 55 (n - 1) = nI p) : lst 0 (vM f) = nI p := by
  rw [lst_s (q := 0) (v := vM f) e (by omega) h]
  exact (if_pos (show n - 1 < 10 by omega)).trans e2
theorem lstM1 {f : FF} {n p : Nat} (e : f 54 1 = nI n) (hn : n ≤ 10) (h : n ≠ 0) (e2 : f 55 (10 + n - 1) = nI p) : lst 1 (vM f) = nI p := by
  rw [lst_s (q := 1) (v := vM f) e (by omega) h]
  refine (if_pos (show n - 1 < 10 by omega)).trans ?_
  rw [show 10 + (n - 1) = 10 + n - 1 by omega]; exact e2
theorem lstM_ok {f : FF} (hi : IV f) {q : Nat} (hq : q ≤ 1) : ∃ L, L ≤ 1000000 ∧ lst q (vM f) = nI L := by
  obtain ⟨n, hn, e⟩ := IV.a_54 hi (i := q) (by omega)
  by_cases h : n = 0
  · rcases (show q = 0 ∨ q = 1 by omega) with rfl | rfl
    · exact ⟨0, by omega, lst_z (v := vM f) e h⟩
    · exact ⟨0, by omega, lst_z (v := vM f) e h⟩
  · rcases (show q = 0 ∨ q = 1 by omega) with rfl | rfl
    · obtain ⟨p, hp, e2⟩ := IV.a_55 hi (i := n - 1) (by omega)
      exact ⟨p, hp, lstM0 e hn h e2⟩
    · obtain ⟨p, hp, e2⟩ := IV.a_55 hi (i := 10 + n - 1) (by omega)
      exact ⟨p, hp, lstM1 e hn h e2⟩
theorem pt_w1 {f : FF} (hi : IV f) {q : Nat} (hq : q ≤ 1) {w : Int32} (h : rg w 1 1000000 = 0) : rg w (lst q (vM f) + 1) 1000000 = 0 := by
  obtain ⟨L, hL, e⟩ := lstM_ok hi hq
  rw [e]; exact rg_w1 hL h
/-- slots -/
def S_add (h : Nat) (ar : Int32) (v : FF) : Int32 × FF := if v 7 h = 8 then (-4, v) else (v 7 h, up (up v 8 (upd (v 8) (h * 8 + (v 7 h).toNatClampNeg) ar)) 7 (upd (v 7) h (v 7 h + 1)))
def S_sl (h : Nat) (ar mo : Int32) (v : FF) : Int32 × FF := if rg ar 0 5000 = 0 then (-2, v) else if rg mo 0 20000 = 0 then (-2, v) else if ¬ v 7 h = 0 ∧ ar ≤ v 8 (h * 8 + ((v 7 h).toNatClampNeg - 1)) then (-2, v) else S_add h ar v
def S_slot (h ar mo : Int32) (v : FF) : Int32 × FF := if rg h 0 (v 0 0 - 1) = 0 then (-1, v) else S_sl h.toNatClampNeg ar mo v
theorem S_add_f {h k : Nat} {ar : Int32} {v : FF} (e : v 7 h = nI k) (q : k = 8) : S_add h ar v = (-4, v) := by
  unfold S_add; rw [if_pos (by rw [e, q]; rfl)]
theorem S_add_n {h k : Nat} {ar : Int32} {v : FF} (e : v 7 h = nI k) (hk : k < 2 ^ 31) (q : k ≠ 8) : S_add h ar v = (nI k, up (up v 8 (upd (v 8) (h * 8 + k) ar)) 7 (upd (v 7) h (nI (k + 1)))) := by
  unfold S_add; rw [if_neg (fun z => q (nI_inj (b := 8) hk (by omega) (by rw [← e, z]; rfl))), e, nI_1, nI_clamp hk]
theorem S_sl_a {h : Nat} {ar mo : Int32} {v : FF} (c : rg ar 0 5000 = 0) : S_sl h ar mo v = (-2, v) := if_pos c
theorem S_sl_m {h : Nat} {ar mo : Int32} {v : FF} (c : rg mo 0 20000 = 0) : S_sl h ar mo v = (-2, v) := by
  unfold S_sl
  by_cases z : rg ar 0 5000 = 0
  · rw [if_pos z]
  · rw [if_neg z, if_pos c]
theorem S_sl_l {h n : Nat} {ar mo L : Int32} {v : FF} (e : v 7 h = nI n) (hn : n < 2 ^ 31) (h0 : n ≠ 0) (e2 : v 8 (h * 8 + (n - 1)) = L) (c : ar ≤ L) : S_sl h ar mo v = (-2, v) := by
  unfold S_sl
  by_cases z : rg ar 0 5000 = 0
  · rw [if_pos z]
  · rw [if_neg z]
    by_cases y : rg mo 0 20000 = 0
    · rw [if_pos y]
    · rw [if_neg y, if_pos ⟨fun w => h0 (nI_inj (b := 0) hn (by omega) (by rw [← e, w]; rfl)), by rw [e, nI_clamp hn, e2]; exact c⟩]
theorem S_sl_ok {h n : Nat} {ar mo : Int32} {v : FF} (e : v 7 h = nI n) (hn : n < 2 ^ 31) (c1 : ¬ rg ar 0 5000 = 0) (c2 : ¬ rg mo 0 20000 = 0) (c3 : n = 0 ∨ ¬ ar ≤ v 8 (h * 8 + (n - 1))) : S_sl h ar mo v = S_add h ar v := by
  unfold S_sl
  rw [if_neg c1, if_neg c2, if_neg]
  intro z
  rcases c3 with q | q
  · exact z.1 (by rw [e, q]; rfl)
  · rw [e, nI_clamp hn] at z
    exact q z.2
