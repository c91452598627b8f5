def okc (n : Nat) (x : Int32) : Prop := ∃ j, j ≤ n ∧ x = nI j
def oki (n : Nat) (x : Int32) : Prop := ∃ j, j < n ∧ x = nI j
def okx (n : Nat) (x : Int32) : Prop := x = (-1) ∨ ∃ j, j < n ∧ x = nI j
def oka (n : Nat) (P : Int32 → Prop) (g : Nat → Int32) : Prop := ∀ i, i < n → P (g i)
theorem oka.st {n : Nat} {P : Int32 → Prop} {g : Nat → Int32} (h : oka n P g) {j : Nat} {v : Int32} (hv : P v) : oka n P (upd g j v) := fun i hi => by
  by_cases e : i = j
  · subst e; rw [pk_us]; exact hv
  · rw [pk_un e]; exact h i hi
theorem okc_n {n j : Nat} (h : j ≤ n) : okc n (nI j) := ⟨j, h, rfl⟩
theorem oki_n {n j : Nat} (h : j < n) : oki n (nI j) := ⟨j, h, rfl⟩
theorem okx_n {n j : Nat} (h : j < n) : okx n (nI j) := Or.inr ⟨j, h, rfl⟩
theorem okx_m {n : Nat} : okx n (-1) := Or.inl rfl
def okcell (k : Nat) (g : Nat → Int32) : Prop := match k with
  | 1 => okc 4 (g 3) ∧ okc 40 (g 12)
  | 2 => okc 10 (g 3)
  | 3 => okc 4 (g 3)
  | 4 => okc 10 (g 3)
  | 5 => okc 10 (g 3)
  | 8 => okc 4 (g 4) ∧ okc 10 (g 5)
  | 11 => oka 4 (okc 8) g
  | 14 => oka 32 (okx 40) g
  | 16 => oka 40 (oki 8) g
  | 18 => oka 40 (okx 32) g
  | 19 => oka 40 (oki 40) g
  | 27 => oka 10 (okc 1000000) g
  | 30 => oka 10 (okc 1000000) g
  | 33 => oka 4 (oki 40) g
  | 35 => oka 10 (oki 32) g
  | 36 => okc 4 (g 3) ∧ okc 40 (g 11) ∧ okc 10 (g 16) ∧ okc 4 (g 20) ∧ okc 4 (g 35)
  | 39 => oka 4 (okc 8) g
  | 42 => oka 32 (okx 40) g
  | 45 => oka 40 (oki 8) g
  | 47 => oka 40 (okx 32) g
  | 52 => oka 4 (okc 20000) g
  | 53 => oka 4 (okc 20000) g
  | 54 => oka 2 (okc 10) g
  | 55 => oka 20 (okc 1000000) g
  | 59 => oka 4 (oki 40) g
  | _ => True
/-- what holds of every state between two calls, and through them -/
def IV (f : FF) : Prop := ∀ k, okcell k (f k)
theorem up_same {f : FF} {k : Nat} {g : Nat → Int32} : up f k g k = g := by
  show cond (Nat.beq k k) g (f k) = g
  rw [Nat.beq_refl]; rfl
theorem up_us {f : FF} {k j : Nat} {g : Nat → Int32} {v : Int32} : up f k (upd g j v) k j = v := by
  rw [up_same]; exact pk_us
theorem up_ne {f : FF} {k j : Nat} {g : Nat → Int32} (h : j ≠ k) : up f k g j = f j := by
  have e : Nat.beq j k = false := by
    cases z : Nat.beq j k with
    | false => rfl
    | true => exact absurd (Nat.eq_of_beq_eq_true z) h
  show cond (Nat.beq j k) g (f j) = f j
  rw [e]; rfl
theorem IV.wr {f : FF} (hi : IV f) (k : Nat) {g : Nat → Int32} (h : okcell k g) : IV (up f k g) := fun j => by
  by_cases e : j = k
  · subst e; rw [up_same]; exact h
  · rw [up_ne e]; exact hi j
theorem IV.s_1_3 {f : FF} (hi : IV f) : okc 4 (f 1 3) := by
  have h : okc 4 (f 1 3) ∧ okc 40 (f 1 12) := hi 1
  exact h.1
theorem IV.t_1_3 {f : FF} (hi : IV f) {v : Int32} (hv : okc 4 v) : IV (up f 1 (upd (f 1) 3 v)) := by
  have h : okc 4 (f 1 3) ∧ okc 40 (f 1 12) := hi 1
  exact hi.wr 1 (show okc 4 (upd (f 1) 3 v 3) ∧ okc 40 (upd (f 1) 3 v 12) from ⟨hv, h.2⟩)
theorem IV.s_1_12 {f : FF} (hi : IV f) : okc 40 (f 1 12) := by
  have h : okc 4 (f 1 3) ∧ okc 40 (f 1 12) := hi 1
  exact h.2
theorem IV.t_1_12 {f : FF} (hi : IV f) {v : Int32} (hv : okc 40 v) : IV (up f 1 (upd (f 1) 12 v)) := by
  have h : okc 4 (f 1 3) ∧ okc 40 (f 1 12) := hi 1
  exact hi.wr 1 (show okc 4 (upd (f 1) 12 v 3) ∧ okc 40 (upd (f 1) 12 v 12) from ⟨h.1, hv⟩)
theorem IV.s_2_3 {f : FF} (hi : IV f) : okc 10 (f 2 3) := by
  have h : okc 10 (f 2 3) := hi 2
  exact h
theorem IV.t_2_3 {f : FF} (hi : IV f) {v : Int32} (hv : okc 10 v) : IV (up f 2 (upd (f 2) 3 v)) := by
  have h : okc 10 (f 2 3) := hi 2
  exact hi.wr 2 (show okc 10 (upd (f 2) 3 v 3) from hv)
theorem IV.s_3_3 {f : FF} (hi : IV f) : okc 4 (f 3 3) := by
  have h : okc 4 (f 3 3) := hi 3
  exact h
theorem IV.t_3_3 {f : FF} (hi : IV f) {v : Int32} (hv : okc 4 v) : IV (up f 3 (upd (f 3) 3 v)) := by
  have h : okc 4 (f 3 3) := hi 3
  exact hi.wr 3 (show okc 4 (upd (f 3) 3 v 3) from hv)
theorem IV.s_4_3 {f : FF} (hi : IV f) : okc 10 (f 4 3) := by
  have h : okc 10 (f 4 3) := hi 4
  exact h
theorem IV.t_4_3 {f : FF} (hi : IV f) {v : Int32} (hv : okc 10 v) : IV (up f 4 (upd (f 4) 3 v)) := by
  have h : okc 10 (f 4 3) := hi 4
  exact hi.wr 4 (show okc 10 (upd (f 4) 3 v 3) from hv)
theorem IV.s_5_3 {f : FF} (hi : IV f) : okc 10 (f 5 3) := by
  have h : okc 10 (f 5 3) := hi 5
  exact h
theorem IV.t_5_3 {f : FF} (hi : IV f) {v : Int32} (hv : okc 10 v) : IV (up f 5 (upd (f 5) 3 v)) := by
  have h : okc 10 (f 5 3) := hi 5
  exact hi.wr 5 (show okc 10 (upd (f 5) 3 v 3) from hv)
theorem IV.s_8_4 {f : FF} (hi : IV f) : okc 4 (f 8 4) := by
  have h : okc 4 (f 8 4) ∧ okc 10 (f 8 5) := hi 8
  exact h.1
theorem IV.t_8_4 {f : FF} (hi : IV f) {v : Int32} (hv : okc 4 v) : IV (up f 8 (upd (f 8) 4 v)) := by
  have h : okc 4 (f 8 4) ∧ okc 10 (f 8 5) := hi 8
  exact hi.wr 8 (show okc 4 (upd (f 8) 4 v 4) ∧ okc 10 (upd (f 8) 4 v 5) from ⟨hv, h.2⟩)
theorem IV.s_8_5 {f : FF} (hi : IV f) : okc 10 (f 8 5) := by
  have h : okc 4 (f 8 4) ∧ okc 10 (f 8 5) := hi 8
  exact h.2
theorem IV.t_8_5 {f : FF} (hi : IV f) {v : Int32} (hv : okc 10 v) : IV (up f 8 (upd (f 8) 5 v)) := by
  have h : okc 4 (f 8 4) ∧ okc 10 (f 8 5) := hi 8
  exact hi.wr 8 (show okc 4 (upd (f 8) 5 v 4) ∧ okc 10 (upd (f 8) 5 v 5) from ⟨h.1, hv⟩)
theorem IV.s_36_3 {f : FF} (hi : IV f) : okc 4 (f 36 3) := by
  have h : okc 4 (f 36 3) ∧ okc 40 (f 36 11) ∧ okc 10 (f 36 16) ∧ okc 4 (f 36 20) ∧ okc 4 (f 36 35) := hi 36
  exact h.1
theorem IV.t_36_3 {f : FF} (hi : IV f) {v : Int32} (hv : okc 4 v) : IV (up f 36 (upd (f 36) 3 v)) := by
  have h : okc 4 (f 36 3) ∧ okc 40 (f 36 11) ∧ okc 10 (f 36 16) ∧ okc 4 (f 36 20) ∧ okc 4 (f 36 35) := hi 36
  exact hi.wr 36 (show okc 4 (upd (f 36) 3 v 3) ∧ okc 40 (upd (f 36) 3 v 11) ∧ okc 10 (upd (f 36) 3 v 16) ∧ okc 4 (upd (f 36) 3 v 20) ∧ okc 4 (upd (f 36) 3 v 35) from ⟨hv, h.2.1, h.2.2.1, h.2.2.2.1, h.2.2.2.2⟩)
theorem IV.s_36_11 {f : FF} (hi : IV f) : okc 40 (f 36 11) := by
  have h : okc 4 (f 36 3) ∧ okc 40 (f 36 11) ∧ okc 10 (f 36 16) ∧ okc 4 (f 36 20) ∧ okc 4 (f 36 35) := hi 36
  exact h.2.1
theorem IV.t_36_11 {f : FF} (hi : IV f) {v : Int32} (hv : okc 40 v) : IV (up f 36 (upd (f 36) 11 v)) := by
  have h : okc 4 (f 36 3) ∧ okc 40 (f 36 11) ∧ okc 10 (f 36 16) ∧ okc 4 (f 36 20) ∧ okc 4 (f 36 35) := hi 36
  exact hi.wr 36 (show okc 4 (upd (f 36) 11 v 3) ∧ okc 40 (upd (f 36) 11 v 11) ∧ okc 10 (upd (f 36) 11 v 16) ∧ okc 4 (upd (f 36) 11 v 20) ∧ okc 4 (upd (f 36) 11 v 35) from ⟨h.1, hv, h.2.2.1, h.2.2.2.1, h.2.2.2.2⟩)
theorem IV.s_36_16 {f : FF} (hi : IV f) : okc 10 (f 36 16) := by
  have h : okc 4 (f 36 3) ∧ okc 40 (f 36 11) ∧ okc 10 (f 36 16) ∧ okc 4 (f 36 20) ∧ okc 4 (f 36 35) := hi 36
  exact h.2.2.1
theorem IV.t_36_16 {f : FF} (hi : IV f) {v : Int32} (hv : okc 10 v) : IV (up f 36 (upd (f 36) 16 v)) := by
  have h : okc 4 (f 36 3) ∧ okc 40 (f 36 11) ∧ okc 10 (f 36 16) ∧ okc 4 (f 36 20) ∧ okc 4 (f 36 35) := hi 36
  exact hi.wr 36 (show okc 4 (upd (f 36) 16 v 3) ∧ okc 40 (upd (f 36) 16 v 11) ∧ okc 10 (upd (f 36) 16 v 16) ∧ okc 4 (upd (f 36) 16 v 20) ∧ okc 4 (upd (f 36) 16 v 35) from ⟨h.1, h.2.1, hv, h.2.2.2.1, h.2.2.2.2⟩)
theorem IV.s_36_20 {f : FF} (hi : IV f) : okc 4 (f 36 20) := by
  have h : okc 4 (f 36 3) ∧ okc 40 (f 36 11) ∧ okc 10 (f 36 16) ∧ okc 4 (f 36 20) ∧ okc 4 (f 36 35) := hi 36
  exact h.2.2.2.1
theorem IV.t_36_20 {f : FF} (hi : IV f) {v : Int32} (hv : okc 4 v) : IV (up f 36 (upd (f 36) 20 v)) := by
  have h : okc 4 (f 36 3) ∧ okc 40 (f 36 11) ∧ okc 10 (f 36 16) ∧ okc 4 (f 36 20) ∧ okc 4 (f 36 35) := hi 36
  exact hi.wr 36 (show okc 4 (upd (f 36) 20 v 3) ∧ okc 40 (upd (f 36) 20 v 11) ∧ okc 10 (upd (f 36) 20 v 16) ∧ okc 4 (upd (f 36) 20 v 20) ∧ okc 4 (upd (f 36) 20 v 35) from ⟨h.1, h.2.1, h.2.2.1, hv, h.2.2.2.2⟩)
theorem IV.s_36_35 {f : FF} (hi : IV f) : okc 4 (f 36 35) := by
  have h : okc 4 (f 36 3) ∧ okc 40 (f 36 11) ∧ okc 10 (f 36 16) ∧ okc 4 (f 36 20) ∧ okc 4 (f 36 35) := hi 36
  exact h.2.2.2.2
theorem IV.t_36_35 {f : FF} (hi : IV f) {v : Int32} (hv : okc 4 v) : IV (up f 36 (upd (f 36) 35 v)) := by
  have h : okc 4 (f 36 3) ∧ okc 40 (f 36 11) ∧ okc 10 (f 36 16) ∧ okc 4 (f 36 20) ∧ okc 4 (f 36 35) := hi 36
  exact hi.wr 36 (show okc 4 (upd (f 36) 35 v 3) ∧ okc 40 (upd (f 36) 35 v 11) ∧ okc 10 (upd (f 36) 35 v 16) ∧ okc 4 (upd (f 36) 35 v 20) ∧ okc 4 (upd (f 36) 35 v 35) from ⟨h.1, h.2.1, h.2.2.1, h.2.2.2.1, hv⟩)
theorem IV.a_11 {f : FF} (hi : IV f) {i : Nat} (h : i < 4) : okc 8 (f 11 i) := (show oka 4 (okc 8) (f 11) from hi 11) i h
theorem IV.b_11 {f : FF} (hi : IV f) {i : Nat} {v : Int32} (hv : okc 8 v) : IV (up f 11 (upd (f 11) i v)) := hi.wr 11 (show oka 4 (okc 8) (upd (f 11) i v) from (show oka 4 (okc 8) (f 11) from hi 11).st hv)
theorem IV.a_14 {f : FF} (hi : IV f) {i : Nat} (h : i < 32) : okx 40 (f 14 i) := (show oka 32 (okx 40) (f 14) from hi 14) i h
theorem IV.b_14 {f : FF} (hi : IV f) {i : Nat} {v : Int32} (hv : okx 40 v) : IV (up f 14 (upd (f 14) i v)) := hi.wr 14 (show oka 32 (okx 40) (upd (f 14) i v) from (show oka 32 (okx 40) (f 14) from hi 14).st hv)
theorem IV.a_18 {f : FF} (hi : IV f) {i : Nat} (h : i < 40) : okx 32 (f 18 i) := (show oka 40 (okx 32) (f 18) from hi 18) i h
theorem IV.b_18 {f : FF} (hi : IV f) {i : Nat} {v : Int32} (hv : okx 32 v) : IV (up f 18 (upd (f 18) i v)) := hi.wr 18 (show oka 40 (okx 32) (upd (f 18) i v) from (show oka 40 (okx 32) (f 18) from hi 18).st hv)
theorem IV.a_19 {f : FF} (hi : IV f) {i : Nat} (h : i < 40) : oki 40 (f 19 i) := (show oka 40 (oki 40) (f 19) from hi 19) i h
theorem IV.b_19 {f : FF} (hi : IV f) {i : Nat} {v : Int32} (hv : oki 40 v) : IV (up f 19 (upd (f 19) i v)) := hi.wr 19 (show oka 40 (oki 40) (upd (f 19) i v) from (show oka 40 (oki 40) (f 19) from hi 19).st hv)
theorem IV.a_16 {f : FF} (hi : IV f) {i : Nat} (h : i < 40) : oki 8 (f 16 i) := (show oka 40 (oki 8) (f 16) from hi 16) i h
theorem IV.b_16 {f : FF} (hi : IV f) {i : Nat} {v : Int32} (hv : oki 8 v) : IV (up f 16 (upd (f 16) i v)) := hi.wr 16 (show oka 40 (oki 8) (upd (f 16) i v) from (show oka 40 (oki 8) (f 16) from hi 16).st hv)
theorem IV.a_33 {f : FF} (hi : IV f) {i : Nat} (h : i < 4) : oki 40 (f 33 i) := (show oka 4 (oki 40) (f 33) from hi 33) i h
theorem IV.b_33 {f : FF} (hi : IV f) {i : Nat} {v : Int32} (hv : oki 40 v) : IV (up f 33 (upd (f 33) i v)) := hi.wr 33 (show oka 4 (oki 40) (upd (f 33) i v) from (show oka 4 (oki 40) (f 33) from hi 33).st hv)
theorem IV.a_35 {f : FF} (hi : IV f) {i : Nat} (h : i < 10) : oki 32 (f 35 i) := (show oka 10 (oki 32) (f 35) from hi 35) i h
theorem IV.b_35 {f : FF} (hi : IV f) {i : Nat} {v : Int32} (hv : oki 32 v) : IV (up f 35 (upd (f 35) i v)) := hi.wr 35 (show oka 10 (oki 32) (upd (f 35) i v) from (show oka 10 (oki 32) (f 35) from hi 35).st hv)
theorem IV.a_39 {f : FF} (hi : IV f) {i : Nat} (h : i < 4) : okc 8 (f 39 i) := (show oka 4 (okc 8) (f 39) from hi 39) i h
theorem IV.b_39 {f : FF} (hi : IV f) {i : Nat} {v : Int32} (hv : okc 8 v) : IV (up f 39 (upd (f 39) i v)) := hi.wr 39 (show oka 4 (okc 8) (upd (f 39) i v) from (show oka 4 (okc 8) (f 39) from hi 39).st hv)
theorem IV.a_42 {f : FF} (hi : IV f) {i : Nat} (h : i < 32) : okx 40 (f 42 i) := (show oka 32 (okx 40) (f 42) from hi 42) i h
theorem IV.b_42 {f : FF} (hi : IV f) {i : Nat} {v : Int32} (hv : okx 40 v) : IV (up f 42 (upd (f 42) i v)) := hi.wr 42 (show oka 32 (okx 40) (upd (f 42) i v) from (show oka 32 (okx 40) (f 42) from hi 42).st hv)
theorem IV.a_47 {f : FF} (hi : IV f) {i : Nat} (h : i < 40) : okx 32 (f 47 i) := (show oka 40 (okx 32) (f 47) from hi 47) i h
theorem IV.b_47 {f : FF} (hi : IV f) {i : Nat} {v : Int32} (hv : okx 32 v) : IV (up f 47 (upd (f 47) i v)) := hi.wr 47 (show oka 40 (okx 32) (upd (f 47) i v) from (show oka 40 (okx 32) (f 47) from hi 47).st hv)
theorem IV.a_45 {f : FF} (hi : IV f) {i : Nat} (h : i < 40) : oki 8 (f 45 i) := (show oka 40 (oki 8) (f 45) from hi 45) i h
theorem IV.b_45 {f : FF} (hi : IV f) {i : Nat} {v : Int32} (hv : oki 8 v) : IV (up f 45 (upd (f 45) i v)) := hi.wr 45 (show oka 40 (oki 8) (upd (f 45) i v) from (show oka 40 (oki 8) (f 45) from hi 45).st hv)
theorem IV.a_54 {f : FF} (hi : IV f) {i : Nat} (h : i < 2) : okc 10 (f 54 i) := (show oka 2 (okc 10) (f 54) from hi 54) i h
theorem IV.b_54 {f : FF} (hi : IV f) {i : Nat} {v : Int32} (hv : okc 10 v) : IV (up f 54 (upd (f 54) i v)) := hi.wr 54 (show oka 2 (okc 10) (upd (f 54) i v) from (show oka 2 (okc 10) (f 54) from hi 54).st hv)
theorem IV.a_59 {f : FF} (hi : IV f) {i : Nat} (h : i < 4) : oki 40 (f 59 i) := (show oka 4 (oki 40) (f 59) from hi 59) i h
theorem IV.b_59 {f : FF} (hi : IV f) {i : Nat} {v : Int32} (hv : oki 40 v) : IV (up f 59 (upd (f 59) i v)) := hi.wr 59 (show oka 4 (oki 40) (upd (f 59) i v) from (show oka 4 (oki 40) (f 59) from hi 59).st hv)
theorem IV.a_53 {f : FF} (hi : IV f) {i : Nat} (h : i < 4) : okc 20000 (f 53 i) := (show oka 4 (okc 20000) (f 53) from hi 53) i h
theorem IV.b_53 {f : FF} (hi : IV f) {i : Nat} {v : Int32} (hv : okc 20000 v) : IV (up f 53 (upd (f 53) i v)) := hi.wr 53 (show oka 4 (okc 20000) (upd (f 53) i v) from (show oka 4 (okc 20000) (f 53) from hi 53).st hv)
theorem IV.a_52 {f : FF} (hi : IV f) {i : Nat} (h : i < 4) : okc 20000 (f 52 i) := (show oka 4 (okc 20000) (f 52) from hi 52) i h
theorem IV.b_52 {f : FF} (hi : IV f) {i : Nat} {v : Int32} (hv : okc 20000 v) : IV (up f 52 (upd (f 52) i v)) := hi.wr 52 (show oka 4 (okc 20000) (upd (f 52) i v) from (show oka 4 (okc 20000) (f 52) from hi 52).st hv)
theorem IV.a_27 {f : FF} (hi : IV f) {i : Nat} (h : i < 10) : okc 1000000 (f 27 i) := (show oka 10 (okc 1000000) (f 27) from hi 27) i h
theorem IV.b_27 {f : FF} (hi : IV f) {i : Nat} {v : Int32} (hv : okc 1000000 v) : IV (up f 27 (upd (f 27) i v)) := hi.wr 27 (show oka 10 (okc 1000000) (upd (f 27) i v) from (show oka 10 (okc 1000000) (f 27) from hi 27).st hv)
theorem IV.a_30 {f : FF} (hi : IV f) {i : Nat} (h : i < 10) : okc 1000000 (f 30 i) := (show oka 10 (okc 1000000) (f 30) from hi 30) i h
theorem IV.b_30 {f : FF} (hi : IV f) {i : Nat} {v : Int32} (hv : okc 1000000 v) : IV (up f 30 (upd (f 30) i v)) := hi.wr 30 (show oka 10 (okc 1000000) (upd (f 30) i v) from (show oka 10 (okc 1000000) (f 30) from hi 30).st hv)
theorem IV.a_55 {f : FF} (hi : IV f) {i : Nat} (h : i < 20) : okc 1000000 (f 55 i) := (show oka 20 (okc 1000000) (f 55) from hi 55) i h
theorem IV.b_55 {f : FF} (hi : IV f) {i : Nat} {v : Int32} (hv : okc 1000000 v) : IV (up f 55 (upd (f 55) i v)) := hi.wr 55 (show oka 20 (okc 1000000) (upd (f 55) i v) from (show oka 20 (okc 1000000) (f 55) from hi 55).st hv)
/-- a field that the invariant does not speak of -/
theorem IV.u_2_4 {f : FF} (hi : IV f) {v : Int32} : IV (up f 2 (upd (f 2) 4 v)) := hi.wr 2 (show okcell 2 (upd (f 2) 4 v) from (show okc 10 (f 2 3) from hi 2))
theorem IV.u_8_6 {f : FF} (hi : IV f) {v : Int32} : IV (up f 8 (upd (f 8) 6 v)) := hi.wr 8 (show okcell 8 (upd (f 8) 6 v) from (show okc 4 (f 8 4) ∧ okc 10 (f 8 5) from hi 8))
theorem IV.u_8_7 {f : FF} (hi : IV f) {v : Int32} : IV (up f 8 (upd (f 8) 7 v)) := hi.wr 8 (show okcell 8 (upd (f 8) 7 v) from (show okc 4 (f 8 4) ∧ okc 10 (f 8 5) from hi 8))
theorem IV.u_8_8 {f : FF} (hi : IV f) {v : Int32} : IV (up f 8 (upd (f 8) 8 v)) := hi.wr 8 (show okcell 8 (upd (f 8) 8 v) from (show okc 4 (f 8 4) ∧ okc 10 (f 8 5) from hi 8))
theorem IV.u_36_0 {f : FF} (hi : IV f) {v : Int32} : IV (up f 36 (upd (f 36) 0 v)) := hi.wr 36 (show okcell 36 (upd (f 36) 0 v) from (show okc 4 (f 36 3) ∧ okc 40 (f 36 11) ∧ okc 10 (f 36 16) ∧ okc 4 (f 36 20) ∧ okc 4 (f 36 35) from hi 36))
theorem IV.u_36_1 {f : FF} (hi : IV f) {v : Int32} : IV (up f 36 (upd (f 36) 1 v)) := hi.wr 36 (show okcell 36 (upd (f 36) 1 v) from (show okc 4 (f 36 3) ∧ okc 40 (f 36 11) ∧ okc 10 (f 36 16) ∧ okc 4 (f 36 20) ∧ okc 4 (f 36 35) from hi 36))
theorem IV.u_36_2 {f : FF} (hi : IV f) {v : Int32} : IV (up f 36 (upd (f 36) 2 v)) := hi.wr 36 (show okcell 36 (upd (f 36) 2 v) from (show okc 4 (f 36 3) ∧ okc 40 (f 36 11) ∧ okc 10 (f 36 16) ∧ okc 4 (f 36 20) ∧ okc 4 (f 36 35) from hi 36))
theorem IV.u_36_24 {f : FF} (hi : IV f) {v : Int32} : IV (up f 36 (upd (f 36) 24 v)) := hi.wr 36 (show okcell 36 (upd (f 36) 24 v) from (show okc 4 (f 36 3) ∧ okc 40 (f 36 11) ∧ okc 10 (f 36 16) ∧ okc 4 (f 36 20) ∧ okc 4 (f 36 35) from hi 36))
theorem IV.u_36_30 {f : FF} (hi : IV f) {v : Int32} : IV (up f 36 (upd (f 36) 30 v)) := hi.wr 36 (show okcell 36 (upd (f 36) 30 v) from (show okc 4 (f 36 3) ∧ okc 40 (f 36 11) ∧ okc 10 (f 36 16) ∧ okc 4 (f 36 20) ∧ okc 4 (f 36 35) from hi 36))
theorem IV.u_36_33 {f : FF} (hi : IV f) {v : Int32} : IV (up f 36 (upd (f 36) 33 v)) := hi.wr 36 (show okcell 36 (upd (f 36) 33 v) from (show okc 4 (f 36 3) ∧ okc 40 (f 36 11) ∧ okc 10 (f 36 16) ∧ okc 4 (f 36 20) ∧ okc 4 (f 36 35) from hi 36))
theorem IV.u_36_37 {f : FF} (hi : IV f) {v : Int32} : IV (up f 36 (upd (f 36) 37 v)) := hi.wr 36 (show okcell 36 (upd (f 36) 37 v) from (show okc 4 (f 36 3) ∧ okc 40 (f 36 11) ∧ okc 10 (f 36 16) ∧ okc 4 (f 36 20) ∧ okc 4 (f 36 35) from hi 36))
/-- frames: cells outside S stay; of the reference's object all fields but its scratch ones -/
def KK (S : List Nat) (f g : FF) : Prop := (∀ k, S.contains k = false → g k = f k) ∧ ∀ j, [1, 2, 30, 33, 35, 37].contains j = false → g 36 j = f 36 j
theorem KK.rf {S : List Nat} {f : FF} : KK S f f := ⟨fun _ _ => rfl, fun _ _ => rfl⟩
theorem KK.tr {S : List Nat} {f g h : FF} (q : KK S f g) (r : KK S g h) : KK S f h := ⟨fun k hk => (r.1 k hk).trans (q.1 k hk), fun j hj => (r.2 j hj).trans (q.2 j hj)⟩
theorem KK.mono {S T : List Nat} {f g : FF} (q : KK S f g) (h : S.all (fun k => T.contains k) = true) : KK T f g := ⟨fun k hk => q.1 k (by
  cases z : S.contains k with
  | false => rfl
  | true =>
    have := List.all_eq_true.mp h k (by simpa using z)
    rw [hk] at this; cases this), q.2⟩
theorem KK.wr {S : List Nat} {f g : FF} {k : Nat} {h : Nat → Int32} (hk : S.contains k = true) (h36 : k ≠ 36) (q : KK S f g) : KK S f (up g k h) := ⟨fun j hj => by
  rw [up_ne (fun e => by rw [e, hk] at hj; cases hj)]; exact q.1 j hj, fun j hj => by rw [up_ne (Ne.symm h36)]; exact q.2 j hj⟩
theorem KK.um {S : List Nat} {f g : FF} {i : Nat} {v : Int32} (hk : S.contains 36 = true) (hi : [1, 2, 30, 33, 35, 37].contains i = true) (q : KK S f g) : KK S f (up g 36 (upd (g 36) i v)) := ⟨fun j hj => by
  rw [up_ne (fun e => by rw [e, hk] at hj; cases hj)]; exact q.1 j hj, fun j hj => by
  rw [up_same, pk_un (fun e => by rw [e, hi] at hj; cases hj)]; exact q.2 j hj⟩
theorem nI_m1 {j : Nat} (h : j < 2 ^ 31) : ¬ nI j = (-1) := fun e => by
  have := congrArg Int32.toInt e
  rw [nI_toInt h] at this
  have e2 : (-1 : Int32).toInt = -1 := rfl
  omega
theorem nI_m1' {j : Nat} (h : j < 2 ^ 31) : ¬ (-1) = nI j := fun e => nI_m1 h e.symm
theorem nI_sub1 (j : Nat) : nI (j + 1) - 1 = nI j := nI_pred j
theorem nI_0m1 : nI 0 - 1 = (-1) := by decide
theorem nI_inj {a b : Nat} (ha : a < 2 ^ 31) (hb : b < 2 ^ 31) (h : nI a = nI b) : a = b := (nI_eq ha hb).mp h
/-- what a range of indices says of a number -/
theorem rg_cases (v : Int32) {c : Nat} (hc : c < 2 ^ 31) : rg v 0 (nI c - 1) = 0 ∨ (rg v 0 (nI c - 1) = 1 ∧ ∃ j, j < c ∧ v = nI j) := by
  by_cases q : rg v 0 (nI c - 1) = 0
  · exact Or.inl q
  · refine Or.inr ⟨?_, ?_⟩
    · unfold rg at q ⊢
      by_cases z : 0 ≤ v ∧ v ≤ nI c - 1
      · rw [if_pos z]
      · rw [if_neg z] at q; exact absurd rfl q
    · obtain ⟨h1, h2⟩ := rg_ne q
      cases c with
      | zero =>
        have e : nI 0 - 1 = (-1) := by decide
        rw [e] at h2
        have a1 := Int32.le_iff_toInt_le.mp h1
        have a2 := Int32.le_iff_toInt_le.mp h2
        have e1 : (0 : Int32).toInt = 0 := rfl
        have e2 : (-1 : Int32).toInt = -1 := rfl
        omega
      | succ c =>
        rw [nI_pred] at h2
        obtain ⟨j, hj, e⟩ := nI_of2 (nI_toInt (by omega)) (Int32.not_lt.mpr h1) h2
        exact ⟨j, by omega, e⟩
theorem rg_cases2 (v hi : Int32) (n : Nat) (hn : hi.toInt = n) : rg v 0 hi = 0 ∨ (rg v 0 hi = 1 ∧ ∃ j, j ≤ n ∧ v = nI j) := by
  by_cases q : rg v 0 hi = 0
  · exact Or.inl q
  · refine Or.inr ⟨?_, rg_nat hn q⟩
    unfold rg at q ⊢
    by_cases z : 0 ≤ v ∧ v ≤ hi
    · rw [if_pos z]
    · rw [if_neg z] at q; exact absurd rfl q
theorem rg_idx {v : Int32} {c : Nat} (hc : c < 2 ^ 31) (h : ¬ rg v 0 (nI c - 1) = 0) : ∃ j, j < c ∧ v = nI j := (rg_cases v hc).elim (fun q => absurd q h) (fun q => q.2)
theorem rg_nat2 {v hi : Int32} {a n : Nat} (ha : a < 2 ^ 31) (hn : hi.toInt = n) (h : ¬ rg v (nI a) hi = 0) : ∃ j : Nat, a ≤ j ∧ j ≤ n ∧ v = nI j := by
  obtain ⟨h1, h2⟩ := rg_ne h
  have a1 := Int32.le_iff_toInt_le.mp h1
  have a2 := Int32.le_iff_toInt_le.mp h2
  rw [nI_toInt ha] at a1
  have h0 : ¬ v < 0 := fun z => by
    have := Int32.lt_iff_toInt_lt.mp z
    have e0 : (0 : Int32).toInt = 0 := rfl
    omega
  obtain ⟨j, hj, e⟩ := nI_of h0
  rw [e, nI_toInt hj] at a1 a2
  exact ⟨j, by omega, by omega, e⟩
theorem rg_neg {v x : Int32} (h : v < 0) : rg v 0 x = 0 := by
  unfold rg
  rw [if_neg (fun z => (Int32.not_le.mpr h) z.1)]
theorem rg_big {t c : Nat} (h : c ≤ t) (ht : t < 2 ^ 31) : rg (nI t) 0 (nI c - 1) = 0 := by
  rcases rg_cases (nI t) (c := c) (by omega) with q | ⟨q, j, hj, e⟩
  · exact q
  · have := nI_inj ht (by omega) e
    omega
theorem rg_yes {t c : Nat} (h : t < c) (hc : c < 2 ^ 31) : ¬ rg (nI t) 0 (nI c - 1) = 0 := by
  cases c with
  | zero => omega
  | succ c =>
    rw [nI_pred]
    unfold rg
    rw [if_pos ⟨nI_pos' (by omega), nI_le (by omega) (by omega)⟩]
    decide
theorem nI_nle_m1 {j : Nat} (h : j < 2 ^ 31) : ¬ nI j ≤ (-1) := fun z => by
  have := Int32.le_iff_toInt_le.mp z
  rw [nI_toInt h] at this
  have e2 : (-1 : Int32).toInt = -1 := rfl
  omega
theorem rg_lt {t a : Nat} {hi : Int32} (h : t < a) (ha : a < 2 ^ 31) : rg (nI t) (nI a) hi = 0 := by
  unfold rg
  rw [if_neg (fun z => nI_ge h ha z.1)]
theorem rg_w1 {w : Int32} {L : Nat} (hL : L ≤ 1000000) (h : rg w 1 1000000 = 0) : rg w (nI L + 1) 1000000 = 0 := by
  by_cases q : rg w (nI L + 1) 1000000 = 0
  · exact q
  · rw [nI_1] at q
    obtain ⟨j, h1, h2, e⟩ := rg_nat2 (n := 1000000) (by omega) rfl q
    subst e
    have : rg (nI j) 1 1000000 = 1 := by
      unfold rg
      rw [if_pos ⟨(show nI 1 ≤ nI j from nI_le (by omega) (by omega)), (show nI j ≤ nI 1000000 from nI_le (by omega) (by decide))⟩]
    rw [this] at h
    exact absurd h (by decide)
theorem rg_w2 {w L : Nat} (hL : L ≤ 1000000) (h : w ≤ L) : rg (nI w) (nI L + 1) 1000000 = 0 := by
  rw [nI_1]; exact rg_lt (by omega) (by omega)
theorem rg_w3 {w L : Nat} (hw : w ≤ 1000000) (h : L < w) : ¬ rg (nI w) (nI L + 1) 1000000 = 0 := by
  rw [nI_1]
  unfold rg
  rw [if_pos ⟨nI_le (by omega) (by omega), (show nI w ≤ nI 1000000 from nI_le (by omega) (by decide))⟩]
  decide
theorem nat_01 (n : Nat) : n = 0 ∨ ∃ t, n = t + 1 := by
  cases n with
  | zero => exact Or.inl rfl
  | succ t => exact Or.inr ⟨t, rfl⟩
theorem nI_dec (t : Nat) : nI t + Int32.ofInt (-1) = nI t - 1 := by
  rw [Int32.sub_eq_add_neg]; rfl
theorem nI_dn {t : Nat} (h : 0 < t) : nI t + Int32.ofInt (-1) = nI (t - 1) := by
  rw [nI_dec]
  have : nI (t - 1 + 1) - 1 = nI (t - 1) := nI_pred (t - 1)
  rwa [Nat.sub_add_cancel h] at this
theorem rg_c01 (v lo hi : Int32) : rg v lo hi = 0 ∨ (rg v lo hi = 1 ∧ lo ≤ v ∧ v ≤ hi) := by
  unfold rg
  by_cases z : lo ≤ v ∧ v ≤ hi
  · rw [if_pos z]; exact Or.inr ⟨rfl, z⟩
  · rw [if_neg z]; exact Or.inl rfl
section ROWN
variable {p : Program} {l : Launch} {e : Env} {R : Room} {s : State} {m : MethodId} {args : Array Value} {below : List Frame} {meth : Method} {c : Code} {H : Heap} {locs : List Loc} {cells slots : Nat} {Q : State → Prop}
variable {cc : ByteArray} {pc : Nat} {ls : Array Slot} {rest : List Value} {D : va_G} {a : Nat → Nat} {cI cZ : ClassId} {f : FF} {u : UU} {own : String} {nL : Nat}
theorem aldN {n : Nat} (k j : Nat) (cx : Cx p s m args c cc own nL D cI cZ) (hw : Wd D a cI cZ s f u H locs) (ha : (wd a cI cZ f u)[k]? = some (a k, .inl (cI, n, .inl (f k)))) (hj : j < n) (hn : n < 2 ^ 31) (hdg : decode cc pc = .ok (.iaload, 1)) (kk : W p l e R s m args below meth c H locs cells slots Q (F0 m (pc + 1) ls (.int (f k j) :: rest))) : W p l e R s m args below meth c H locs cells slots Q (F0 m pc ls (.int (nI j) :: .ref (a k) :: rest)) :=
  aldW k cx hw ha (vp_in_nI hj hn) hdg (by rw [nI_clamp (by omega)]; exact kk)
theorem zldN {n : Nat} (k j : Nat) (cx : Cx p s m args c cc own nL D cI cZ) (hw : Wd D a cI cZ s f u H locs) (ha : (wd a cI cZ f u)[k]? = some (a k, .inl (cZ, n, .inl (f k)))) (hj : j < n) (hn : n < 2 ^ 31) (hdg : decode cc pc = .ok (.baload, 1)) (kk : W p l e R s m args below meth c H locs cells slots Q (F0 m (pc + 1) ls (.int (f k j) :: rest))) : W p l e R s m args below meth c H locs cells slots Q (F0 m pc ls (.int (nI j) :: .ref (a k) :: rest)) :=
  zldW k cx hw ha (vp_in_nI hj hn) hdg (by rw [nI_clamp (by omega)]; exact kk)
theorem astN {x : Int32} {n : Nat} (k j : Nat) (cx : Cx p s m args c cc own nL D cI cZ) (hw : Wd D a cI cZ s f u H locs) (ha : (wd a cI cZ f u)[k]? = some (a k, .inl (cI, n, .inl (f k)))) (hs : ∀ g : Nat → Int32, (wd a cI cZ f u).set k (a k, .inl (cI, n, .inl g)) = wd a cI cZ (up f k g) u) (hj : j < n) (hn : n < 2 ^ 31) (hdg : decode cc pc = .ok (.iastore, 1)) (kk : ∀ (H : Heap) (locs : List Loc), Wd D a cI cZ s (up f k (upd (f k) j x)) u H locs → W p l e R s m args below meth c H locs cells slots Q (F0 m (pc + 1) ls rest)) : W p l e R s m args below meth c H locs cells slots Q (F0 m pc ls (.int x :: .int (nI j) :: .ref (a k) :: rest)) :=
  astW k cx hw ha hs (vp_in_nI hj hn) hdg (by rw [nI_clamp (by omega)]; exact kk)
theorem zstN {x : Int32} {n : Nat} (k j : Nat) (cx : Cx p s m args c cc own nL D cI cZ) (hw : Wd D a cI cZ s f u H locs) (ha : (wd a cI cZ f u)[k]? = some (a k, .inl (cZ, n, .inl (f k)))) (hs : ∀ g : Nat → Int32, (wd a cI cZ f u).set k (a k, .inl (cZ, n, .inl g)) = wd a cI cZ (up f k g) u) (hj : j < n) (hn : n < 2 ^ 31) (hdg : decode cc pc = .ok (.bastore, 1)) (kk : ∀ (H : Heap) (locs : List Loc), Wd D a cI cZ s (up f k (upd (f k) j (vp_nar .boolean x))) u H locs → W p l e R s m args below meth c H locs cells slots Q (F0 m (pc + 1) ls rest)) : W p l e R s m args below meth c H locs cells slots Q (F0 m pc ls (.int x :: .int (nI j) :: .ref (a k) :: rest)) :=
  zstW k cx hw ha hs (vp_in_nI hj hn) hdg (by rw [nI_clamp (by omega)]; exact kk)
end ROWN
def putC (f : FF) (i p : Nat) : FF := up (up f 14 (upd (f 14) p (nI i))) 18 (upd (f 18) i (nI p))
def takeC (f : FF) (i p : Nat) : FF := up (up f 14 (upd (f 14) p (-1))) 18 (upd (f 18) i (-1))
theorem IV.wputC {f : FF} (hi : IV f) {i p : Nat} (h1 : i < 40) (h2 : p < 32) : IV (putC f i p) := IV.b_18 (f := up f 14 (upd (f 14) p (nI i))) (IV.b_14 hi (okx_n h1)) (okx_n h2)
theorem IV.wtakeC {f : FF} (hi : IV f) {i p : Nat} : IV (takeC f i p) := IV.b_18 (f := up f 14 (upd (f 14) p (-1))) (IV.b_14 hi okx_m) okx_m
theorem KK.wputC {S : List Nat} {f g : FF} {i p : Nat} (h : (S.contains 14 && S.contains 18) = true) (q : KK S f g) : KK S f (putC g i p) := by
  simp only [Bool.and_eq_true] at h
  exact KK.wr (g := up g 14 (upd (g 14) p (nI i))) h.2 (by decide) (KK.wr h.1 (by decide) q)
theorem KK.wtakeC {S : List Nat} {f g : FF} {i p : Nat} (h : (S.contains 14 && S.contains 18) = true) (q : KK S f g) : KK S f (takeC g i p) := by
  simp only [Bool.and_eq_true] at h
  exact KK.wr (g := up g 14 (upd (g 14) p (-1))) h.2 (by decide) (KK.wr h.1 (by decide) q)
theorem putC_same {f : FF} {i p : Nat} : putC f i p 18 i = nI p := pk_us
theorem putC_ne {f : FF} {i p j : Nat} (h : j ≠ i) : putC f i p 18 j = f 18 j := pk_un h
theorem takeC_same {f : FF} {i p : Nat} : takeC f i p 18 i = (-1) := pk_us
theorem takeC_ne {f : FF} {i p j : Nat} (h : j ≠ i) : takeC f i p 18 j = f 18 j := pk_un h
def putM (f : FF) (i p : Nat) : FF := up (up f 42 (upd (f 42) p (nI i))) 47 (upd (f 47) i (nI p))
def takeM (f : FF) (i p : Nat) : FF := up (up f 42 (upd (f 42) p (-1))) 47 (upd (f 47) i (-1))
theorem IV.wputM {f : FF} (hi : IV f) {i p : Nat} (h1 : i < 40) (h2 : p < 32) : IV (putM f i p) := IV.b_47 (f := up f 42 (upd (f 42) p (nI i))) (IV.b_42 hi (okx_n h1)) (okx_n h2)
theorem IV.wtakeM {f : FF} (hi : IV f) {i p : Nat} : IV (takeM f i p) := IV.b_47 (f := up f 42 (upd (f 42) p (-1))) (IV.b_42 hi okx_m) okx_m
theorem KK.wputM {S : List Nat} {f g : FF} {i p : Nat} (h : (S.contains 42 && S.contains 47) = true) (q : KK S f g) : KK S f (putM g i p) := by
  simp only [Bool.and_eq_true] at h
  exact KK.wr (g := up g 42 (upd (g 42) p (nI i))) h.2 (by decide) (KK.wr h.1 (by decide) q)
theorem KK.wtakeM {S : List Nat} {f g : FF} {i p : Nat} (h : (S.contains 42 && S.contains 47) = true) (q : KK S f g) : KK S f (takeM g i p) := by
  simp only [Bool.and_eq_true] at h
  exact KK.wr (g := up g 42 (upd (g 42) p (-1))) h.2 (by decide) (KK.wr h.1 (by decide) q)
theorem putM_same {f : FF} {i p : Nat} : putM f i p 47 i = nI p := pk_us
theorem putM_ne {f : FF} {i p j : Nat} (h : j ≠ i) : putM f i p 47 j = f 47 j := pk_un h
theorem takeM_same {f : FF} {i p : Nat} : takeM f i p 47 i = (-1) := pk_us
theorem takeM_ne {f : FF} {i p j : Nat} (h : j ≠ i) : takeM f i p 47 j = f 47 j := pk_un h
