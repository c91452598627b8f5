def DWc (f : FF) (c : Nat) : Prop := ∀ i j, i < j → j < c → f 33 i ≠ f 33 j
def BPc (f : FF) (c : Nat) : Prop := ¬ f 8 7 = 0 → ∀ j, j < c → ∃ p, p < 32 ∧ f 34 j = nI p
def PDc (f : FF) (w : Nat) : Prop := ∀ j, j < w → ∃ t p, t < 40 ∧ p < 32 ∧ f 33 j = nI t ∧ f 18 t = nI p
def TAc (f : FF) (w c : Nat) : Prop := f 8 4 = nI c ∧ c ≤ 4 ∧ w ≤ c ∧ DWc f c ∧ BPc f c ∧ PDc f w
def TPc (f g : FF) (w c : Nat) : Prop := g 8 4 = f 8 4 ∧ BPc g c ∧ g 33 = f 33 ∧ ∀ t, (∀ j, w ≤ j → j < c → f 33 j ≠ nI t) → g 18 t = f 18 t
theorem TPc_rf {f : FF} {w c : Nat} (h : TAc f w c) : TPc f f w c := ⟨rfl, h.2.2.2.2.1, rfl, fun _ _ => rfl⟩
theorem TAc_dn {f g : FF} {w c t p : Nat} (h : TAc f w c) (q : TPc f g w c) (hw : w < c) (ht : t < 40) (hp : p < 32) (e : g 33 w = nI t) : TAc (putC g t p) (w + 1) c := by
  obtain ⟨h1, h2, h3, h4, h5, h6⟩ := h
  obtain ⟨q1, q2, q3, q4⟩ := q
  refine ⟨q1.trans h1, h2, hw, fun i j hij hj => ?_, q2, fun j hj => ?_⟩
  · show g 33 i ≠ g 33 j
    rw [q3]; exact h4 i j hij hj
  · rcases Nat.lt_or_ge j w with z | z
    · obtain ⟨t1, p1, a1, a2, a3, a4⟩ := h6 j z
      have hne : t1 ≠ t := fun z1 => h4 j w z hw (by rw [a3, z1, ← e, q3])
      refine ⟨t1, p1, a1, a2, by show g 33 j = _; rw [q3]; exact a3, ?_⟩
      rw [putC_ne hne, q4 t1 (fun j2 z2 z3 z4 => h4 j j2 (by omega) z3 (a3.trans z4.symm))]
      exact a4
    · have : j = w := by omega
      subst this
      exact ⟨t, p, ht, hp, e, putC_same⟩
theorem TPc_at {f g k : FF} {w c t p : Nat} (h : TAc f w c) (q : TPc f g w c) (hw : w < c) (ht : t < 40) (e : g 33 w = nI t) (r : TPc (putC g t p) k (w + 1) c) : k 18 t = nI p := by
  obtain ⟨h1, h2, h3, h4, h5, h6⟩ := h
  obtain ⟨q1, q2, q3, q4⟩ := q
  obtain ⟨r1, r2, r3, r4⟩ := r
  rw [r4 t (fun j z1 z2 z3 => h4 w j (by omega) z2 (by rw [← q3, e]; exact z3.symm))]
  exact putC_same
theorem TPc_up {f g k : FF} {w c t p : Nat} (h : TAc f w c) (q : TPc f g w c) (hw : w < c) (e : g 33 w = nI t) (r : TPc (putC g t p) k (w + 1) c) : TPc f (takeC k t p) w c := by
  obtain ⟨h1, h2, h3, h4, h5, h6⟩ := h
  obtain ⟨q1, q2, q3, q4⟩ := q
  obtain ⟨r1, r2, r3, r4⟩ := r
  refine ⟨(show k 8 4 = _ from r1.trans q1), r2, (show k 33 = _ from r3.trans q3), fun t2 z => ?_⟩
  have hne : t2 ≠ t := fun z1 => z w (Nat.le_refl w) hw (by rw [← q3, e, z1])
  rw [takeC_ne hne, r4 t2 (fun j z1 z2 z3 => z j (by omega) z2 (by rw [← q3]; exact z3)), putC_ne hne]
  exact q4 t2 z
def DWm (f : FF) (c : Nat) : Prop := ∀ i j, i < j → j < c → f 59 i ≠ f 59 j
def BPm (f : FF) (c : Nat) : Prop := ¬ f 36 37 = (-1) → ∀ j, j < c → ∃ p, p < 32 ∧ f 60 j = nI p
def PDm (f : FF) (w : Nat) : Prop := ∀ j, j < w → ∃ t p, t < 40 ∧ p < 32 ∧ f 59 j = nI t ∧ f 47 t = nI p
def TAm (f : FF) (w c : Nat) : Prop := f 36 35 = nI c ∧ c ≤ 4 ∧ w ≤ c ∧ DWm f c ∧ BPm f c ∧ PDm f w
def TPm (f g : FF) (w c : Nat) : Prop := g 36 35 = f 36 35 ∧ BPm g c ∧ g 59 = f 59 ∧ ∀ t, (∀ j, w ≤ j → j < c → f 59 j ≠ nI t) → g 47 t = f 47 t
theorem TPm_rf {f : FF} {w c : Nat} (h : TAm f w c) : TPm f f w c := ⟨rfl, h.2.2.2.2.1, rfl, fun _ _ => rfl⟩
theorem TAm_dn {f g : FF} {w c t p : Nat} (h : TAm f w c) (q : TPm f g w c) (hw : w < c) (ht : t < 40) (hp : p < 32) (e : g 59 w = nI t) : TAm (putM g t p) (w + 1) c := by
  obtain ⟨h1, h2, h3, h4, h5, h6⟩ := h
  obtain ⟨q1, q2, q3, q4⟩ := q
  refine ⟨q1.trans h1, h2, hw, fun i j hij hj => ?_, q2, fun j hj => ?_⟩
  · show g 59 i ≠ g 59 j
    rw [q3]; exact h4 i j hij hj
  · rcases Nat.lt_or_ge j w with z | z
    · obtain ⟨t1, p1, a1, a2, a3, a4⟩ := h6 j z
      have hne : t1 ≠ t := fun z1 => h4 j w z hw (by rw [a3, z1, ← e, q3])
      refine ⟨t1, p1, a1, a2, by show g 59 j = _; rw [q3]; exact a3, ?_⟩
      rw [putM_ne hne, q4 t1 (fun j2 z2 z3 z4 => h4 j j2 (by omega) z3 (a3.trans z4.symm))]
      exact a4
    · have : j = w := by omega
      subst this
      exact ⟨t, p, ht, hp, e, putM_same⟩
theorem TPm_at {f g k : FF} {w c t p : Nat} (h : TAm f w c) (q : TPm f g w c) (hw : w < c) (ht : t < 40) (e : g 59 w = nI t) (r : TPm (putM g t p) k (w + 1) c) : k 47 t = nI p := by
  obtain ⟨h1, h2, h3, h4, h5, h6⟩ := h
  obtain ⟨q1, q2, q3, q4⟩ := q
  obtain ⟨r1, r2, r3, r4⟩ := r
  rw [r4 t (fun j z1 z2 z3 => h4 w j (by omega) z2 (by rw [← q3, e]; exact z3.symm))]
  exact putM_same
theorem TPm_up {f g k : FF} {w c t p : Nat} (h : TAm f w c) (q : TPm f g w c) (hw : w < c) (e : g 59 w = nI t) (r : TPm (putM g t p) k (w + 1) c) : TPm f (takeM k t p) w c := by
  obtain ⟨h1, h2, h3, h4, h5, h6⟩ := h
  obtain ⟨q1, q2, q3, q4⟩ := q
  obtain ⟨r1, r2, r3, r4⟩ := r
  refine ⟨(show k 36 35 = _ from r1.trans q1), r2, (show k 59 = _ from r3.trans q3), fun t2 z => ?_⟩
  have hne : t2 ≠ t := fun z1 => z w (Nat.le_refl w) hw (by rw [← q3, e, z1])
  rw [takeM_ne hne, r4 t2 (fun j z1 z2 z3 => z j (by omega) z2 (by rw [← q3]; exact z3)), putM_ne hne]
  exact q4 t2 z
def LWc (f : FF) (v : Nat) : Prop := ∃ w, w ≤ 4 ∧ f 8 4 = nI w ∧ (∀ i, i < w → ∃ t, t < v ∧ f 33 i = nI t) ∧ DWc f w
theorem LWc_skip {f : FF} {v : Nat} (h : LWc f v) : LWc f (v + 1) := by
  obtain ⟨w, h1, h2, h3, h4⟩ := h
  exact ⟨w, h1, h2, fun i hi => by obtain ⟨t, a, b⟩ := h3 i hi; exact ⟨t, by omega, b⟩, h4⟩
theorem LWc_put {f g : FF} {v w : Nat} (hv : v < 40) (h1 : w + 1 ≤ 4) (h3 : ∀ i, i < w → ∃ t, t < v ∧ f 33 i = nI t) (h4 : DWc f w) (e1 : g 8 4 = nI (w + 1)) (e2 : g 33 = upd (f 33) w (nI v)) : LWc g (v + 1) := by
  refine ⟨w + 1, h1, e1, fun i hi => ?_, fun i j hij hj => ?_⟩
  · rw [e2]
    by_cases z : i = w
    · subst z; exact ⟨v, by omega, pk_us⟩
    · obtain ⟨t, a, b⟩ := h3 i (by omega)
      exact ⟨t, by omega, by rw [pk_un z]; exact b⟩
  · rw [e2]
    by_cases z : j = w
    · subst z
      obtain ⟨t, a, b⟩ := h3 i hij
      rw [pk_us, pk_un (by omega), b]
      exact fun z => by have := nI_inj (by omega) (by omega) z; omega
    · rw [pk_un z, pk_un (by omega)]
      exact h4 i j hij (by omega)
def LWm (f : FF) (v : Nat) : Prop := ∃ w, w ≤ 4 ∧ f 36 35 = nI w ∧ (∀ i, i < w → ∃ t, t < v ∧ f 59 i = nI t) ∧ DWm f w
theorem LWm_skip {f : FF} {v : Nat} (h : LWm f v) : LWm f (v + 1) := by
  obtain ⟨w, h1, h2, h3, h4⟩ := h
  exact ⟨w, h1, h2, fun i hi => by obtain ⟨t, a, b⟩ := h3 i hi; exact ⟨t, by omega, b⟩, h4⟩
theorem LWm_put {f g : FF} {v w : Nat} (hv : v < 40) (h1 : w + 1 ≤ 4) (h3 : ∀ i, i < w → ∃ t, t < v ∧ f 59 i = nI t) (h4 : DWm f w) (e1 : g 36 35 = nI (w + 1)) (e2 : g 59 = upd (f 59) w (nI v)) : LWm g (v + 1) := by
  refine ⟨w + 1, h1, e1, fun i hi => ?_, fun i j hij hj => ?_⟩
  · rw [e2]
    by_cases z : i = w
    · subst z; exact ⟨v, by omega, pk_us⟩
    · obtain ⟨t, a, b⟩ := h3 i (by omega)
      exact ⟨t, by omega, by rw [pk_un z]; exact b⟩
  · rw [e2]
    by_cases z : j = w
    · subst z
      obtain ⟨t, a, b⟩ := h3 i hij
      rw [pk_us, pk_un (by omega), b]
      exact fun z => by have := nI_inj (by omega) (by omega) z; omega
    · rw [pk_un z, pk_un (by omega)]
      exact h4 i j hij (by omega)
theorem bp_st {g : Nat → Int32} {v p : Nat} (h : ∀ j, j < v → ∃ q, q < 32 ∧ g j = nI q) (hp : p < 32) : ∀ j, j < v + 1 → ∃ q, q < 32 ∧ upd g v (nI p) j = nI q := fun j hj => by
  by_cases z : j = v
  · subst z; exact ⟨p, hp, pk_us⟩
  · obtain ⟨q, a, b⟩ := h j (by omega)
    exact ⟨q, a, by rw [pk_un z]; exact b⟩
