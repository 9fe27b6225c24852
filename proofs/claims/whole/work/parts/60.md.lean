-- after: 38.r 39.s 40.t 47.str 48.tx 49.ty 50.tt 51.tu 52.tv 59.mc
theorem cpT_1 {u : Sto} {t o j : Nat} (h : o + 6 < t ∨ t + 6 < o) (hj : j < 168) : cpT u t o (t + 1) j = u (o + 1) j := by
  simp (disch := omega) only [cpT, su_cell, sc_ne, sc_at, cpy, if_pos]
theorem cpT_2 {u : Sto} {t o j : Nat} (h : o + 6 < t ∨ t + 6 < o) (hj : j < 168) : cpT u t o (t + 2) j = u (o + 2) j := by
  simp (disch := omega) only [cpT, su_cell, sc_ne, sc_at, cpy, if_pos]
theorem cpT_3 {u : Sto} {t o j : Nat} (h : o + 6 < t ∨ t + 6 < o) (hj : j < 168) : cpT u t o (t + 3) j = u (o + 3) j := by
  simp (disch := omega) only [cpT, su_cell, sc_ne, sc_at, cpy, if_pos]
theorem cpT_4 {u : Sto} {t o j : Nat} (h : o + 6 < t ∨ t + 6 < o) (hj : j < 10) : cpT u t o (t + 4) j = u (o + 4) j := by
  simp (disch := omega) only [cpT, su_cell, sc_ne, sc_at, cpy, if_pos]
theorem cpT_5 {u : Sto} {t o j : Nat} (h : o + 6 < t ∨ t + 6 < o) (hj : j < 10) : cpT u t o (t + 5) j = u (o + 5) j := by
  simp (disch := omega) only [cpT, su_cell, sc_ne, sc_at, cpy, if_pos]
theorem cpT_6 {u : Sto} {t o j : Nat} (h : o + 6 < t ∨ t + 6 < o) (hj : j < 80) : cpT u t o (t + 6) j = u (o + 6) j := by
  simp (disch := omega) only [cpT, su_cell, sc_ne, sc_at, cpy, if_pos]
theorem cpT_s6 {u : Sto} {t o : Nat} (h : o + 6 < t ∨ t + 6 < o) : cpT u t o t 6 = u o 6 := by
  simp (disch := omega) only [cpT, su_at, pk_us, pk_un, su_cell, sc_ne]
theorem cpT_s7 {u : Sto} {t o : Nat} (h : o + 6 < t ∨ t + 6 < o) : cpT u t o t 7 = u o 7 := by
  simp (disch := omega) only [cpT, su_at, pk_us, pk_un, su_cell, sc_ne]
theorem cpT_s8 {u : Sto} {t o : Nat} (h : o + 6 < t ∨ t + 6 < o) : cpT u t o t 8 = u o 8 := by
  simp (disch := omega) only [cpT, su_at, pk_us, pk_un, su_cell, sc_ne]
theorem cpT_s9 {u : Sto} {t o : Nat} (h : o + 6 < t ∨ t + 6 < o) : cpT u t o t 9 = u o 9 := by
  simp (disch := omega) only [cpT, su_at, pk_us, pk_un, su_cell, sc_ne]
theorem cpT_s10 {u : Sto} {t o : Nat} (h : o + 6 < t ∨ t + 6 < o) : cpT u t o t 10 = u o 10 := by
  simp (disch := omega) only [cpT, su_at, pk_us, pk_un, su_cell, sc_ne]
theorem cpT_s11 {u : Sto} {t o : Nat} (h : o + 6 < t ∨ t + 6 < o) : cpT u t o t 11 = u o 11 := by
  simp (disch := omega) only [cpT, su_at, pk_us, pk_un, su_cell, sc_ne]
theorem cpR_1 {u : Sto} {t o j : Nat} (h : o + 8 < t ∨ t + 8 < o) (hj : j < 10) : cpR u t o (t + 1) j = u (o + 1) j := by
  simp (disch := omega) only [cpR, su_cell, sc_ne, sc_at, cpy, if_pos]
theorem cpR_2 {u : Sto} {t o j : Nat} (h : o + 8 < t ∨ t + 8 < o) (hj : j < 10) : cpR u t o (t + 2) j = u (o + 2) j := by
  simp (disch := omega) only [cpR, su_cell, sc_ne, sc_at, cpy, if_pos]
theorem cpR_3 {u : Sto} {t o j : Nat} (h : o + 8 < t ∨ t + 8 < o) (hj : j < 10) : cpR u t o (t + 3) j = u (o + 3) j := by
  simp (disch := omega) only [cpR, su_cell, sc_ne, sc_at, cpy, if_pos]
theorem cpR_4 {u : Sto} {t o j : Nat} (h : o + 8 < t ∨ t + 8 < o) (hj : j < 168) : cpR u t o (t + 4) j = u (o + 4) j := by
  simp (disch := omega) only [cpR, su_cell, sc_ne, sc_at, cpy, if_pos]
theorem cpR_5 {u : Sto} {t o j : Nat} (h : o + 8 < t ∨ t + 8 < o) (hj : j < 8) : cpR u t o (t + 5) j = u (o + 5) j := by
  simp (disch := omega) only [cpR, su_cell, sc_ne, sc_at, cpy, if_pos]
theorem cpR_6 {u : Sto} {t o j : Nat} (h : o + 8 < t ∨ t + 8 < o) (hj : j < 8) : cpR u t o (t + 6) j = u (o + 6) j := by
  simp (disch := omega) only [cpR, su_cell, sc_ne, sc_at, cpy, if_pos]
theorem cpR_7 {u : Sto} {t o j : Nat} (h : o + 8 < t ∨ t + 8 < o) (hj : j < 8) : cpR u t o (t + 7) j = u (o + 7) j := by
  simp (disch := omega) only [cpR, su_cell, sc_ne, sc_at, cpy, if_pos]
theorem cpR_8 {u : Sto} {t o j : Nat} (h : o + 8 < t ∨ t + 8 < o) (hj : j < 8) : cpR u t o (t + 8) j = u (o + 8) j := by
  simp (disch := omega) only [cpR, su_cell, sc_ne, sc_at, cpy, if_pos]
theorem cpR_s8 {u : Sto} {t o : Nat} (h : o + 8 < t ∨ t + 8 < o) : cpR u t o t 8 = u o 8 := by
  simp (disch := omega) only [cpR, su_at, pk_us, pk_un, su_cell, sc_ne]
theorem cpR_s9 {u : Sto} {t o : Nat} (h : o + 8 < t ∨ t + 8 < o) : cpR u t o t 9 = u o 9 := by
  simp (disch := omega) only [cpR, su_at, pk_us, pk_un, su_cell, sc_ne]
theorem cpR_s10 {u : Sto} {t o : Nat} (h : o + 8 < t ∨ t + 8 < o) : cpR u t o t 10 = u o 10 := by
  simp (disch := omega) only [cpR, su_at, pk_us, pk_un, su_cell, sc_ne]
theorem cpR_s11 {u : Sto} {t o : Nat} (h : o + 8 < t ∨ t + 8 < o) : cpR u t o t 11 = u o 11 := by
  simp (disch := omega) only [cpR, su_at, pk_us, pk_un, su_cell, sc_ne]
theorem cpR_s12 {u : Sto} {t o : Nat} (h : o + 8 < t ∨ t + 8 < o) : cpR u t o t 12 = u o 12 := by
  simp (disch := omega) only [cpR, su_at, pk_us, pk_un, su_cell, sc_ne]
theorem cpL_1 {u : Sto} {t o j : Nat} (h : o + 5 < t ∨ t + 5 < o) (hj : j < 400) : cpL u t o (t + 1) j = u (o + 1) j := by
  simp (disch := omega) only [cpL, su_cell, sc_ne, sc_at, cpy, if_pos]
theorem cpL_2 {u : Sto} {t o j : Nat} (h : o + 5 < t ∨ t + 5 < o) (hj : j < 13) : cpL u t o (t + 2) j = u (o + 2) j := by
  simp (disch := omega) only [cpL, su_cell, sc_ne, sc_at, cpy, if_pos]
theorem cpL_3 {u : Sto} {t o j : Nat} (h : o + 5 < t ∨ t + 5 < o) (hj : j < 12) : cpL u t o (t + 3) j = u (o + 3) j := by
  simp (disch := omega) only [cpL, su_cell, sc_ne, sc_at, cpy, if_pos]
theorem cpL_4 {u : Sto} {t o j : Nat} (h : o + 5 < t ∨ t + 5 < o) (hj : j < 12) : cpL u t o (t + 4) j = u (o + 4) j := by
  simp (disch := omega) only [cpL, su_cell, sc_ne, sc_at, cpy, if_pos]
theorem cpL_s5 {u : Sto} {t o : Nat} (h : o + 5 < t ∨ t + 5 < o) : cpL u t o t 5 = u o 5 := by
  simp (disch := omega) only [cpL, su_at, pk_us, pk_un, su_cell, sc_ne]
theorem cpR_c {u : Sto} {t o k : Nat} (h : k < t ∨ t + 8 < k) : cpR u t o k = u k := by
  simp (disch := omega) only [cpR, su_cell, sc_ne]
theorem cpL_c {u : Sto} {t o k : Nat} (h : k < t ∨ t + 5 < k) : cpL u t o k = u k := by
  simp (disch := omega) only [cpL, su_cell, sc_ne]
def eqx (a b : Sto) : Prop := ∀ k, k < 159 ∨ 161 < k → a k = b k
theorem eqx.refl (a : Sto) : eqx a a := fun _ _ => rfl
theorem eqx_su {a b : Sto} (h : eqx a b) {k j : Nat} {x y : Int32} (hx : x = y) : eqx (su a k j x) (su b k j y) := by
  intro c hc
  by_cases e : c = k
  · subst e; rw [su_at, su_at, h c hc, hx]
  · rw [su_cell _ _ e, su_cell _ _ e]; exact h c hc
theorem eqx_sc {a b : Sto} (h : eqx a b) {k o N : Nat} (hk : k < 159) (ho : o < 159) : eqx (sc a k (cpy (a o) (a k) N)) (sc b k (cpy (b o) (b k) N)) := by
  intro c hc
  rw [h o (Or.inl ho), h k (Or.inl hk)]
  by_cases e : c = k
  · subst e; rw [sc_at, sc_at]
  · rw [sc_ne _ _ e, sc_ne _ _ e]; exact h c hc
theorem eqx_s1 {a b : Sto} (h : eqx a b) {k j o i : Nat} (ho : o < 159) : eqx (su a k j (a o i)) (su b k j (b o i)) := eqx_su h (by rw [h o (Or.inl ho)])
theorem eqx_cpT {a b : Sto} (h : eqx a b) {t o : Nat} (ht : t < 152) (ho : o < 152) : eqx (cpT a t o) (cpT b t o) := by
  have i1 := eqx_sc (N := 168) h (k := t + 1) (o := o + 1) (by omega) (by omega)
  have i2 := eqx_sc (N := 168) i1 (k := t + 2) (o := o + 2) (by omega) (by omega)
  have i3 := eqx_sc (N := 168) i2 (k := t + 3) (o := o + 3) (by omega) (by omega)
  have i4 := eqx_sc (N := 10) i3 (k := t + 4) (o := o + 4) (by omega) (by omega)
  have i5 := eqx_sc (N := 10) i4 (k := t + 5) (o := o + 5) (by omega) (by omega)
  have i6 := eqx_sc (N := 80) i5 (k := t + 6) (o := o + 6) (by omega) (by omega)
  exact eqx_s1 (eqx_s1 (eqx_s1 (eqx_s1 (eqx_s1 (eqx_s1 i6 (by omega)) (by omega)) (by omega)) (by omega)) (by omega)) (by omega)
theorem eqx_cpR {a b : Sto} (h : eqx a b) {t o : Nat} (ht : t < 150) (ho : o < 150) : eqx (cpR a t o) (cpR b t o) := by
  have i1 := eqx_sc (N := 10) h (k := t + 1) (o := o + 1) (by omega) (by omega)
  have i2 := eqx_sc (N := 10) i1 (k := t + 2) (o := o + 2) (by omega) (by omega)
  have i3 := eqx_sc (N := 10) i2 (k := t + 3) (o := o + 3) (by omega) (by omega)
  have i4 := eqx_sc (N := 168) i3 (k := t + 4) (o := o + 4) (by omega) (by omega)
  have i5 := eqx_sc (N := 8) i4 (k := t + 5) (o := o + 5) (by omega) (by omega)
  have i6 := eqx_sc (N := 8) i5 (k := t + 6) (o := o + 6) (by omega) (by omega)
  have i7 := eqx_sc (N := 8) i6 (k := t + 7) (o := o + 7) (by omega) (by omega)
  have i8 := eqx_sc (N := 8) i7 (k := t + 8) (o := o + 8) (by omega) (by omega)
  exact eqx_s1 (eqx_s1 (eqx_s1 (eqx_s1 (eqx_s1 i8 (by omega)) (by omega)) (by omega)) (by omega)) (by omega)
theorem eqx_cpL {a b : Sto} (h : eqx a b) {t o : Nat} (ht : t < 150) (ho : o < 150) : eqx (cpL a t o) (cpL b t o) := by
  have i1 := eqx_sc (N := 400) h (k := t + 1) (o := o + 1) (by omega) (by omega)
  have i2 := eqx_sc (N := 13) i1 (k := t + 2) (o := o + 2) (by omega) (by omega)
  have i3 := eqx_sc (N := 12) i2 (k := t + 3) (o := o + 3) (by omega) (by omega)
  have i4 := eqx_sc (N := 12) i3 (k := t + 4) (o := o + 4) (by omega) (by omega)
  exact eqx_s1 i4 (by omega)
