-- after: 9z.pd
/-- another law's part in the model's row, and in the class -/
theorem J_g {v : Sto} {g g' : Nat → Int32} {T W : Nat} (h : J v g T W) (hg : ∀ j, j < 1080 → j ≠ 2 → j ≠ 3 → g' j = g j) (hl : LKl v g') : J v g' T W := by
  obtain ⟨⟨a1, a2, a3, a4, a5, a6, a7, a8, a9⟩, ⟨b1, b2, b3, b4, b5, b6, b7, b8, b9, b10, b11, b12, b13, b14, b15, b16, b17⟩, _, h4, h5, h6⟩ := h
  have hlc : ix (v 3 7) ≤ 80 := by
    obtain ⟨lc, hc, e⟩ := h4.2.2.2.2.1
    rw [e, ix_nI (by omega)]; exact hc
  refine ⟨⟨fun r hr => (hg _ (by omega) (by omega) (by omega)).trans (a1 r hr), fun r hr => (hg _ (by omega) (by omega) (by omega)).trans (a2 r hr), fun r hr => (hg _ (by omega) (by omega) (by omega)).trans (a3 r hr), fun r hr => (hg _ (by omega) (by omega) (by omega)).trans (a4 r hr), (hg _ (by omega) (by omega) (by omega)).trans a5, (hg _ (by omega) (by omega) (by omega)).trans a6, (hg _ (by omega) (by omega) (by omega)).trans a7, (hg _ (by omega) (by omega) (by omega)).trans a8, (hg _ (by omega) (by omega) (by omega)).trans a9⟩, ⟨(hg _ (by omega) (by omega) (by omega)).trans b1, (hg _ (by omega) (by omega) (by omega)).trans b2, b3, b4, (hg _ (by omega) (by omega) (by omega)).trans b5, (hg _ (by omega) (by omega) (by omega)).trans b6, (hg _ (by omega) (by omega) (by omega)).trans b7, b8, b9, fun r hr => (hg _ (by omega) (by omega) (by omega)).trans (b10 r hr), fun r hr => (hg _ (by omega) (by omega) (by omega)).trans (b11 r hr), fun r hr => (hg _ (by omega) (by omega) (by omega)).trans (b12 r hr), fun r hr => (hg _ (by omega) (by omega) (by omega)).trans (b13 r hr), fun r hr => (hg _ (by omega) (by omega) (by omega)).trans (b14 r hr), fun r hr => (hg _ (by omega) (by omega) (by omega)).trans (b15 r hr), fun r hr => (hg _ (by omega) (by omega) (by omega)).trans (b16 r hr), fun r hr => (hg _ (by omega) (by omega) (by omega)).trans (b17 r hr)⟩, hl, h4, fun k hk => ?_, h6⟩
  have := h5 k hk
  exact ⟨(hg _ (by omega) (by omega) (by omega)).trans this.1, (hg _ (by omega) (by omega) (by omega)).trans this.2.1, (hg _ (by omega) (by omega) (by omega)).trans this.2.2.1, (hg _ (by omega) (by omega) (by omega)).trans this.2.2.2⟩
theorem J_l {v v' : Sto} {g g' : Nat → Int32} {T W : Nat} (h : J v g T W) (hv : ∀ k, 3 ≤ k → k ≤ 18 → v' k = v k) (hg : ∀ j, j < 1080 → j ≠ 2 → j ≠ 3 → g' j = g j) (hl : LKl v' g') : J v' g' T W := by
  let x : Sto := fun k => if 19 ≤ k ∧ k ≤ 23 then v k else v' k
  have hx : J x g T W := J_v h (fun k h1 h2 => by
    show (if 19 ≤ k ∧ k ≤ 23 then v k else v' k) = v k
    by_cases z : 19 ≤ k ∧ k ≤ 23
    · rw [if_pos z]
    · rw [if_neg z]; exact hv k h1 (by omega))
  -- the law's cells of x are v's: put v' there
  have e : ∀ k, ¬ (19 ≤ k ∧ k ≤ 23) → x k = v' k := fun k hk => if_neg hk
  have e3 := e 3 (by omega)
  have e4 := e 4 (by omega)
  have e5 := e 5 (by omega)
  have e6 := e 6 (by omega)
  have e7 := e 7 (by omega)
  have e8 := e 8 (by omega)
  have e9 := e 9 (by omega)
  have e10 := e 10 (by omega)
  have e11 := e 11 (by omega)
  have e12 := e 12 (by omega)
  have e13 := e 13 (by omega)
  have e14 := e 14 (by omega)
  have e15 := e 15 (by omega)
  have e16 := e 16 (by omega)
  have e17 := e 17 (by omega)
  have e18 := e 18 (by omega)
  have ht : LKt v' 3 g := hx.t
  have hr : LKr v' 10 g T W := hx.r
  have hi : TI v' 3 10 T := hx.ti
  have hlg : LGt v' 3 g := hx.lg
  have hri : RI v' 10 T W := hx.ri
  obtain ⟨a1, a2, a3, a4, a5, a6, a7, a8, a9⟩ := ht
  obtain ⟨b1, b2, b3, b4, b5, b6, b7, b8, b9, b10, b11, b12, b13, b14, b15, b16, b17⟩ := hr
  have hlc : ix (v' 3 7) ≤ 80 := by
    obtain ⟨lc, hc, e⟩ := hi.2.2.2.2.1
    rw [e, ix_nI (by omega)]; exact hc
  refine ⟨⟨fun r hr => (hg _ (by omega) (by omega) (by omega)).trans (a1 r hr), fun r hr => (hg _ (by omega) (by omega) (by omega)).trans (a2 r hr), fun r hr => (hg _ (by omega) (by omega) (by omega)).trans (a3 r hr), fun r hr => (hg _ (by omega) (by omega) (by omega)).trans (a4 r hr), (hg _ (by omega) (by omega) (by omega)).trans a5, (hg _ (by omega) (by omega) (by omega)).trans a6, (hg _ (by omega) (by omega) (by omega)).trans a7, (hg _ (by omega) (by omega) (by omega)).trans a8, (hg _ (by omega) (by omega) (by omega)).trans a9⟩, ⟨(hg _ (by omega) (by omega) (by omega)).trans b1, (hg _ (by omega) (by omega) (by omega)).trans b2, b3, b4, (hg _ (by omega) (by omega) (by omega)).trans b5, (hg _ (by omega) (by omega) (by omega)).trans b6, (hg _ (by omega) (by omega) (by omega)).trans b7, b8, b9, fun r hr => (hg _ (by omega) (by omega) (by omega)).trans (b10 r hr), fun r hr => (hg _ (by omega) (by omega) (by omega)).trans (b11 r hr), fun r hr => (hg _ (by omega) (by omega) (by omega)).trans (b12 r hr), fun r hr => (hg _ (by omega) (by omega) (by omega)).trans (b13 r hr), fun r hr => (hg _ (by omega) (by omega) (by omega)).trans (b14 r hr), fun r hr => (hg _ (by omega) (by omega) (by omega)).trans (b15 r hr), fun r hr => (hg _ (by omega) (by omega) (by omega)).trans (b16 r hr), fun r hr => (hg _ (by omega) (by omega) (by omega)).trans (b17 r hr)⟩, hl, hi, fun k hk => ?_, hri⟩
  have := hlg k hk
  exact ⟨(hg _ (by omega) (by omega) (by omega)).trans this.1, (hg _ (by omega) (by omega) (by omega)).trans this.2.1, (hg _ (by omega) (by omega) (by omega)).trans this.2.2.1, (hg _ (by omega) (by omega) (by omega)).trans this.2.2.2⟩
theorem LW_b {v : Sto} : ∀ (t : List LN) (l n : Nat), LWp v 19 l n t → v 21 l = nI n → n + lenS t ≤ 400 → ∀ i, i ≤ t.length → ∃ m, v 21 (l + i) = nI m ∧ n ≤ m ∧ m ≤ 400 ∧ (i < t.length → ∃ m', v 21 (l + i + 1) = nI m' ∧ m ≤ m' ∧ m' ≤ 400)
  | [], l, n, _, h0, hb, i, hi => by
    have : i = 0 := by simpa using hi
    subst this
    exact ⟨n, h0, Nat.le_refl _, by omega, fun q => absurd q (by simp)⟩
  | x :: t, l, n, h, h0, hb, i, hi => by
    obtain ⟨_, _, _, h4, _, h6⟩ := h
    have hb' : n + x.2.2.length + lenS t ≤ 400 := by
      have : lenS (x :: t) = x.2.2.length + lenS t := rfl
      omega
    match i, hi with
    | 0, _ => exact ⟨n, h0, Nat.le_refl _, by omega, fun _ => ⟨n + x.2.2.length, h4, by omega, by omega⟩⟩
    | i + 1, hi =>
      obtain ⟨m, e1, e2, e3, e4⟩ := LW_b t (l + 1) (n + x.2.2.length) h6 h4 hb' i (by simpa using hi)
      refine ⟨m, by rw [show l + (i + 1) = l + 1 + i by omega]; exact e1, by omega, e3, fun q => ?_⟩
      obtain ⟨m', f1, f2, f3⟩ := e4 (by simpa using q)
      exact ⟨m', by rw [show l + (i + 1) + 1 = l + 1 + i + 1 by omega]; exact f1, f2, f3⟩
theorem LW_I {v : Sto} {t : List LN} (h : LWp v 19 0 0 t) (h0 : v 21 0 = nI 0) (hb : lenS t ≤ 400) (hn : t.length ≤ 12) (h5 : v 19 5 = nI t.length) : lawI v := by
  have key := LW_b t 0 0 h h0 (by omega)
  refine Or.inr ⟨t.length, ⟨hn, fun l hl => ?_, fun l hl => ?_⟩, h5⟩
  · obtain ⟨m, e1, _, e3, _⟩ := key l hl
    rw [Nat.zero_add] at e1
    rw [e1, ix_nI (by omega)]; exact ⟨rfl, e3⟩
  · obtain ⟨m, e1, _, e3, e4⟩ := key l (by omega)
    obtain ⟨m', f1, f2, f3⟩ := e4 hl
    rw [Nat.zero_add] at e1 f1
    rw [e1, f1, ix_nI (by omega), ix_nI (by omega)]; exact f2
