-- after: a4.pi
theorem JD_ten {v u : Sto} {T W : Nat} {c a b m : Int32} {v1 : Sto} (h : J (dlw v) (u 179) T W) (hT : T < 10) (hm : m = -1 ∨ ∃ x, x < T ∧ m = nI x ∧ v 37 x = -1) (e31 : v1 31 = upd (v 31) T c) (e34 : v1 34 12 = v 34 12 + c) (e35 : ∀ j, j ≠ 12 → v1 34 j = v 34 j) (ec : ∀ k, k ≠ 31 → k ≠ 34 → v1 k = v k) : J (dlw (atS v1 T a b m)) (cmS u T c a b m 179) (T + 1) W := by
  have k7 : dlw v 7 = v 31 := dl_i (by omega) (by omega)
  have k10 : dlw v 10 = v 34 := dl_i (by omega) (by omega)
  have k11 : dlw v 11 = v 35 := dl_i (by omega) (by omega)
  have k12 : dlw v 12 = v 36 := dl_i (by omega) (by omega)
  have k13 : dlw v 13 = v 37 := dl_i (by omega) (by omega)
  have at34 : ∀ j, j ≠ 8 → atS v1 T a b m 34 j = v1 34 j := fun j hj => by unfold atS; rw [su_i hj, su_cell _ _ (by decide), su_cell _ _ (by decide), su_cell _ _ (by decide)]
  have atc : ∀ k, k ≠ 34 → k ≠ 35 → k ≠ 36 → k ≠ 37 → atS v1 T a b m k = v1 k := fun k h1 h2 h3 h4 => by unfold atS; rw [su_cell _ _ h1, su_cell _ _ h4, su_cell _ _ h3, su_cell _ _ h2]
  refine J_ten (v := dlw v) (c := c) (a := a) (b := b) (m := m) h hT ?_ ?_ ?_ ?_ ?_ ?_ ?_ ?_ ?_ ?_ ?_ ?_ ?_ ?_ ?_ ?_
  · rw [k13]; exact hm
  · rw [dl_i (by omega) (by omega), k7]
    show atS v1 T a b m 31 = _
    rw [atc 31 (by decide) (by decide) (by decide) (by decide), e31]
  · rw [dl_i (by omega) (by omega), k11]
    show atS v1 T a b m 35 = _
    unfold atS
    rw [su_cell _ _ (by decide), su_cell _ _ (by decide), su_cell _ _ (by decide), su_at, ec 35 (by decide) (by decide)]
  · rw [dl_i (by omega) (by omega), k12]
    show atS v1 T a b m 36 = _
    unfold atS
    rw [su_cell _ _ (by decide), su_cell _ _ (by decide), su_at, su_cell _ _ (by decide), ec 36 (by decide) (by decide)]
  · rw [dl_i (by omega) (by omega), k13]
    show atS v1 T a b m 37 = _
    unfold atS
    rw [su_cell _ _ (by decide), su_at, su_cell _ _ (by decide), su_cell _ _ (by decide), ec 37 (by decide) (by decide)]
  · rw [dl_i (by omega) (by omega)]
    show atS v1 T a b m 34 8 = _
    unfold atS
    rw [su_k]
  · rw [dl_i (by omega) (by omega), k10]
    show atS v1 T a b m 34 12 = _
    rw [at34 12 (by decide), e34]
  · intro j h8 h12
    rw [dl_i (by omega) (by omega), k10]
    show atS v1 T a b m 34 j = _
    rw [at34 j h8, e35 j h12]
  · intro k h1 h2 h7 h10
    by_cases z : k ≤ 18
    · rw [dl_i h1 z, dl_i h1 z, atc (k + 24) (by omega) (by omega) (by omega) (by omega), ec (k + 24) (by omega) (by omega)]
    · rw [dl_o (by omega), dl_o (by omega), atc k (by omega) (by omega) (by omega) (by omega), ec k (by omega) (by omega)]
  · intro j h1 h7 hj
    exact cmS_j (by omega)
  · unfold cmS; rw [su_i (by omega), su_i (by omega), su_i (by omega), su_i (by omega), su_i (by omega), su_k]
  · unfold cmS; rw [su_i (by omega), su_i (by omega), su_i (by omega), su_i (by omega), su_k]
  · unfold cmS; rw [su_i (by omega), su_i (by omega), su_i (by omega), su_k]
  · unfold cmS; rw [su_i (by omega), su_i (by omega), su_k]
  · exact cmS_1
  · unfold cmS; rw [su_i (by omega), su_k]
theorem JD_ap {v u : Sto} {T W : Nat} : ∀ {x : TL}, J (dlw v) (u 179) T W → tO2 T W (v 37) (v 28) (v 38) x → J (dlw (apL v T W x)) (apM u T W x 179) (T + tT x) (W + tW x)
  | .inl (c, a, b), h, hx => by
    have hx : T < 10 := hx
    exact JD_ten (v1 := su (su v 31 T c) 34 12 (v 34 12 + c)) h hx (Or.inl rfl) (by rw [su_cell _ _ (by decide), su_at]) su_k (fun j hj => by rw [su_i hj, su_cell _ _ (by decide)]) (fun k h1 h2 => by rw [su_cell _ _ h2, su_cell _ _ h1])
  | .inr (.inl m), h, hx => by
    obtain ⟨hx, hm⟩ : T < 10 ∧ ∃ a, a < T ∧ m = nI a ∧ v 37 a = -1 := hx
    have h0 : v 31 T = nI 0 := by
      have := h.ti.2.2.2.2.2.2 T (Nat.le_refl _) hx
      rw [show (3 : Nat) + 4 = 7 from rfl, dl_i (by omega) (by omega)] at this
      exact this
    exact JD_ten (v1 := v) (c := nI 0) h hx (Or.inr hm) (by rw [← h0, upd_id]) (by rw [show (nI 0 : Int32) = 0 from rfl, Int32.add_zero]) (fun j hj => rfl) (fun k h1 h2 => rfl)
  | .inr (.inr (.inl (q, A, B, m))), h, hx => by
    obtain ⟨h1, h2, h3, h4, _⟩ : q + B < 168 ∧ A ≤ B ∧ m < T ∧ v 37 m = -1 ∧ ∀ i, i < B + 1 - A → v 28 (q + (A + i)) = -1 ∧ v 38 (q + (A + i)) = 0 := hx
    exact JD_lt h h3 h4 h1 (B + 1 - A) (by omega)
  | .inr (.inr (.inr (.inl (r, n)))), h, hx => by
    have hx : r < 168 := hx
    show J (dlw (su v 30 r n)) (su u 179 (90 + 4 * r) n 179) T W
    rw [su_at]
    exact J_vim (J_good h r hx n) (dl_su (c := 6) (by omega) (by omega))
  | .inr (.inr (.inr (.inr (.inl r)))), h, hx => by
    obtain ⟨hx, _⟩ : r < 168 ∧ v 28 r = -1 := hx
    show J (dlw (su v 38 r (nI 1))) (su u 179 (91 + 4 * r) (nI 1) 179) T W
    rw [su_at]
    exact J_vim (J_sht h hx) (dl_su (c := 14) (by omega) (by omega))
  | .inr (.inr (.inr (.inr (.inr (.inl (r, m)))))), h, hx => by
    obtain ⟨h1, h2, h3, a, h4, rfl, h6⟩ : r < 168 ∧ ¬ v 28 r = -1 ∧ ¬ m = v 28 r ∧ ∃ a, a < T ∧ m = nI a ∧ v 37 a = -1 := hx
    have k4 : dlw v 4 = v 28 := dl_i (by omega) (by omega)
    have k13 : dlw v 13 = v 37 := dl_i (by omega) (by omega)
    show J (dlw (su v 29 r (nI a))) (su u 179 (89 + 4 * r) (nI a) 179) T W
    have e : su u 179 (89 + 4 * r) (nI a) 179 = hsF (u 179) r (dlw v 4 r) (nI a) := by
      unfold hsF
      rw [su_at, ← h.t.own r h1, upd_id]
    rw [e]
    exact J_vim (J_sub h h1 h4 (by rw [k13]; exact h6) (by rw [k4]; exact h2) (by rw [k4]; exact fun q => h3 q.symm)) (dl_su (c := 5) (by omega) (by omega))
  | .inr (.inr (.inr (.inr (.inr (.inr (.inl (m, n, a, b))))))), h, hx => by
    obtain ⟨h1, ⟨a9, h2, h3, h4⟩, k9, h5, h6⟩ : W < 8 ∧ (∃ a, a < T ∧ m = nI a ∧ v 37 a = -1) ∧ ∃ k, k ≤ 20 ∧ n = nI k := hx
    show J (dlw (awS v W m n a b)) (wnS u W m n a b 179) T (W + 1)
    refine J_wnt (v := dlw v) (a := a) (b := b) h h1 ⟨a9, h2, h3, by rw [dl_i (by omega) (by omega)]; exact h4⟩ h5 h6 ?_ ?_ ?_ ?_ ?_ ?_ ?_ ?_ ?_ ?_ ?_ ?_
    · rw [dl_i (by omega) (by omega), dl_i (by omega) (by omega)]
      show awS v W m n a b 39 = _
      unfold awS
      rw [su_cell _ _ (by decide), su_cell _ _ (by decide), su_cell _ _ (by decide), su_cell _ _ (by decide), su_at]
    · rw [dl_i (by omega) (by omega), dl_i (by omega) (by omega)]
      show awS v W m n a b 40 = _
      unfold awS
      rw [su_cell _ _ (by decide), su_cell _ _ (by decide), su_cell _ _ (by decide), su_at, su_cell _ _ (by decide)]
    · rw [dl_i (by omega) (by omega), dl_i (by omega) (by omega)]
      show awS v W m n a b 41 = _
      unfold awS
      rw [su_cell _ _ (by decide), su_cell _ _ (by decide), su_at, su_cell _ _ (by decide), su_cell _ _ (by decide)]
    · rw [dl_i (by omega) (by omega), dl_i (by omega) (by omega)]
      show awS v W m n a b 42 = _
      unfold awS
      rw [su_cell _ _ (by decide), su_at, su_cell _ _ (by decide), su_cell _ _ (by decide), su_cell _ _ (by decide)]
    · rw [dl_i (by omega) (by omega), dl_i (by omega) (by omega)]
      show awS v W m n a b 34 = _
      unfold awS
      rw [su_at, su_cell _ _ (by decide), su_cell _ _ (by decide), su_cell _ _ (by decide), su_cell _ _ (by decide)]
    · intro k h1 h2 h10 h15
      unfold awS
      by_cases z : k ≤ 18
      · rw [dl_i h1 z, dl_i h1 z, su_cell _ _ (by omega), su_cell _ _ (by omega), su_cell _ _ (by omega), su_cell _ _ (by omega), su_cell _ _ (by omega)]
      · rw [dl_o (by omega), dl_o (by omega), su_cell _ _ (by omega), su_cell _ _ (by omega), su_cell _ _ (by omega), su_cell _ _ (by omega), su_cell _ _ (by omega)]
    · intro j h9 hj
      unfold wnS
      rw [su_i (by omega), su_i (by omega), su_i (by omega), su_i (by omega), su_i (by omega)]
    · unfold wnS; rw [su_i (by omega), su_i (by omega), su_i (by omega), su_i (by omega), su_k]
    · unfold wnS; rw [su_i (by omega), su_i (by omega), su_i (by omega), su_k]
    · unfold wnS; rw [su_i (by omega), su_i (by omega), su_k]
    · unfold wnS; rw [su_i (by omega), su_k]
    · unfold wnS; rw [su_k]
  | .inr (.inr (.inr (.inr (.inr (.inr (.inr n)))))), h, hx => by
    show J (dlw (su v 34 10 n)) (su u 179 8 n 179) T W
    rw [su_at]
    exact J_vim (J_chc h n) (dl_su (c := 10) (by omega) (by omega))
theorem ap_27 {v : Sto} {T W : Nat} : ∀ {x : TL}, apL v T W x 27 = v 27 ∧ apL v T W x 34 11 = v 34 11
  | .inl (c, a, b) => by
    show atS _ T a b (-1) 27 = _ ∧ atS _ T a b (-1) 34 11 = _
    unfold atS
    rw [su_cell _ _ (by decide), su_cell _ _ (by decide), su_cell _ _ (by decide), su_cell _ _ (by decide), su_cell _ _ (by decide), su_cell _ _ (by decide), su_i (by decide), su_cell _ _ (by decide), su_cell _ _ (by decide), su_cell _ _ (by decide), su_i (by decide), su_cell _ _ (by decide)]
    exact ⟨rfl, rfl⟩
  | .inr (.inl m) => by
    show atS _ T (-1) (-1) m 27 = _ ∧ atS _ T (-1) (-1) m 34 11 = _
    unfold atS
    rw [su_cell _ _ (by decide), su_cell _ _ (by decide), su_cell _ _ (by decide), su_cell _ _ (by decide), su_i (by decide), su_cell _ _ (by decide), su_cell _ _ (by decide), su_cell _ _ (by decide)]
    exact ⟨rfl, rfl⟩
  | .inr (.inr (.inl (q, A, B, m))) => ⟨ltS_c (by omega) _, congrFun (ltS_c (by omega) _) 11⟩
  | .inr (.inr (.inr (.inl (r, n)))) => ⟨su_cell _ _ (by decide), congrFun (su_cell _ _ (by decide)) 11⟩
  | .inr (.inr (.inr (.inr (.inl r)))) => ⟨su_cell _ _ (by decide), congrFun (su_cell _ _ (by decide)) 11⟩
  | .inr (.inr (.inr (.inr (.inr (.inl (r, m)))))) => ⟨su_cell _ _ (by decide), congrFun (su_cell _ _ (by decide)) 11⟩
  | .inr (.inr (.inr (.inr (.inr (.inr (.inl (m, n, a, b))))))) => by
    show awS v W m n a b 27 = _ ∧ awS v W m n a b 34 11 = _
    unfold awS
    rw [su_cell _ _ (by decide), su_cell _ _ (by decide), su_cell _ _ (by decide), su_cell _ _ (by decide), su_cell _ _ (by decide), su_i (by decide), su_cell _ _ (by decide), su_cell _ _ (by decide), su_cell _ _ (by decide), su_cell _ _ (by decide)]
    exact ⟨rfl, rfl⟩
  | .inr (.inr (.inr (.inr (.inr (.inr (.inr n)))))) => ⟨su_cell _ _ (by decide), su_i (by decide)⟩
/-- all lines: both sides go wrong at the same place, or come out alike -/
theorem JD_tls {f : Nat → Int32} {L : Nat} : ∀ (k T W : Nat) (v u : Sto) (p : Nat), J (dlw v) (u 179) T W → (∃ e, tlsD f L k T W v p = .error e ∧ tlsM f L k T W u p = .error e) ∨ ∃ v' u' T' W', tlsD f L k T W v p = .ok v' ∧ tlsM f L k T W u p = .ok u' ∧ J (dlw v') (u' 179) T' W' ∧ (∀ c, c < 26 ∨ 42 < c → v' c = v c) ∧ v' 27 = v 27 ∧ v' 34 11 = v 34 11
  | 0, T, W, v, u, p, _ => Or.inl ⟨p, rfl, rfl⟩
  | k + 1, T, W, v, u, p, h => by
    have hT := h.r.hT
    have ec : twD T W (moV u) (owV u) (shV u) f L p = twD T W (v 37) (v 28) (v 38) f L p := tw_cg hT (fun a ha => by
      have := h.r.mot a ha
      rw [show (10 : Nat) + 3 = 13 from rfl, dl_i (by omega) (by omega)] at this
      exact this) (fun r hr => by
      have := h.t.own r hr
      rw [show (3 : Nat) + 1 = 4 from rfl, dl_i (by omega) (by omega)] at this
      exact this) (fun r hr => by
      have := h.r.sht r hr
      rw [show (10 : Nat) + 4 = 14 from rfl, dl_i (by omega) (by omega)] at this
      exact this)
    rw [tlsD, tlsM, ec]
    cases hE : twD T W (v 37) (v 28) (v 38) f L p with
    | error e => exact Or.inl ⟨e, rfl, rfl⟩
    | ok q =>
      have hJ := JD_ap h (tw_2 hT hE)
      have h27 := ap_27 (v := v) (T := T) (W := W) (x := q.1)
      simp only
      by_cases c1 : kdN f L q.2 = 0
      · rw [if_pos c1, if_pos c1]
        exact Or.inr ⟨_, _, _, _, rfl, rfl, hJ, fun c hc => apL_c hc, h27.1, h27.2⟩
      · rw [if_neg c1, if_neg c1]
        by_cases c2 : sgP f L q.2 (nI 59)
        · rw [if_pos c2, if_pos c2]
          rcases JD_tls k _ _ _ _ (nx f L q.2) hJ with z | ⟨v', u', T', W', z1, z2, z3, z4, z5, z6⟩
          · exact Or.inl z
          · exact Or.inr ⟨v', u', T', W', z1, z2, z3, fun c hc => (z4 c hc).trans (apL_c hc), z5.trans h27.1, z6.trans h27.2⟩
        · rw [if_neg c2, if_neg c2]; exact Or.inl ⟨_, rfl, rfl⟩
