-- after: a3.ph
theorem J_ten {v v' : Sto} {g g' : Nat → Int32} {T W : Nat} {c a b m : Int32} (h : J v g T W) (hT9 : T < 10) (hm : m = -1 ∨ ∃ x, x < T ∧ m = nI x ∧ v 13 x = -1)
    (c7 : v' 7 = upd (v 7) T c) (c11 : v' 11 = upd (v 11) T a) (c12 : v' 12 = upd (v 12) T b) (c13 : v' 13 = upd (v 13) T m) (c8 : v' 10 8 = nI (T + 1)) (c0 : v' 10 12 = v 10 12 + c) (c10 : ∀ j, j ≠ 8 → j ≠ 12 → v' 10 j = v 10 j) (cc : ∀ k, 3 ≤ k → k ≤ 23 → k ≠ 7 → (k < 10 ∨ 13 < k) → v' k = v k)
    (hg : ∀ j, j ≠ 1 → j ≠ 7 → (j < 16 + 4 * T ∨ 20 + 4 * T ≤ j) → g' j = g j) (g0 : g' (16 + 4 * T) = c) (g1 : g' (17 + 4 * T) = a) (g2 : g' (18 + 4 * T) = b) (g3 : g' (19 + 4 * T) = m) (gT : g' 1 = nI (T + 1)) (g7 : g' 7 = g 7 + c) : J v' g' (T + 1) W := by
  have hW := h.r.hW
  have hlc := lc_80 h.ti
  obtain ⟨⟨a1, a2, a3, a4, a5, a6, a7, a8, a9⟩, ⟨b1, b2, b3, b4, b5, b6, b7, b8, b9, b10, b11, b12, b13, b14, b15, b16, b17⟩, hl, ⟨t1, t2, t3, t4, t5, t6, t7⟩, h5, r1, r2, r3, r4⟩ := h
  have c3 := cc 3 (by omega) (by omega) (by omega) (by omega)
  have c4 := cc 4 (by omega) (by omega) (by omega) (by omega)
  have c5 := cc 5 (by omega) (by omega) (by omega) (by omega)
  have c6 := cc 6 (by omega) (by omega) (by omega) (by omega)
  have c8' := cc 8 (by omega) (by omega) (by omega) (by omega)
  have c9 := cc 9 (by omega) (by omega) (by omega) (by omega)
  have m13 : ∀ x, x < T → v 13 x = -1 → v' 13 x = -1 := fun x hx e => by rw [c13, pk_un (by omega)]; exact e
  refine ⟨⟨fun r hr => ?_, fun r hr => ?_, fun r hr => ?_, fun x hx => ?_, ?_, ?_, ?_, ?_, ?_⟩, ⟨?_, gT, c8, by omega, ?_, ?_, ?_, ?_, b9, fun x hx => ?_, fun x hx => ?_, fun x hx => ?_, fun x hx => ?_, fun k hk => ?_, fun k hk => ?_, fun k hk => ?_, fun k hk => ?_⟩, lk_l hl (fun k h1 h2 => cc k (by omega) h2 (by omega) (by omega)) (hg 2 (by omega) (by omega) (by omega)) (hg 3 (by omega) (by omega) (by omega)) (fun j hj => hg j (by omega) (by omega) (by omega)), ⟨fun x hx => ?_, fun x hx => ?_, fun x hx => ?_, ?_, ?_, ?_, fun x h1 h2 => ?_⟩, fun k hk => ?_, fun x hx => ?_, fun x hx => ?_, fun k hk => ?_, fun k hk => ?_⟩
  · rw [hg _ (by omega) (by omega) (by omega)]; show _ = v' 4 r; rw [c4]; exact a1 r hr
  · rw [hg _ (by omega) (by omega) (by omega)]; show _ = if v' 5 r = -1 then v' 4 r else v' 5 r; rw [c4, c5]; exact a2 r hr
  · rw [hg _ (by omega) (by omega) (by omega)]; show _ = v' 6 r; rw [c6]; exact a3 r hr
  · show _ = v' 7 x
    rw [c7]
    by_cases z : x = T
    · rw [z, pk_us]; exact g0
    · rw [pk_un z, hg _ (by omega) (by omega) (by omega)]; exact a4 x hx
  · rw [hg _ (by omega) (by omega) (by omega), c3]; exact a5
  · rw [hg _ (by omega) (by omega) (by omega), c3]; exact a6
  · rw [hg _ (by omega) (by omega) (by omega), c3]; exact a7
  · rw [hg _ (by omega) (by omega) (by omega), c3]; exact a8
  · rw [hg _ (by omega) (by omega) (by omega), c3]; exact a9
  · rw [hg _ (by omega) (by omega) (by omega), c10 11 (by decide) (by decide)]; exact b1
  · rw [g7, c0, b5]
  · rw [hg _ (by omega) (by omega) (by omega), c10 10 (by decide) (by decide)]; exact b6
  · rw [hg _ (by omega) (by omega) (by omega)]; exact b7
  · rw [c10 9 (by decide) (by decide)]; exact b8
  · show _ = v' 11 x
    rw [c11]
    by_cases z : x = T
    · rw [z, pk_us]; exact g1
    · rw [pk_un z, hg _ (by omega) (by omega) (by omega)]; exact b10 x (by omega)
  · show _ = v' 12 x
    rw [c12]
    by_cases z : x = T
    · rw [z, pk_us]; exact g2
    · rw [pk_un z, hg _ (by omega) (by omega) (by omega)]; exact b11 x (by omega)
  · show _ = v' 13 x
    rw [c13]
    by_cases z : x = T
    · rw [z, pk_us]; exact g3
    · rw [pk_un z, hg _ (by omega) (by omega) (by omega)]; exact b12 x (by omega)
  · rw [hg _ (by omega) (by omega) (by omega)]; exact (b13 x hx).trans (congrFun (cc 14 (by omega) (by omega) (by omega) (by omega)) x).symm
  · rw [hg _ (by omega) (by omega) (by omega)]; exact (b14 k hk).trans (congrFun (cc 15 (by omega) (by omega) (by omega) (by omega)) k).symm
  · rw [hg _ (by omega) (by omega) (by omega)]; exact (b15 k hk).trans (congrFun (cc 16 (by omega) (by omega) (by omega) (by omega)) k).symm
  · rw [hg _ (by omega) (by omega) (by omega)]; exact (b16 k hk).trans (congrFun (cc 17 (by omega) (by omega) (by omega) (by omega)) k).symm
  · rw [hg _ (by omega) (by omega) (by omega)]; exact (b17 k hk).trans (congrFun (cc 18 (by omega) (by omega) (by omega) (by omega)) k).symm
  · show v' 4 x = -1 ∨ ∃ y, y < T + 1 ∧ v' 4 x = nI y ∧ v' 13 y = -1
    rw [c4]
    rcases t1 x hx with e | ⟨y, e1, e2, e3⟩
    · exact Or.inl e
    · exact Or.inr ⟨y, by omega, e2, m13 y e1 e3⟩
  · show v' 5 x = -1 ∨ (¬ v' 4 x = -1 ∧ ¬ v' 5 x = v' 4 x ∧ ∃ y, y < T + 1 ∧ v' 5 x = nI y ∧ v' 13 y = -1)
    rw [c4, c5]
    rcases t2 x hx with e | ⟨d1, d2, y, e1, e2, e3⟩
    · exact Or.inl e
    · exact Or.inr ⟨d1, d2, y, by omega, e2, m13 y e1 e3⟩
  · show v' 8 x = ctI (fun m => decide (v' 4 m = nI x)) 168
    rw [c4, c8']; exact t3 x hx
  · rw [c3]; exact t4
  · rw [c3]; exact t5
  · rw [c3]; exact t6
  · show v' 7 x = 0
    rw [c7, pk_un (by omega)]; exact t7 x (by omega) h2
  · rw [c3] at hk
    show g' _ = lg_weekOf (v' 9 ((ix (v' 3 6) + 79 - k) % 80)) ∧ g' _ = lg_roomIn (v' 9 ((ix (v' 3 6) + 79 - k) % 80)) ∧ g' _ = lg_whoOf (v' 9 ((ix (v' 3 6) + 79 - k) % 80)) ∧ g' _ = lg_howOf (v' 9 ((ix (v' 3 6) + 79 - k) % 80))
    rw [c3, c9, hg _ (by omega) (by omega) (by omega), hg _ (by omega) (by omega) (by omega), hg _ (by omega) (by omega) (by omega), hg _ (by omega) (by omega) (by omega)]; exact h5 k hk
  · show v' 13 x = -1 ∨ ∃ m, m < x ∧ v' 13 x = nI m ∧ v' 13 m = -1
    by_cases z : x = T
    · subst z
      rcases hm with e | ⟨y, e1, e2, e3⟩
      · exact Or.inl (by rw [c13, pk_us]; exact e)
      · exact Or.inr ⟨y, e1, by rw [c13, pk_us]; exact e2, m13 y e1 e3⟩
    · rcases r1 x (by omega) with e | ⟨y, e1, e2, e3⟩
      · exact Or.inl (m13 x (by omega) e)
      · exact Or.inr ⟨y, e1, by rw [c13, pk_un z]; exact e2, m13 y (by omega) e3⟩
  · show v' 14 x = nI 0 ∨ v' 14 x = nI 1
    rw [cc 14 (by omega) (by omega) (by omega) (by omega)]; exact r2 x hx
  · show ∃ y, y < T + 1 ∧ v' 15 k = nI y ∧ v' 13 y = -1
    rw [cc 15 (by omega) (by omega) (by omega) (by omega)]
    obtain ⟨y, e1, e2, e3⟩ := r3 k hk
    exact ⟨y, by omega, e2, m13 y e1 e3⟩
  · show ∃ n, n ≤ 20 ∧ v' 16 k = nI n
    rw [cc 16 (by omega) (by omega) (by omega) (by omega)]; exact r4 k hk
/-- the draft's town and roll in the world's place -/
def dlw (v : Sto) : Sto := fun k => if 3 ≤ k ∧ k ≤ 18 then v (k + 24) else v k
theorem dl_i {v : Sto} {k : Nat} (h1 : 3 ≤ k) (h2 : k ≤ 18) : dlw v k = v (k + 24) := if_pos ⟨h1, h2⟩
theorem dl_o {v : Sto} {k : Nat} (h : 18 < k) : dlw v k = v k := if_neg (by omega)
theorem vim.trans {a b c : Sto} (h : vim a b) (g : vim b c) : vim a c := fun k h1 h2 => (h k h1 h2).trans (g k h1 h2)
theorem vim_su {a b : Sto} (h : vim a b) {c j : Nat} {x : Int32} : vim (su a c j x) (su b c j x) := fun k h1 h2 => by
  by_cases z : k = c
  · subst z; rw [su_at, su_at, h k h1 h2]
  · rw [su_cell _ _ z, su_cell _ _ z]; exact h k h1 h2
theorem dl_su {v : Sto} {c j : Nat} {x : Int32} (h1 : 3 ≤ c) (h2 : c ≤ 18) : vim (dlw (su v (c + 24) j x)) (su (dlw v) c j x) := fun k h3 h4 => by
  by_cases z : k = c
  · subst z; rw [dl_i h3 h2, su_at, su_at, dl_i h3 h2]
  · rw [su_cell _ _ z]
    by_cases y : k ≤ 18
    · rw [dl_i h3 y, dl_i h3 y, su_cell _ _ (by omega)]
    · rw [dl_o (by omega), dl_o (by omega), su_cell _ _ (by omega)]
theorem dl_s2 {v w : Sto} {c j : Nat} {x : Int32} (h1 : 3 ≤ c) (h2 : c ≤ 18) (h : vim (dlw v) w) : vim (dlw (su v (c + 24) j x)) (su w c j x) := (dl_su h1 h2).trans (vim_su h)
theorem dl_fr {v : Sto} {r : Nat} : vim (dlw (frT v 27 r)) (frT (dlw v) 3 r) := by
  unfold frT
  refine dl_s2 (c := 5) (by omega) (by omega) (dl_s2 (c := 4) (by omega) (by omega) ?_)
  show vim (dlw (if v 28 r = -1 then v else su v 32 (ix (v 28 r)) (v 32 (ix (v 28 r)) - nI 1))) (if dlw v 4 r = -1 then dlw v else su (dlw v) 8 (ix (dlw v 4 r)) (dlw v 8 (ix (dlw v 4 r)) - nI 1))
  rw [dl_i (k := 4) (by omega) (by omega), dl_i (k := 8) (by omega) (by omega)]
  by_cases z : v 28 r = -1
  · rw [if_pos z, if_pos z]; exact fun k _ _ => rfl
  · rw [if_neg z, if_neg z]; exact dl_su (c := 8) (by omega) (by omega)
theorem dl_so {v : Sto} {r a : Nat} : vim (dlw (soT v 27 r a)) (soT (dlw v) 3 r a) := by
  unfold soT
  have e : frT v 27 r 32 a = frT (dlw v) 3 r 8 a := by
    rw [← dl_fr 8 (by omega) (by omega), dl_i (by omega) (by omega)]
  show vim (dlw (su (su (frT v 27 r) 28 r (nI a)) 32 a (frT v 27 r 32 a + nI 1))) (su (su (frT (dlw v) 3 r) 4 r (nI a)) 8 a (frT (dlw v) 3 r 8 a + nI 1))
  rw [e]
  exact dl_s2 (c := 8) (by omega) (by omega) (dl_s2 (c := 4) (by omega) (by omega) dl_fr)
theorem J_vim {a b : Sto} {g : Nat → Int32} {T W : Nat} (h : J b g T W) (hv : vim a b) : J a g T W := J_v h (fun k h1 h2 => hv k h1 h2)
theorem JD_lt {v u : Sto} {T W q m A B : Nat} (h : J (dlw v) (u 179) T W) (hm : m < T) (h13 : v 37 m = -1) (hB : q + B < 168) : ∀ k, A + k ≤ B + 1 → J (dlw (ltS v q m A k)) (ltM u q m A k 179) T W
  | 0, _ => h
  | k + 1, hk => by
    have ih := JD_lt (u := u) (A := A) h hm h13 hB k (by omega)
    have e : ltM u q m A (k + 1) 179 = hsF (ltM u q m A k 179) (q + (A + k)) (nI m) (nI m) := by
      show hsS (ltM u q m A k) (q + (A + k)) (nI m) (nI m) 179 = _
      unfold hsS hsF
      rw [su_at, su_at]
    rw [e]
    exact J_vim (J_set ih (by omega) hm (by rw [dl_i (by omega) (by omega), ltS_c (by omega)]; exact h13)) dl_so
