-- after: a2.pg
theorem lk_l {v v' : Sto} {g g' : Nat → Int32} (h : LKl v g) (hv : ∀ k, 19 ≤ k → k ≤ 23 → v' k = v k) (h2 : g' 2 = g 2) (h3 : g' 3 = g 3) (h4 : ∀ j, 1080 ≤ j → g' j = g j) : LKl v' g' := by
  have e : (fun k => g' (1080 + k)) = fun k => g (1080 + k) := by funext k; exact h4 _ (by omega)
  rcases h with ⟨a, b⟩ | ⟨t, L, hL, h5, q2, q3, hP, hW⟩
  · exact Or.inl ⟨by rw [hv 19 (by omega) (by omega)]; exact a, by rw [h2]; exact b⟩
  · have hw := law_w hP
    refine Or.inr ⟨t, L, hL, by rw [hv 19 (by omega) (by omega)]; exact h5, by rw [h2]; exact q2, by rw [h3]; exact q3, by rw [e]; exact hP, ?_⟩
    exact LWp_mono (c := 19) (d := 19) (fun j _ => by rw [hv 21 (by omega) (by omega)]) (fun j _ => by rw [hv 20 (by omega) (by omega)]) (fun j _ => ⟨by rw [hv 22 (by omega) (by omega)], by rw [hv 23 (by omega) (by omega)]⟩) t 0 0 (by omega) (by omega) hW
/-- the town as it was, the roll another -/
theorem J_ro {v v' : Sto} {g g' : Nat → Int32} {T W W' : Nat} (h : J v g T W) (hv : ∀ k, (3 ≤ k ∧ k ≤ 9) ∨ k = 13 ∨ (19 ≤ k ∧ k ≤ 23) → v' k = v k) (hg : ∀ j, (tnJ j = true ∨ j = 2 ∨ j = 3 ∨ 1080 ≤ j) → g' j = g j) (hr : LKr v' 10 g' T W') (hri : RI v' 10 T W') : J v' g' T W' := by
  have c3 := hv 3 (by omega)
  have c4 := hv 4 (by omega)
  have c5 := hv 5 (by omega)
  have c6 := hv 6 (by omega)
  have c7 := hv 7 (by omega)
  have c8 := hv 8 (by omega)
  have c9 := hv 9 (by omega)
  have c13 := hv 13 (by omega)
  have hlc := lc_80 h.ti
  obtain ⟨⟨a1, a2, a3, a4, a5, a6, a7, a8, a9⟩, _, hl, h4, h5, _⟩ := h
  have gt : ∀ j, (j = 4 ∨ j = 5 ∨ j = 6 ∨ j = 10 ∨ j = 11 ∨ (16 ≤ j ∧ j < 56 ∧ (j - 16) % 4 = 0) ∨ (88 ≤ j ∧ j < 760 ∧ ¬ (j - 88) % 4 = 3) ∨ (760 ≤ j ∧ j < 1080)) → g' j = g j := fun j hj => hg j (Or.inl (decide_eq_true hj))
  refine ⟨⟨fun r hr => ?_, fun r hr => ?_, fun r hr => ?_, fun a ha => ?_, ?_, ?_, ?_, ?_, ?_⟩, hr, lk_l hl (fun k h1 h2 => hv k (by omega)) (hg 2 (by omega)) (hg 3 (by omega)) (fun j hj => hg j (by omega)), ?_, fun k hk => ?_, hri⟩
  · rw [gt _ (by omega)]; show _ = v' 4 r; rw [c4]; exact a1 r hr
  · rw [gt _ (by omega)]; show _ = if v' 5 r = -1 then v' 4 r else v' 5 r; rw [c4, c5]; exact a2 r hr
  · rw [gt _ (by omega)]; show _ = v' 6 r; rw [c6]; exact a3 r hr
  · rw [gt _ (by omega)]; show _ = v' 7 a; rw [c7]; exact a4 a ha
  · rw [gt _ (by omega), c3]; exact a5
  · rw [gt _ (by omega), c3]; exact a6
  · rw [gt _ (by omega), c3]; exact a7
  · rw [gt _ (by omega), c3]; exact a8
  · rw [gt _ (by omega), c3]; exact a9
  · show (∀ m, m < 168 → v' 4 m = -1 ∨ ∃ a, a < T ∧ v' 4 m = nI a ∧ v' 13 a = -1) ∧ (∀ m, m < 168 → v' 5 m = -1 ∨ (¬ v' 4 m = -1 ∧ ¬ v' 5 m = v' 4 m ∧ ∃ a, a < T ∧ v' 5 m = nI a ∧ v' 13 a = -1)) ∧ (∀ a, a < 10 → v' 8 a = ctI (fun m => decide (v' 4 m = nI a)) 168) ∧ (∃ ln, ln < 80 ∧ v' 3 6 = nI ln) ∧ (∃ lc, lc ≤ 80 ∧ v' 3 7 = nI lc) ∧ (∃ nw, nw < 168 ∧ v' 3 10 = nI nw) ∧ (∀ a, T ≤ a → a < 10 → v' 7 a = 0)
    rw [c3, c4, c5, c7, c8, c13]; exact h4
  · rw [c3] at hk
    show g' _ = lg_weekOf (v' 9 ((ix (v' 3 6) + 79 - k) % 80)) ∧ g' _ = lg_roomIn (v' 9 ((ix (v' 3 6) + 79 - k) % 80)) ∧ g' _ = lg_whoOf (v' 9 ((ix (v' 3 6) + 79 - k) % 80)) ∧ g' _ = lg_howOf (v' 9 ((ix (v' 3 6) + 79 - k) % 80))
    rw [c3, c9, gt _ (by omega), gt _ (by omega), gt _ (by omega), gt _ (by omega)]; exact h5 k hk
theorem J_sht {v : Sto} {g : Nat → Int32} {T W r : Nat} (h : J v g T W) (hr : r < 168) : J (su v 14 r (nI 1)) (upd g (91 + 4 * r) (nI 1)) T W := by
  have hT := h.r.hT
  have hW := h.r.hW
  obtain ⟨b1, b2, b3, b4, b5, b6, b7, b8, b9, b10, b11, b12, b13, b14, b15, b16, b17⟩ := h.r
  obtain ⟨r1, r2, r3, r4⟩ := h.ri
  have c : ∀ k, k ≠ 14 → su v 14 r (nI 1) k = v k := fun k hk => su_cell _ _ hk
  refine J_ro h (fun k hk => c k (by omega)) (fun j hj => pk_un (fun q => by
    subst q
    rcases hj with hj | hj | hj | hj
    · exact absurd (of_decide_eq_true hj) (by omega)
    · omega
    · omega
    · omega)) ⟨?_, ?_, ?_, b4, ?_, ?_, ?_, ?_, b9, fun a ha => ?_, fun a ha => ?_, fun a ha => ?_, fun m hm => ?_, fun k hk => ?_, fun k hk => ?_, fun k hk => ?_, fun k hk => ?_⟩ ⟨?_, fun m hm => ?_, ?_, ?_⟩
  · rw [pk_un (by omega), c 10 (by omega)]; exact b1
  · rw [pk_un (by omega)]; exact b2
  · rw [c 10 (by omega)]; exact b3
  · rw [pk_un (by omega), c 10 (by omega)]; exact b5
  · rw [pk_un (by omega), c 10 (by omega)]; exact b6
  · rw [pk_un (by omega)]; exact b7
  · rw [c 10 (by omega)]; exact b8
  · rw [pk_un (by omega)]; exact (b10 a ha).trans (congrFun (c 11 (by omega)) a).symm
  · rw [pk_un (by omega)]; exact (b11 a ha).trans (congrFun (c 12 (by omega)) a).symm
  · rw [pk_un (by omega)]; exact (b12 a ha).trans (congrFun (c 13 (by omega)) a).symm
  · show upd g (91 + 4 * r) (nI 1) (91 + 4 * m) = su v 14 r (nI 1) 14 m
    by_cases z : m = r
    · rw [z, pk_us, su_k]
    · rw [pk_un (by omega), su_i z]; exact b13 m hm
  · rw [pk_un (by omega)]; exact (b14 k hk).trans (congrFun (c 15 (by omega)) k).symm
  · rw [pk_un (by omega)]; exact (b15 k hk).trans (congrFun (c 16 (by omega)) k).symm
  · rw [pk_un (by omega)]; exact (b16 k hk).trans (congrFun (c 17 (by omega)) k).symm
  · rw [pk_un (by omega)]; exact (b17 k hk).trans (congrFun (c 18 (by omega)) k).symm
  · show ∀ a, a < T → su v 14 r (nI 1) 13 a = -1 ∨ ∃ m, m < a ∧ su v 14 r (nI 1) 13 a = nI m ∧ su v 14 r (nI 1) 13 m = -1
    rw [c 13 (by omega)]; exact r1
  · show su v 14 r (nI 1) 14 m = nI 0 ∨ su v 14 r (nI 1) 14 m = nI 1
    by_cases z : m = r
    · rw [z, su_k]; exact Or.inr rfl
    · rw [su_i z]; exact r2 m hm
  · show ∀ k, k < W → ∃ a, a < T ∧ su v 14 r (nI 1) 15 k = nI a ∧ su v 14 r (nI 1) 13 a = -1
    rw [c 15 (by omega), c 13 (by omega)]; exact r3
  · show ∀ k, k < W → ∃ n, n ≤ 20 ∧ su v 14 r (nI 1) 16 k = nI n
    rw [c 16 (by omega)]; exact r4
theorem J_chc {v : Sto} {g : Nat → Int32} {T W : Nat} (h : J v g T W) (x : Int32) : J (su v 10 10 x) (upd g 8 x) T W := by
  have hT := h.r.hT
  have hW := h.r.hW
  obtain ⟨b1, b2, b3, b4, b5, b6, b7, b8, b9, b10, b11, b12, b13, b14, b15, b16, b17⟩ := h.r
  have hri := h.ri
  have c : ∀ k, k ≠ 10 → su v 10 10 x k = v k := fun k hk => su_cell _ _ hk
  refine J_ro h (fun k hk => c k (by omega)) (fun j hj => pk_un (fun q => by
    subst q
    rcases hj with hj | hj | hj | hj
    · exact absurd hj (by decide)
    · omega
    · omega
    · omega)) ⟨?_, ?_, ?_, b4, ?_, ?_, ?_, ?_, b9, fun a ha => ?_, fun a ha => ?_, fun a ha => ?_, fun m hm => ?_, fun k hk => ?_, fun k hk => ?_, fun k hk => ?_, fun k hk => ?_⟩ ?_
  · rw [pk_un (by omega), su_i (by omega)]; exact b1
  · rw [pk_un (by omega)]; exact b2
  · rw [su_i (by omega)]; exact b3
  · rw [pk_un (by omega), su_i (by omega)]; exact b5
  · rw [pk_us, su_k]
  · rw [pk_un (by omega)]; exact b7
  · rw [su_i (by omega)]; exact b8
  · rw [pk_un (by omega)]; exact (b10 a ha).trans (congrFun (c 11 (by omega)) a).symm
  · rw [pk_un (by omega)]; exact (b11 a ha).trans (congrFun (c 12 (by omega)) a).symm
  · rw [pk_un (by omega)]; exact (b12 a ha).trans (congrFun (c 13 (by omega)) a).symm
  · rw [pk_un (by omega)]; exact (b13 m hm).trans (congrFun (c 14 (by omega)) m).symm
  · rw [pk_un (by omega)]; exact (b14 k hk).trans (congrFun (c 15 (by omega)) k).symm
  · rw [pk_un (by omega)]; exact (b15 k hk).trans (congrFun (c 16 (by omega)) k).symm
  · rw [pk_un (by omega)]; exact (b16 k hk).trans (congrFun (c 17 (by omega)) k).symm
  · rw [pk_un (by omega)]; exact (b17 k hk).trans (congrFun (c 18 (by omega)) k).symm
  · show (∀ a, a < T → su v 10 10 x 13 a = -1 ∨ ∃ m, m < a ∧ su v 10 10 x 13 a = nI m ∧ su v 10 10 x 13 m = -1) ∧ (∀ m, m < 168 → su v 10 10 x 14 m = nI 0 ∨ su v 10 10 x 14 m = nI 1) ∧ (∀ k, k < W → ∃ a, a < T ∧ su v 10 10 x 15 k = nI a ∧ su v 10 10 x 13 a = -1) ∧ (∀ k, k < W → ∃ n, n ≤ 20 ∧ su v 10 10 x 16 k = nI n)
    rw [c 13 (by omega), c 14 (by omega), c 15 (by omega), c 16 (by omega)]; exact hri
theorem J_wnt {v v' : Sto} {g g' : Nat → Int32} {T W k9 : Nat} {m n a b : Int32} (h : J v g T W) (hW8 : W < 8) (hm : ∃ a, a < T ∧ m = nI a ∧ v 13 a = -1) (hn : k9 ≤ 20) (en : n = nI k9)
    (c15 : v' 15 = upd (v 15) W m) (c16 : v' 16 = upd (v 16) W n) (c17 : v' 17 = upd (v 17) W a) (c18 : v' 18 = upd (v 18) W b) (c10 : v' 10 = upd (v 10) 9 (nI (W + 1))) (cc : ∀ k, 3 ≤ k → k ≤ 23 → k ≠ 10 → (k < 15 ∨ 18 < k) → v' k = v k)
    (hg : ∀ j, j ≠ 9 → (j < 56 + 4 * W ∨ 60 + 4 * W ≤ j) → g' j = g j) (g0 : g' (56 + 4 * W) = m) (g1 : g' (57 + 4 * W) = n) (g2 : g' (58 + 4 * W) = a) (g3 : g' (59 + 4 * W) = b) (g9 : g' 9 = nI (W + 1)) : J v' g' T (W + 1) := by
  have hT := h.r.hT
  obtain ⟨b1, b2, b3, b4, b5, b6, b7, b8, b9, b10, b11, b12, b13, b14, b15, b16, b17⟩ := h.r
  obtain ⟨r1, r2, r3, r4⟩ := h.ri
  have c13 := cc 13 (by omega) (by omega) (by omega) (by omega)
  refine J_ro h (fun k hk => cc k (by omega) (by omega) (by omega) (by omega)) (fun j hj => by
    rcases hj with hj | hj | hj | hj
    · have := of_decide_eq_true hj
      exact hg j (by omega) (by omega)
    · exact hg j (by omega) (by omega)
    · exact hg j (by omega) (by omega)
    · exact hg j (by omega) (by omega)) ⟨?_, ?_, ?_, b4, ?_, ?_, g9, ?_, by omega, fun x hx => ?_, fun x hx => ?_, fun x hx => ?_, fun x hx => ?_, fun k hk => ?_, fun k hk => ?_, fun k hk => ?_, fun k hk => ?_⟩ ⟨?_, ?_, fun k hk => ?_, fun k hk => ?_⟩
  · rw [hg _ (by omega) (by omega), c10, pk_un (by omega)]; exact b1
  · rw [hg _ (by omega) (by omega)]; exact b2
  · rw [c10, pk_un (by omega)]; exact b3
  · rw [hg _ (by omega) (by omega), c10, pk_un (by omega)]; exact b5
  · rw [hg _ (by omega) (by omega), c10, pk_un (by omega)]; exact b6
  · rw [c10, pk_us]
  · rw [hg _ (by omega) (by omega)]; exact (b10 x hx).trans (congrFun (cc 11 (by omega) (by omega) (by omega) (by omega)) x).symm
  · rw [hg _ (by omega) (by omega)]; exact (b11 x hx).trans (congrFun (cc 12 (by omega) (by omega) (by omega) (by omega)) x).symm
  · rw [hg _ (by omega) (by omega)]; exact (b12 x hx).trans (congrFun c13 x).symm
  · rw [hg _ (by omega) (by omega)]; exact (b13 x hx).trans (congrFun (cc 14 (by omega) (by omega) (by omega) (by omega)) x).symm
  · show _ = v' 15 k
    rw [c15]
    by_cases z : k = W
    · rw [z, pk_us]; exact g0
    · rw [pk_un z, hg _ (by omega) (by omega)]; exact b14 k (by omega)
  · show _ = v' 16 k
    rw [c16]
    by_cases z : k = W
    · rw [z, pk_us]; exact g1
    · rw [pk_un z, hg _ (by omega) (by omega)]; exact b15 k (by omega)
  · show _ = v' 17 k
    rw [c17]
    by_cases z : k = W
    · rw [z, pk_us]; exact g2
    · rw [pk_un z, hg _ (by omega) (by omega)]; exact b16 k (by omega)
  · show _ = v' 18 k
    rw [c18]
    by_cases z : k = W
    · rw [z, pk_us]; exact g3
    · rw [pk_un z, hg _ (by omega) (by omega)]; exact b17 k (by omega)
  · show ∀ a, a < T → v' 13 a = -1 ∨ ∃ m, m < a ∧ v' 13 a = nI m ∧ v' 13 m = -1
    rw [c13]; exact r1
  · show ∀ m, m < 168 → v' 14 m = nI 0 ∨ v' 14 m = nI 1
    rw [cc 14 (by omega) (by omega) (by omega) (by omega)]; exact r2
  · show ∃ a, a < T ∧ v' 15 k = nI a ∧ v' 13 a = -1
    rw [c13, c15]
    by_cases z : k = W
    · rw [z, pk_us]; exact hm
    · rw [pk_un z]; exact r3 k (by omega)
  · show ∃ n, n ≤ 20 ∧ v' 16 k = nI n
    rw [c16]
    by_cases z : k = W
    · rw [z, pk_us]; exact ⟨k9, hn, en⟩
    · rw [pk_un z]; exact r4 k (by omega)
