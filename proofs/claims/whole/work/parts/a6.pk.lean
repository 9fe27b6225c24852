-- after: a5.pj
/-- only the places that there are count -/
theorem J_in {v v' : Sto} {g : Nat → Int32} {T W : Nat} (h : J v g T W) (hv : ∀ k j, 3 ≤ k → k ≤ 23 → plc (shp k) j = true → v' k j = v k j) : J v' g T W := by
  have hT := h.r.hT
  have hW := h.r.hW
  have e4 : ∀ j, j < 168 → v' 4 j = v 4 j := fun j hj => hv 4 j (by omega) (by omega) (by rw [sh_4]; exact decide_eq_true hj)
  have e5 : ∀ j, j < 168 → v' 5 j = v 5 j := fun j hj => hv 5 j (by omega) (by omega) (by rw [sh_5]; exact decide_eq_true hj)
  have e6 : ∀ j, j < 168 → v' 6 j = v 6 j := fun j hj => hv 6 j (by omega) (by omega) (by rw [sh_6]; exact decide_eq_true hj)
  have e7 : ∀ j, j < 10 → v' 7 j = v 7 j := fun j hj => hv 7 j (by omega) (by omega) (by rw [sh_7]; exact decide_eq_true hj)
  have e8 : ∀ j, j < 10 → v' 8 j = v 8 j := fun j hj => hv 8 j (by omega) (by omega) (by rw [sh_8]; exact decide_eq_true hj)
  have e9 : ∀ j, j < 80 → v' 9 j = v 9 j := fun j hj => hv 9 j (by omega) (by omega) (by rw [sh_9]; exact decide_eq_true hj)
  have e11 : ∀ j, j < 10 → v' 11 j = v 11 j := fun j hj => hv 11 j (by omega) (by omega) (by rw [sh_11]; exact decide_eq_true hj)
  have e12 : ∀ j, j < 10 → v' 12 j = v 12 j := fun j hj => hv 12 j (by omega) (by omega) (by rw [sh_12]; exact decide_eq_true hj)
  have e13 : ∀ j, j < 10 → v' 13 j = v 13 j := fun j hj => hv 13 j (by omega) (by omega) (by rw [sh_13]; exact decide_eq_true hj)
  have e14 : ∀ j, j < 168 → v' 14 j = v 14 j := fun j hj => hv 14 j (by omega) (by omega) (by rw [sh_14]; exact decide_eq_true hj)
  have e15 : ∀ j, j < 8 → v' 15 j = v 15 j := fun j hj => hv 15 j (by omega) (by omega) (by rw [sh_15]; exact decide_eq_true hj)
  have e16 : ∀ j, j < 8 → v' 16 j = v 16 j := fun j hj => hv 16 j (by omega) (by omega) (by rw [sh_16]; exact decide_eq_true hj)
  have e17 : ∀ j, j < 8 → v' 17 j = v 17 j := fun j hj => hv 17 j (by omega) (by omega) (by rw [sh_17]; exact decide_eq_true hj)
  have e18 : ∀ j, j < 8 → v' 18 j = v 18 j := fun j hj => hv 18 j (by omega) (by omega) (by rw [sh_18]; exact decide_eq_true hj)
  have e20 : ∀ j, j < 400 → v' 20 j = v 20 j := fun j hj => hv 20 j (by omega) (by omega) (by rw [sh_20]; exact decide_eq_true hj)
  have e21 : ∀ j, j < 13 → v' 21 j = v 21 j := fun j hj => hv 21 j (by omega) (by omega) (by rw [sh_21]; exact decide_eq_true hj)
  have e22 : ∀ j, j < 12 → v' 22 j = v 22 j := fun j hj => hv 22 j (by omega) (by omega) (by rw [sh_22]; exact decide_eq_true hj)
  have e23 : ∀ j, j < 12 → v' 23 j = v 23 j := fun j hj => hv 23 j (by omega) (by omega) (by rw [sh_23]; exact decide_eq_true hj)
  have f6 : v' 3 6 = v 3 6 := hv 3 6 (by omega) (by omega) (by rw [sh_3]; rfl)
  have f7 : v' 3 7 = v 3 7 := hv 3 7 (by omega) (by omega) (by rw [sh_3]; rfl)
  have f8 : v' 3 8 = v 3 8 := hv 3 8 (by omega) (by omega) (by rw [sh_3]; rfl)
  have f9 : v' 3 9 = v 3 9 := hv 3 9 (by omega) (by omega) (by rw [sh_3]; rfl)
  have f10 : v' 3 10 = v 3 10 := hv 3 10 (by omega) (by omega) (by rw [sh_3]; rfl)
  have f11 : v' 3 11 = v 3 11 := hv 3 11 (by omega) (by omega) (by rw [sh_3]; rfl)
  have h8 : v' 10 8 = v 10 8 := hv 10 8 (by omega) (by omega) (by rw [sh_10]; rfl)
  have h9 : v' 10 9 = v 10 9 := hv 10 9 (by omega) (by omega) (by rw [sh_10]; rfl)
  have h10 : v' 10 10 = v 10 10 := hv 10 10 (by omega) (by omega) (by rw [sh_10]; rfl)
  have h11 : v' 10 11 = v 10 11 := hv 10 11 (by omega) (by omega) (by rw [sh_10]; rfl)
  have h12 : v' 10 12 = v 10 12 := hv 10 12 (by omega) (by omega) (by rw [sh_10]; rfl)
  have g5 : v' 19 5 = v 19 5 := hv 19 5 (by omega) (by omega) (by rw [sh_19]; rfl)
  obtain ⟨⟨a1, a2, a3, a4, a5, a6, a7, a8, a9⟩, ⟨b1, b2, b3, b4, b5, b6, b7, b8, b9, b10, b11, b12, b13, b14, b15, b16, b17⟩, hl, ⟨t1, t2, t3, t4, t5, t6, t7⟩, q5, r1, r2, r3, r4⟩ := h
  refine ⟨⟨fun r hr => (a1 r hr).trans (e4 r hr).symm, fun r hr => ?_, fun r hr => (a3 r hr).trans (e6 r hr).symm, fun r hr => (a4 r hr).trans (e7 r hr).symm, a5.trans f9.symm, a6.trans f10.symm, a7.trans f8.symm, a8.trans f11.symm, a9.trans f7.symm⟩, ⟨b1.trans h11.symm, b2, h8.trans b3, b4, b5.trans h12.symm, b6.trans h10.symm, b7, h9.trans b8, b9, fun r hr => (b10 r hr).trans (e11 r (by omega)).symm, fun r hr => (b11 r hr).trans (e12 r (by omega)).symm, fun r hr => (b12 r hr).trans (e13 r (by omega)).symm, fun r hr => (b13 r hr).trans (e14 r hr).symm, fun r hr => (b14 r hr).trans (e15 r (by omega)).symm, fun r hr => (b15 r hr).trans (e16 r (by omega)).symm, fun r hr => (b16 r hr).trans (e17 r (by omega)).symm, fun r hr => (b17 r hr).trans (e18 r (by omega)).symm⟩, ?_, ⟨fun m hm => ?_, fun m hm => ?_, fun a ha => ?_, ?_, ?_, ?_, fun a p1 p2 => (e7 a p2).trans (t7 a p1 p2)⟩, fun k hk => ?_, fun a ha => ?_, fun m hm => ?_, fun k hk => ?_, fun k hk => ?_⟩
  · show _ = if v' 5 r = -1 then v' 4 r else v' 5 r
    rw [e4 r hr, e5 r hr]; exact a2 r hr
  · rcases hl with ⟨a, b⟩ | ⟨t, L, hL, p5, p2, p3, hP, hLW⟩
    · exact Or.inl ⟨g5.trans a, b⟩
    · have hw := law_w hP
      exact Or.inr ⟨t, L, hL, g5.trans p5, p2, p3, hP, LWp_mono (c := 19) (d := 19) (fun j hj => (e21 j hj).symm) (fun j hj => (e20 j hj).symm) (fun j hj => ⟨(e22 j hj).symm, (e23 j hj).symm⟩) t 0 0 (by omega) (by omega) hLW⟩
  · show v' 4 m = -1 ∨ ∃ a, a < T ∧ v' 4 m = nI a ∧ v' 13 a = -1
    rw [e4 m hm]
    rcases t1 m hm with e | ⟨a, p1, p2, p3⟩
    · exact Or.inl e
    · exact Or.inr ⟨a, p1, p2, (e13 a (by omega)).trans p3⟩
  · show v' 5 m = -1 ∨ (¬ v' 4 m = -1 ∧ ¬ v' 5 m = v' 4 m ∧ ∃ a, a < T ∧ v' 5 m = nI a ∧ v' 13 a = -1)
    rw [e4 m hm, e5 m hm]
    rcases t2 m hm with e | ⟨d1, d2, a, p1, p2, p3⟩
    · exact Or.inl e
    · exact Or.inr ⟨d1, d2, a, p1, p2, (e13 a (by omega)).trans p3⟩
  · show v' 8 a = ctI (fun m => decide (v' 4 m = nI a)) 168
    rw [e8 a ha, ctI_cong (q := fun m => decide (v 4 m = nI a)) (fun m hm => by rw [e4 m hm])]; exact t3 a ha
  · rw [f6]; exact t4
  · rw [f7]; exact t5
  · rw [f10]; exact t6
  · rw [f7] at hk
    show g _ = lg_weekOf (v' 9 ((ix (v' 3 6) + 79 - k) % 80)) ∧ g _ = lg_roomIn (v' 9 ((ix (v' 3 6) + 79 - k) % 80)) ∧ g _ = lg_whoOf (v' 9 ((ix (v' 3 6) + 79 - k) % 80)) ∧ g _ = lg_howOf (v' 9 ((ix (v' 3 6) + 79 - k) % 80))
    rw [f6, e9 _ (Nat.mod_lt _ (by decide))]; exact q5 k hk
  · show v' 13 a = -1 ∨ ∃ m, m < a ∧ v' 13 a = nI m ∧ v' 13 m = -1
    rw [e13 a (by omega)]
    rcases r1 a ha with e | ⟨m, p1, p2, p3⟩
    · exact Or.inl e
    · exact Or.inr ⟨m, p1, p2, (e13 m (by omega)).trans p3⟩
  · show v' 14 m = nI 0 ∨ v' 14 m = nI 1
    rw [e14 m hm]; exact r2 m hm
  · show ∃ a, a < T ∧ v' 15 k = nI a ∧ v' 13 a = -1
    rw [e15 k (by omega)]
    obtain ⟨a, p1, p2, p3⟩ := r3 k hk
    exact ⟨a, p1, p2, (e13 a (by omega)).trans p3⟩
  · show ∃ n, n ≤ 20 ∧ v' 16 k = nI n
    rw [e16 k (by omega)]; exact r4 k hk
/-- a tape that is the same in all places may be the same everywhere -/
theorem INV_tape {i : Nat} {u : Sto} (h : INV i u) : ∃ u', inR u u' ∧ INV i u' ∧ u' 183 = u' 1 := by
  obtain ⟨T, W, pf, pc, tl, q1, q2, q3, q4, q5, q6, q7, q8, q9, q10, q11, q12, q13⟩ := h
  have c : ∀ k, k ≠ 183 → sc u 183 (u 1) k = u k := fun k hk => sc_ne _ _ hk
  refine ⟨sc u 183 (u 1), fun k j _ hp => ?_, ⟨T, W, pf, pc, tl, ?_, law9_c (c 19 (by decide)) (c 21 (by decide)) (c 10 (by decide)) q2, TB_c (c 3 (by decide)) q3, ?_, ?_, fun k hk => ?_, ?_, ?_, q9, ?_, ?_, fun j _ => by rw [sc_at, c 1 (by decide)], ?_⟩, by rw [sc_at, c 1 (by decide)]⟩
  · by_cases z : k = 183
    · subst z
      rw [sh_183] at hp
      rw [sc_at]; exact (q12 j (of_decide_eq_true hp)).symm
    · rw [c k z]
  · rw [c 179 (by decide)]; exact J_v q1 (fun k h1 h2 => c k (by omega))
  · unfold PI; rw [c 0 (by decide)]; exact q4
  · rw [c 178 (by decide)]; exact q5
  · exact acJ_c (fun d hd => c d (by omega)) (fun j _ => by rw [c 182 (by decide)]) (fun j _ => by rw [c 179 (by decide)]) (q6 k hk)
  · rw [c 0 (by decide), c 178 (by decide)]; exact q7
  · rw [c 0 (by decide), c 180 (by decide)]
    rcases q8 with q8 | ⟨T', W', z1, z2, z3⟩
    · exact Or.inl q8
    · exact Or.inr ⟨T', W', J_v z1 (fun k h1 h2 => c (k + 48) (by omega)), law9_c (b := rlw u) (c (19 + 48) (by omega)) (c (21 + 48) (by omega)) (c (10 + 48) (by omega)) z2, TB_c (b := rlw u) (c (3 + 48) (by omega)) z3⟩
  · rw [c 0 (by decide)]; exact q10
  · rw [c 178 (by decide)]; exact q11
  · rw [c 0 (by decide), c 178 (by decide)]; exact q13
