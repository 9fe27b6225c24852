-- after: 9y.pc
theorem pl_ro {a : List (Option Nat)} {n j : Nat} (h : plc (.inl (n, a ++ [none, none, none, none, none])) j = true) (ha : a.length = 8 := by decide) (hs : a.all (fun x => x.isSome) = true := by decide) : j = 8 ∨ j = 9 ∨ j = 10 ∨ j = 11 ∨ j = 12 := by
  unfold plc at h
  simp only at h
  by_cases c : j < 8
  · rw [List.getElem?_append_left (by omega)] at h
    have hj : j < a.length := by omega
    rw [List.getElem?_eq_getElem hj] at h
    have := List.all_eq_true.mp hs _ (List.getElem_mem hj)
    revert h this
    cases a[j] with
    | none => intro h this; exact absurd this (by decide)
    | some x => intro h this; exact absurd (show false = true from h) (by decide)
  · by_cases c2 : 13 ≤ j
    · rw [List.getElem?_eq_none (by rw [List.length_append, ha]; exact c2)] at h
      exact absurd h (by decide)
    · omega
theorem pl_lw {a : List (Option Nat)} {n j : Nat} (h : plc (.inl (n, a ++ [none])) j = true) (ha : a.length = 5 := by decide) (hs : a.all (fun x => x.isSome) = true := by decide) : j = 5 := by
  unfold plc at h
  simp only at h
  by_cases c : j < 5
  · rw [List.getElem?_append_left (by omega)] at h
    have hj : j < a.length := by omega
    rw [List.getElem?_eq_getElem hj] at h
    have := List.all_eq_true.mp hs _ (List.getElem_mem hj)
    revert h this
    cases a[j] with
    | none => intro h this; exact absurd this (by decide)
    | some x => intro h this; exact absurd (show false = true from h) (by decide)
  · by_cases c2 : 6 ≤ j
    · rw [List.getElem?_eq_none (by rw [List.length_append, ha]; exact c2)] at h
      exact absurd h (by decide)
    · omega
theorem cpW_c {u : Sto} {b o k : Nat} (h : k < b + 1 ∨ b + 22 < k) : cpW u b o k = u k := by
  unfold cpW
  rw [cpL_c (by omega), cpR_c (by omega), cpT_c (by omega)]
theorem cpW_24 {u : Sto} {b o : Nat} : cpW u b o (b + 22) = u (b + 22) := by
  unfold cpW cpL
  rw [su_cell _ _ (by omega), sc_ne _ _ (by omega), sc_ne _ _ (by omega), sc_ne _ _ (by omega), sc_ne _ _ (by omega), cpR_c (by omega), cpT_c (by omega)]
theorem cpW_b {u : Sto} {k j : Nat} (h1 : 3 ≤ k) (h2 : k ≤ 23) (hp : plc (shp k) j = true) : cpW u 2 50 k j = u (k + 48) j := by
  unfold cpW
  have hk : k = 3 ∨ k = 4 ∨ k = 5 ∨ k = 6 ∨ k = 7 ∨ k = 8 ∨ k = 9 ∨ k = 10 ∨ k = 11 ∨ k = 12 ∨ k = 13 ∨ k = 14 ∨ k = 15 ∨ k = 16 ∨ k = 17 ∨ k = 18 ∨ k = 19 ∨ k = 20 ∨ k = 21 ∨ k = 22 ∨ k = 23 := by omega
  rcases hk with rfl | rfl | rfl | rfl | rfl | rfl | rfl | rfl | rfl | rfl | rfl | rfl | rfl | rfl | rfl | rfl | rfl | rfl | rfl | rfl | rfl
  · rw [cpL_c (by omega), cpR_c (by omega), cp_in (by decide) (by omega) hp]; exact congrFun (cx_i (t := 3) (o := 51) (d := 0) (by decide)) j
  · rw [cpL_c (by omega), cpR_c (by omega), cp_in (by decide) (by omega) hp]; exact congrFun (cx_i (t := 3) (o := 51) (d := 1) (by decide)) j
  · rw [cpL_c (by omega), cpR_c (by omega), cp_in (by decide) (by omega) hp]; exact congrFun (cx_i (t := 3) (o := 51) (d := 2) (by decide)) j
  · rw [cpL_c (by omega), cpR_c (by omega), cp_in (by decide) (by omega) hp]; exact congrFun (cx_i (t := 3) (o := 51) (d := 3) (by decide)) j
  · rw [cpL_c (by omega), cpR_c (by omega), cp_in (by decide) (by omega) hp]; exact congrFun (cx_i (t := 3) (o := 51) (d := 4) (by decide)) j
  · rw [cpL_c (by omega), cpR_c (by omega), cp_in (by decide) (by omega) hp]; exact congrFun (cx_i (t := 3) (o := 51) (d := 5) (by decide)) j
  · rw [cpL_c (by omega), cpR_c (by omega), cp_in (by decide) (by omega) hp]; exact congrFun (cx_i (t := 3) (o := 51) (d := 6) (by decide)) j
  · rcases pl_ro (a := [some 11, some 12, some 13, some 14, some 15, some 16, some 17, some 18]) (by rw [sh_10] at hp; exact hp) with rfl | rfl | rfl | rfl | rfl
    · rw [cpL_c (by omega), cpR_s8 (by omega), cpT_c (by omega)]
    · rw [cpL_c (by omega), cpR_s9 (by omega), cpT_c (by omega)]
    · rw [cpL_c (by omega), cpR_s10 (by omega), cpT_c (by omega)]
    · rw [cpL_c (by omega), cpR_s11 (by omega), cpT_c (by omega)]
    · rw [cpL_c (by omega), cpR_s12 (by omega), cpT_c (by omega)]
  · rw [sh_11] at hp; rw [cpL_c (by omega)]; exact (cpR_1 (t := 10) (o := 58) (by omega) (of_decide_eq_true hp)).trans (by rw [cpT_c (by omega)])
  · rw [sh_12] at hp; rw [cpL_c (by omega)]; exact (cpR_2 (t := 10) (o := 58) (by omega) (of_decide_eq_true hp)).trans (by rw [cpT_c (by omega)])
  · rw [sh_13] at hp; rw [cpL_c (by omega)]; exact (cpR_3 (t := 10) (o := 58) (by omega) (of_decide_eq_true hp)).trans (by rw [cpT_c (by omega)])
  · rw [sh_14] at hp; rw [cpL_c (by omega)]; exact (cpR_4 (t := 10) (o := 58) (by omega) (of_decide_eq_true hp)).trans (by rw [cpT_c (by omega)])
  · rw [sh_15] at hp; rw [cpL_c (by omega)]; exact (cpR_5 (t := 10) (o := 58) (by omega) (of_decide_eq_true hp)).trans (by rw [cpT_c (by omega)])
  · rw [sh_16] at hp; rw [cpL_c (by omega)]; exact (cpR_6 (t := 10) (o := 58) (by omega) (of_decide_eq_true hp)).trans (by rw [cpT_c (by omega)])
  · rw [sh_17] at hp; rw [cpL_c (by omega)]; exact (cpR_7 (t := 10) (o := 58) (by omega) (of_decide_eq_true hp)).trans (by rw [cpT_c (by omega)])
  · rw [sh_18] at hp; rw [cpL_c (by omega)]; exact (cpR_8 (t := 10) (o := 58) (by omega) (of_decide_eq_true hp)).trans (by rw [cpT_c (by omega)])
  · have hj := pl_lw (a := [some 20, some 21, some 22, some 23, some 24]) (by rw [sh_19] at hp; exact hp)
    subst hj; rw [cpL_s5 (by omega), cpR_c (by omega), cpT_c (by omega)]
  · rw [sh_20] at hp; exact (cpL_1 (t := 19) (o := 67) (by omega) (of_decide_eq_true hp)).trans (by rw [cpR_c (by omega), cpT_c (by omega)])
  · rw [sh_21] at hp; exact (cpL_2 (t := 19) (o := 67) (by omega) (of_decide_eq_true hp)).trans (by rw [cpR_c (by omega), cpT_c (by omega)])
  · rw [sh_22] at hp; exact (cpL_3 (t := 19) (o := 67) (by omega) (of_decide_eq_true hp)).trans (by rw [cpR_c (by omega), cpT_c (by omega)])
  · rw [sh_23] at hp; exact (cpL_4 (t := 19) (o := 67) (by omega) (of_decide_eq_true hp)).trans (by rw [cpR_c (by omega), cpT_c (by omega)])
theorem cpW_i {u : Sto} {k j : Nat} (h1 : 51 ≤ k) (h2 : k ≤ 71) (hp : plc (shp k) j = true) : cpW u 50 2 k j = u (k - 48) j := by
  unfold cpW
  have hk : k = 51 ∨ k = 52 ∨ k = 53 ∨ k = 54 ∨ k = 55 ∨ k = 56 ∨ k = 57 ∨ k = 58 ∨ k = 59 ∨ k = 60 ∨ k = 61 ∨ k = 62 ∨ k = 63 ∨ k = 64 ∨ k = 65 ∨ k = 66 ∨ k = 67 ∨ k = 68 ∨ k = 69 ∨ k = 70 ∨ k = 71 := by omega
  rcases hk with rfl | rfl | rfl | rfl | rfl | rfl | rfl | rfl | rfl | rfl | rfl | rfl | rfl | rfl | rfl | rfl | rfl | rfl | rfl | rfl | rfl
  · rw [cpL_c (by omega), cpR_c (by omega), cp_in (by decide) (by omega) hp]; exact congrFun (cx_i (t := 51) (o := 3) (d := 0) (by decide)) j
  · rw [cpL_c (by omega), cpR_c (by omega), cp_in (by decide) (by omega) hp]; exact congrFun (cx_i (t := 51) (o := 3) (d := 1) (by decide)) j
  · rw [cpL_c (by omega), cpR_c (by omega), cp_in (by decide) (by omega) hp]; exact congrFun (cx_i (t := 51) (o := 3) (d := 2) (by decide)) j
  · rw [cpL_c (by omega), cpR_c (by omega), cp_in (by decide) (by omega) hp]; exact congrFun (cx_i (t := 51) (o := 3) (d := 3) (by decide)) j
  · rw [cpL_c (by omega), cpR_c (by omega), cp_in (by decide) (by omega) hp]; exact congrFun (cx_i (t := 51) (o := 3) (d := 4) (by decide)) j
  · rw [cpL_c (by omega), cpR_c (by omega), cp_in (by decide) (by omega) hp]; exact congrFun (cx_i (t := 51) (o := 3) (d := 5) (by decide)) j
  · rw [cpL_c (by omega), cpR_c (by omega), cp_in (by decide) (by omega) hp]; exact congrFun (cx_i (t := 51) (o := 3) (d := 6) (by decide)) j
  · rcases pl_ro (a := [some 59, some 60, some 61, some 62, some 63, some 64, some 65, some 66]) (by rw [sh_58] at hp; exact hp) with rfl | rfl | rfl | rfl | rfl
    · rw [cpL_c (by omega), cpR_s8 (by omega), cpT_c (by omega)]
    · rw [cpL_c (by omega), cpR_s9 (by omega), cpT_c (by omega)]
    · rw [cpL_c (by omega), cpR_s10 (by omega), cpT_c (by omega)]
    · rw [cpL_c (by omega), cpR_s11 (by omega), cpT_c (by omega)]
    · rw [cpL_c (by omega), cpR_s12 (by omega), cpT_c (by omega)]
  · rw [sh_59] at hp; rw [cpL_c (by omega)]; exact (cpR_1 (t := 58) (o := 10) (by omega) (of_decide_eq_true hp)).trans (by rw [cpT_c (by omega)])
  · rw [sh_60] at hp; rw [cpL_c (by omega)]; exact (cpR_2 (t := 58) (o := 10) (by omega) (of_decide_eq_true hp)).trans (by rw [cpT_c (by omega)])
  · rw [sh_61] at hp; rw [cpL_c (by omega)]; exact (cpR_3 (t := 58) (o := 10) (by omega) (of_decide_eq_true hp)).trans (by rw [cpT_c (by omega)])
  · rw [sh_62] at hp; rw [cpL_c (by omega)]; exact (cpR_4 (t := 58) (o := 10) (by omega) (of_decide_eq_true hp)).trans (by rw [cpT_c (by omega)])
  · rw [sh_63] at hp; rw [cpL_c (by omega)]; exact (cpR_5 (t := 58) (o := 10) (by omega) (of_decide_eq_true hp)).trans (by rw [cpT_c (by omega)])
  · rw [sh_64] at hp; rw [cpL_c (by omega)]; exact (cpR_6 (t := 58) (o := 10) (by omega) (of_decide_eq_true hp)).trans (by rw [cpT_c (by omega)])
  · rw [sh_65] at hp; rw [cpL_c (by omega)]; exact (cpR_7 (t := 58) (o := 10) (by omega) (of_decide_eq_true hp)).trans (by rw [cpT_c (by omega)])
  · rw [sh_66] at hp; rw [cpL_c (by omega)]; exact (cpR_8 (t := 58) (o := 10) (by omega) (of_decide_eq_true hp)).trans (by rw [cpT_c (by omega)])
  · have hj := pl_lw (a := [some 68, some 69, some 70, some 71, some 72]) (by rw [sh_67] at hp; exact hp)
    subst hj; rw [cpL_s5 (by omega), cpR_c (by omega), cpT_c (by omega)]
  · rw [sh_68] at hp; exact (cpL_1 (t := 67) (o := 19) (by omega) (of_decide_eq_true hp)).trans (by rw [cpR_c (by omega), cpT_c (by omega)])
  · rw [sh_69] at hp; exact (cpL_2 (t := 67) (o := 19) (by omega) (of_decide_eq_true hp)).trans (by rw [cpR_c (by omega), cpT_c (by omega)])
  · rw [sh_70] at hp; exact (cpL_3 (t := 67) (o := 19) (by omega) (of_decide_eq_true hp)).trans (by rw [cpR_c (by omega), cpT_c (by omega)])
  · rw [sh_71] at hp; exact (cpL_4 (t := 67) (o := 19) (by omega) (of_decide_eq_true hp)).trans (by rw [cpR_c (by omega), cpT_c (by omega)])
theorem ag_undo0 {i : Nat} {u : Sto} (hI : INV i u) : agd i (.inl (some (.int (b2 (0 < 0))))) (.inl (some (.int (nI 0)))) (u0 u) := ⟨nI 0, _, rfl, rfl, inR.refl _, INV_le (Nat.le_succ i) (INV_c (th_IB _ _) hI)⟩
theorem ag_undo {i : Nat} {u : Sto} {T W pf a tl : Nat} (h : INVp i u T W pf (a + 1) tl) (w : Sto) (hw : w = cpT (su u 0 9 (nI a)) 3 (75 + 7 * ((pf + a) % 12))) : w 178 6 = nI (a + 1) ∧ agd i (.inl (some (.int (b2 (0 < a + 1))))) (.inl (some (.int (nI 1)))) (sc (su (u0 w) 178 6 (nI a)) 179 (mvF (w 179) (fun j => w 182 (1080 * a + j)) 1080)) := by
  obtain ⟨q1, q2, q3, ⟨p1, p2, p3, p4⟩, q5, q6, q7, q8, q9, q10, q11, q12, q13⟩ := h
  have hm : (pf + a) % 12 < 12 := Nat.mod_lt _ (by decide)
  have wc : ∀ k, ¬ (3 ≤ k ∧ k ≤ 9) → k ≠ 0 → w k = u k := fun k hk h0 => by rw [hw, cpT_c (by omega), su_cell _ _ h0]
  have w0 : ∀ j, j ≠ 9 → w 0 j = u 0 j := fun j hj => by rw [hw, cpT_c (by omega), su_i hj]
  have w9 : w 0 9 = nI a := by rw [hw, cpT_c (by omega), su_k]
  refine ⟨by rw [wc 178 (by omega) (by decide)]; exact q5, nI 1, ?_⟩
  obtain ⟨t, ht⟩ : ∃ t, t = sc (su (u0 w) 178 6 (nI a)) 179 (mvF (w 179) (fun j => w 182 (1080 * a + j)) 1080) := ⟨_, rfl⟩
  rw [← ht]
  have tk : ∀ k, k ≠ 178 → k ≠ 179 → t k = w k := fun k h1 h2 => by rw [ht, sc_ne _ _ h2, su_cell _ _ h1, u0_c h1]
  have tm : ∀ j, j ≠ 0 → j ≠ 6 → t 178 j = u 178 j := fun j h1 h2 => by rw [ht, sc_ne _ _ (by decide), su_i h2, u0_j h1, wc 178 (by omega) (by decide)]
  have t6 : t 178 6 = nI a := by rw [ht, sc_ne _ _ (by decide), su_k]
  have t179 : t 179 = mvF (u 179) (fun j => u 182 (1080 * a + j)) 1080 := by rw [ht, sc_at, wc 179 (by omega) (by decide), wc 182 (by omega) (by decide)]
  let t' : Sto := fun k => if 3 ≤ k ∧ k ≤ 9 then cxT u 3 (75 + 7 * ((pf + a) % 12)) k else t k
  have e' : ∀ k, ¬ (3 ≤ k ∧ k ≤ 9) → t' k = t k := fun k hk => if_neg hk
  have eT : ∀ k, 3 ≤ k ∧ k ≤ 9 → t' k = cxT u 3 (75 + 7 * ((pf + a) % 12)) k := fun k hk => if_pos hk
  have tu : ∀ k, ¬ (3 ≤ k ∧ k ≤ 9) → k ≠ 0 → k ≠ 178 → k ≠ 179 → t' k = u k := fun k h1 h2 h3 h4 => by rw [e' k h1, tk k h3 h4, wc k h1 h2]
  have cv : ∀ k, 3 ≤ k → k ≤ 23 → t' k = cxT u 3 (75 + 7 * ((pf + a) % 12)) k := fun k h1 h2 => by
    by_cases z : k ≤ 9
    · exact eT k ⟨h1, z⟩
    · rw [tu k (by omega) (by omega) (by omega) (by omega), cx_o (by omega)]
  have e0 : ∀ j, t' 0 j = w 0 j := fun j => by rw [e' 0 (by omega), tk 0 (by decide) (by decide)]
  have ha := q6 a (by omega)
  unfold acJ at ha
  refine ⟨t', by rw [b2_t (by omega)], rfl, fun k j _ hp => ?_, T, W, pf, a, tl, ?_, law9_c (tu 19 (by omega) (by decide) (by decide) (by decide)) (tu 21 (by omega) (by decide) (by decide) (by decide)) (tu 10 (by omega) (by decide) (by decide) (by decide)) q2, TB_c (cv 3 (by omega) (by omega)) (TB_le (Nat.le_succ i) ha.2), ⟨p1, by omega, by rw [e0, w0 8 (by decide)]; exact p3, by rw [e0]; exact w9⟩, by rw [e' 178 (by omega)]; exact t6, fun k hk => ?_, by rw [e0, w0 6 (by decide), e' 178 (by omega), tm 3 (by decide) (by decide)]; exact q7, ?_, q9, by rw [e0, w0 1 (by decide)]; exact q10, by rw [e' 178 (by omega), tm 8 (by decide) (by decide)]; exact q11, fun j hj => by rw [tu 1 (by omega) (by decide) (by decide) (by decide), tu 183 (by omega) (by decide) (by decide) (by decide)]; exact q12 j hj, by rw [e0, w0 2 (by decide), e' 178 (by omega), tm 12 (by decide) (by decide)]; exact q13⟩
  · by_cases z : 3 ≤ k ∧ k ≤ 9
    · rw [eT k z, tk k (by omega) (by omega), hw, cp_in (by decide) (by omega) hp]
      obtain ⟨d, hd, rfl⟩ : ∃ d, d < 7 ∧ k = 3 + d := ⟨k - 3, by omega, by omega⟩
      rw [cx_i hd, cx_i hd, su_cell _ _ (by omega)]
    · rw [e' k z]
  · rw [e' 179 (by omega), t179]
    exact J_v ha.1 cv
  · have ho : acJ (i + 1) u T W pf k := ⟨(q6 k (by omega)).1, TB_le (Nat.le_succ i) (q6 k (by omega)).2⟩
    exact acJ_c (fun c hc => tu c (by omega) (by omega) (by omega) (by omega)) (fun j _ => by rw [tu 182 (by omega) (by decide) (by decide) (by decide)]) (fun j hj => by rw [e' 179 (by omega), t179, mv_hi hj]) ho
  · rw [e0, w0 6 (by decide), tu 180 (by omega) (by decide) (by decide) (by decide)]
    rcases q8 with q8 | ⟨T', W', z1, z2, z3⟩
    · exact Or.inl q8
    · exact Or.inr ⟨T', W', J_v z1 (fun k h1 h2 => tu (k + 48) (by omega) (by omega) (by omega) (by omega)), law9_c (b := rlw u) (tu (19 + 48) (by omega) (by omega) (by omega) (by omega)) (tu (21 + 48) (by omega) (by omega) (by omega) (by omega)) (tu (10 + 48) (by omega) (by omega) (by omega) (by omega)) z2, TB_c (b := rlw u) (tu (3 + 48) (by omega) (by omega) (by omega) (by omega)) (TB_le (Nat.le_succ i) z3)⟩
theorem ag_back0 {i : Nat} {u : Sto} (hI : INV i u) (h : u 0 6 = 0) : u 178 3 = 0 ∧ agd i (.inl (some (.int (b2 (¬ u 0 6 = 0))))) (.inl (some (.int (nI 0)))) (u0 u) := by
  refine ⟨?_, nI 0, _, by rw [b2_f (fun q => q h)], rfl, inR.refl _, INV_le (Nat.le_succ i) (INV_c (th_IB _ _) hI)⟩
  obtain ⟨T, W, pf, pc, tl, hh⟩ := hI
  rw [← hh.2.2.2.2.2.2.1]; exact h
theorem ag_back {i : Nat} {u : Sto} (hI : INV i u) (h : ¬ u 0 6 = 0) (w : Sto) (hw : w = su (cpW u 2 50) 0 9 (nI 0)) : ¬ w 178 3 = 0 ∧ agd i (.inl (some (.int (b2 (¬ u 0 6 = 0))))) (.inl (some (.int (nI 1)))) (su (sc (u0 w) 179 (mvF (w 179) (w 180) 1480)) 178 6 (nI 0)) := by
  obtain ⟨T, W, pf, pc, tl, q1, q2, q3, ⟨p1, p2, p3, p4⟩, q5, q6, q7, q8, q9, q10, q11, q12, q13⟩ := hI
  obtain ⟨T', W', z1, z2, z3⟩ := q8.resolve_left h
  have wc : ∀ k, ¬ (3 ≤ k ∧ k ≤ 23) → k ≠ 0 → w k = u k := fun k hk h0 => by
    rw [hw, su_cell _ _ h0]
    by_cases z : k = 24
    · subst z; exact cpW_24 (b := 2)
    · exact cpW_c (by omega)
  have w0 : ∀ j, j ≠ 9 → w 0 j = u 0 j := fun j hj => by rw [hw, su_i hj, cpW_c (by omega)]
  have w9 : w 0 9 = nI 0 := by rw [hw, su_k]
  refine ⟨by rw [wc 178 (by omega) (by decide), ← q7]; exact h, nI 1, ?_⟩
  obtain ⟨t, ht⟩ : ∃ t, t = su (sc (u0 w) 179 (mvF (w 179) (w 180) 1480)) 178 6 (nI 0) := ⟨_, rfl⟩
  rw [← ht]
  have tk : ∀ k, k ≠ 178 → k ≠ 179 → t k = w k := fun k h1 h2 => by rw [ht, su_cell _ _ h1, sc_ne _ _ h2, u0_c h1]
  have tm : ∀ j, j ≠ 0 → j ≠ 6 → t 178 j = u 178 j := fun j h1 h2 => by rw [ht, su_i h2, sc_ne _ _ (by decide), u0_j h1, wc 178 (by omega) (by decide)]
  have t6 : t 178 6 = nI 0 := by rw [ht, su_k]
  have t179 : ∀ j, j < 1480 → t 179 j = u 180 j := fun j hj => by rw [ht, su_cell _ _ (by decide), sc_at, mv_lo hj, wc 180 (by omega) (by decide)]
  let t' : Sto := fun k => if 3 ≤ k ∧ k ≤ 23 then u (k + 48) else if k = 179 then u 180 else t k
  have e' : ∀ k, ¬ (3 ≤ k ∧ k ≤ 23) → k ≠ 179 → t' k = t k := fun k hk h1 => (if_neg hk).trans (if_neg h1)
  have eT : ∀ k, 3 ≤ k → k ≤ 23 → t' k = rlw u k := fun k h1 h2 => if_pos ⟨h1, h2⟩
  have e179 : t' 179 = u 180 := (if_neg (by omega)).trans (if_pos rfl)
  have tu : ∀ k, ¬ (3 ≤ k ∧ k ≤ 23) → k ≠ 0 → k ≠ 178 → k ≠ 179 → t' k = u k := fun k h1 h2 h3 h4 => by rw [e' k h1 h4, tk k h3 h4, wc k h1 h2]
  have e0 : ∀ j, t' 0 j = w 0 j := fun j => by rw [e' 0 (by omega) (by decide), tk 0 (by decide) (by decide)]
  refine ⟨t', by rw [b2_t h], rfl, fun k j _ hp => ?_, T', W', pf, 0, tl, by rw [e179]; exact J_v z1 eT, law9_c (b := rlw u) (eT 19 (by omega) (by omega)) (eT 21 (by omega) (by omega)) (eT 10 (by omega) (by omega)) z2, TB_c (b := rlw u) (eT 3 (by omega) (by omega)) (TB_le (Nat.le_succ i) z3), ⟨p1, by omega, by rw [e0, w0 8 (by decide)]; exact p3, by rw [e0]; exact w9⟩, by rw [e' 178 (by omega) (by decide)]; exact t6, fun k hk => absurd hk (Nat.not_lt_zero _), by rw [e0, w0 6 (by decide), e' 178 (by omega) (by decide), tm 3 (by decide) (by decide)]; exact q7, Or.inr ⟨T', W', ?_, law9_c (b := rlw u) (tu (19 + 48) (by omega) (by omega) (by omega) (by omega)) (tu (21 + 48) (by omega) (by omega) (by omega) (by omega)) (tu (10 + 48) (by omega) (by omega) (by omega) (by omega)) z2, TB_c (b := rlw u) (tu (3 + 48) (by omega) (by omega) (by omega) (by omega)) (TB_le (Nat.le_succ i) z3)⟩, q9, by rw [e0, w0 1 (by decide)]; exact q10, by rw [e' 178 (by omega) (by decide), tm 8 (by decide) (by decide)]; exact q11, fun j hj => by rw [tu 1 (by omega) (by decide) (by decide) (by decide), tu 183 (by omega) (by decide) (by decide) (by decide)]; exact q12 j hj, by rw [e0, w0 2 (by decide), e' 178 (by omega) (by decide), tm 12 (by decide) (by decide)]; exact q13⟩
  · by_cases z : 3 ≤ k ∧ k ≤ 23
    · rw [eT k z.1 z.2, tk k (by omega) (by omega), hw, su_cell _ _ (by omega)]
      exact cpW_b z.1 z.2 hp
    · by_cases y : k = 179
      · subst y
        rw [e179]
        rw [sh_179] at hp
        exact t179 j (of_decide_eq_true hp)
      · rw [e' k z y]
  · rw [tu 180 (by omega) (by decide) (by decide) (by decide)]
    exact J_v z1 (fun k h1 h2 => tu (k + 48) (by omega) (by omega) (by omega) (by omega))
theorem ag_image {i : Nat} {u : Sto} (hI : INV i u) (w : Sto) (hw : w = su (cpW u 50 2) 0 6 (nI 1)) : ∃ t', inR (su (sc (u0 w) 180 (mvF (w 180) (w 179) 1480)) 178 3 (nI 1)) t' ∧ INV (i + 1) t' := by
  obtain ⟨T, W, pf, pc, tl, q1, q2, q3, ⟨p1, p2, p3, p4⟩, q5, q6, q7, q8, q9, q10, q11, q12, q13⟩ := hI
  have wc : ∀ k, ¬ (51 ≤ k ∧ k ≤ 71) → k ≠ 0 → w k = u k := fun k hk h0 => by
    rw [hw, su_cell _ _ h0]
    by_cases z : k = 72
    · subst z; exact cpW_24 (b := 50)
    · exact cpW_c (by omega)
  have w0 : ∀ j, j ≠ 6 → w 0 j = u 0 j := fun j hj => by rw [hw, su_i hj, cpW_c (by omega)]
  have w6 : w 0 6 = nI 1 := by rw [hw, su_k]
  obtain ⟨t, ht⟩ : ∃ t, t = su (sc (u0 w) 180 (mvF (w 180) (w 179) 1480)) 178 3 (nI 1) := ⟨_, rfl⟩
  rw [← ht]
  have tk : ∀ k, k ≠ 178 → k ≠ 180 → t k = w k := fun k h1 h2 => by rw [ht, su_cell _ _ h1, sc_ne _ _ h2, u0_c h1]
  have tm : ∀ j, j ≠ 0 → j ≠ 3 → t 178 j = u 178 j := fun j h1 h2 => by rw [ht, su_i h2, sc_ne _ _ (by decide), u0_j h1, wc 178 (by omega) (by decide)]
  have t3 : t 178 3 = nI 1 := by rw [ht, su_k]
  have t180 : ∀ j, j < 1480 → t 180 j = u 179 j := fun j hj => by rw [ht, su_cell _ _ (by decide), sc_at, mv_lo hj, wc 179 (by omega) (by decide)]
  let t' : Sto := fun k => if 51 ≤ k ∧ k ≤ 71 then u (k - 48) else if k = 180 then u 179 else t k
  have e' : ∀ k, ¬ (51 ≤ k ∧ k ≤ 71) → k ≠ 180 → t' k = t k := fun k hk h1 => (if_neg hk).trans (if_neg h1)
  have eT : ∀ k, 51 ≤ k → k ≤ 71 → t' k = u (k - 48) := fun k h1 h2 => if_pos ⟨h1, h2⟩
  have e180 : t' 180 = u 179 := (if_neg (by omega)).trans (if_pos rfl)
  have tu : ∀ k, ¬ (51 ≤ k ∧ k ≤ 71) → k ≠ 0 → k ≠ 178 → k ≠ 180 → t' k = u k := fun k h1 h2 h3 h4 => by rw [e' k h1 h4, tk k h3 h4, wc k h1 h2]
  have er : ∀ k, 3 ≤ k → k ≤ 23 → rlw t' k = u k := fun k h1 h2 => by
    show t' (k + 48) = u k
    rw [eT (k + 48) (by omega) (by omega), show k + 48 - 48 = k by omega]
  have e0 : ∀ j, t' 0 j = w 0 j := fun j => by rw [e' 0 (by omega) (by decide), tk 0 (by decide) (by decide)]
  have cv : ∀ k, 3 ≤ k → k ≤ 23 → t' k = u k := fun k h1 h2 => tu k (by omega) (by omega) (by omega) (by omega)
  refine ⟨t', fun k j _ hp => ?_, T, W, pf, pc, tl, by rw [tu 179 (by omega) (by decide) (by decide) (by decide)]; exact J_v q1 cv, law9_c (cv 19 (by omega) (by omega)) (cv 21 (by omega) (by omega)) (cv 10 (by omega) (by omega)) q2, TB_c (cv 3 (by omega) (by omega)) (TB_le (Nat.le_succ i) q3), ⟨p1, p2, by rw [e0, w0 8 (by decide)]; exact p3, by rw [e0, w0 9 (by decide)]; exact p4⟩, by rw [e' 178 (by omega) (by decide), tm 6 (by decide) (by decide)]; exact q5, fun k hk => ?_, by rw [e0, w6, e' 178 (by omega) (by decide), t3], Or.inr ⟨T, W, by rw [e180]; exact J_v q1 er, law9_c (er 19 (by omega) (by omega)) (er 21 (by omega) (by omega)) (er 10 (by omega) (by omega)) q2, TB_c (er 3 (by omega) (by omega)) (TB_le (Nat.le_succ i) q3)⟩, q9, by rw [e0, w0 1 (by decide)]; exact q10, by rw [e' 178 (by omega) (by decide), tm 8 (by decide) (by decide)]; exact q11, fun j hj => by rw [tu 1 (by omega) (by decide) (by decide) (by decide), tu 183 (by omega) (by decide) (by decide) (by decide)]; exact q12 j hj, by rw [e0, w0 2 (by decide), e' 178 (by omega) (by decide), tm 12 (by decide) (by decide)]; exact q13⟩
  · by_cases z : 51 ≤ k ∧ k ≤ 71
    · rw [eT k z.1 z.2, tk k (by omega) (by omega), hw, su_cell _ _ (by omega)]
      exact cpW_i z.1 z.2 hp
    · by_cases y : k = 180
      · subst y
        rw [e180]
        rw [sh_180] at hp
        exact t180 j (of_decide_eq_true hp)
      · rw [e' k z y]
  · have ho : acJ (i + 1) u T W pf k := ⟨(q6 k hk).1, TB_le (Nat.le_succ i) (q6 k hk).2⟩
    exact acJ_c (fun c hc => tu c (by omega) (by omega) (by omega) (by omega)) (fun j _ => by rw [tu 182 (by omega) (by decide) (by decide) (by decide)]) (fun j hj => by rw [tu 179 (by omega) (by decide) (by decide) (by decide)]) ho
