-- after: a0.pe
theorem simD_IB {a b : Sto} (h : simD a b) : IB a b := ⟨fun k hk => funext fun j => h k j (ibK_s hk (by unfold ibK at hk; omega)) (by unfold ibK at hk; omega), h 178 3 (by decide) (by omega), h 178 6 (by decide) (by omega), h 178 8 (by decide) (by omega), h 178 12 (by decide) (by omega)⟩
/-- the law's place filled from the draft: in the places that there are -/
theorem cpL_in {u : Sto} {k j : Nat} (h1 : 19 ≤ k) (h2 : k ≤ 23) (hp : plc (shp k) j = true) : cpL u 19 43 k j = u (k + 24) j := by
  have hk : k = 19 ∨ k = 20 ∨ k = 21 ∨ k = 22 ∨ k = 23 := by omega
  rcases hk with rfl | rfl | rfl | rfl | rfl
  · have hj := pl_lw (a := [some 20, some 21, some 22, some 23, some 24]) (by rw [sh_19] at hp; exact hp)
    subst hj; exact cpL_s5 (by omega)
  · rw [sh_20] at hp; exact cpL_1 (t := 19) (o := 43) (by omega) (of_decide_eq_true hp)
  · rw [sh_21] at hp; exact cpL_2 (t := 19) (o := 43) (by omega) (of_decide_eq_true hp)
  · rw [sh_22] at hp; exact cpL_3 (t := 19) (o := 43) (by omega) (of_decide_eq_true hp)
  · rw [sh_23] at hp; exact cpL_4 (t := 19) (o := 43) (by omega) (of_decide_eq_true hp)
theorem LWp_sh {v w : Sto} (h : ∀ k, 19 ≤ k → k ≤ 23 → w k = v (k + 24)) : ∀ (t : List LN) (l n : Nat), LWp v 43 l n t → LWp w 19 l n t
  | [], _, _, _ => trivial
  | x :: t, l, n, q => by
    obtain ⟨q1, q2, q3, q4, q5, q6⟩ := q
    exact ⟨by show w 22 l = _; rw [h 22 (by omega) (by omega)]; exact q1, by show w 23 l = _; rw [h 23 (by omega) (by omega)]; exact q2, by show w 21 l = _; rw [h 21 (by omega) (by omega)]; exact q3, by show w 21 (l + 1) = _; rw [h 21 (by omega) (by omega)]; exact q4, fun i hi => by show w 20 (n + i) = _; rw [h 20 (by omega) (by omega)]; exact q5 i hi, LWp_sh h t _ _ q6⟩
/-- a text that is wrong: the tape is gone, the fault kept -/
theorem ag_X {i : Nat} {u w w' t : Sto} {T W pf pc tl : Nat} {e : Int32} {th : Int32} (hI : INVp i u T W pf pc tl) (hC : IB w (su (su u 0 1 (nI 0)) 0 2 e)) (hw : IB w' w) (hM : IB t (su (su (su w' 178 8 (nI 0)) 178 12 e) 178 0 th)) : INV (i + 1) t := by
  have hh := hI
  obtain ⟨q1, q2, q3, p, q5, q6, q7, q8, q9, q10, q11, q12, q13⟩ := hI
  have hIB := hw.trans hC
  have tk : ∀ k, ibK k → t k = su (su u 0 1 (nI 0)) 0 2 e k := fun k hk => by
    rw [hM.1 k hk, su_cell _ _ (by unfold ibK at hk; omega), su_cell _ _ (by unfold ibK at hk; omega), su_cell _ _ (by unfold ibK at hk; omega)]
    exact hIB.1 k hk
  have tc : ∀ k, ibK k → k ≠ 0 → t k = u k := fun k hk h0 => by rw [tk k hk, su_cell _ _ h0, su_cell _ _ h0]
  have t0 : ∀ j, j ≠ 1 → j ≠ 2 → t 0 j = u 0 j := fun j h1 h2 => by rw [tk 0 (by unfold ibK; omega), su_i h2, su_i h1]
  refine ⟨T, W, pf, pc, 0, INV_k hh ?_ (TB_c (tc 3 (by unfold ibK; omega) (by decide)) (TB_le (Nat.le_succ i) q3)) (fun k hk => tc k (by unfold ibK; omega) (by omega)) (t0 8 (by decide) (by decide)) (t0 9 (by decide) (by decide)) (t0 6 (by decide) (by decide)) ?_ ?_ (tc 182 (by unfold ibK; omega) (by decide)) (fun j _ => by rw [tc 179 (by unfold ibK; omega) (by decide)]) (tc 180 (by unfold ibK; omega) (by decide)) (by omega) ?_ ?_ (fun j hj => by rw [tc 1 (by unfold ibK; omega) (by decide), tc 183 (by unfold ibK; omega) (by decide)]; exact q12 j hj) ?_⟩
  · rw [tc 179 (by unfold ibK; omega) (by decide)]
    exact J_v q1 (fun k h1 h2 => tc k (by unfold ibK; omega) (by omega))
  · rw [hM.2.1, su_i (by decide), su_i (by decide), su_i (by decide), hIB.2.1, su_cell _ _ (by decide), su_cell _ _ (by decide)]
  · rw [hM.2.2.1, su_i (by decide), su_i (by decide), su_i (by decide), hIB.2.2.1, su_cell _ _ (by decide), su_cell _ _ (by decide)]
  · rw [tk 0 (by unfold ibK; omega), su_i (by decide), su_k]
  · rw [hM.2.2.2.1, su_i (by decide), su_i (by decide), su_k]
  · rw [tk 0 (by unfold ibK; omega), su_k, hM.2.2.2.2, su_i (by decide), su_k]
theorem ag_law {i : Nat} {u w w' t : Sto} {o o2 : Res} {T W pf pc tl : Nat} (hI : INVp i u T W pf pc tl) (hC : PD (lawR u tl) o w) (hw : IB w' w) (hM : lwQ w' tl (lawP (w' 183) tl) o2 t) : agr i (cdL [iae]) o o2 t := by
  have hh := hI
  obtain ⟨q1, q2, q3, ⟨p1, p2, p3, p4⟩, q5, q6, q7, q8, q9, q10, q11, q12, q13⟩ := hI
  obtain ⟨rfl, hs⟩ := hC
  have hIB := hw.trans (simD_IB hs)
  have hR183 : (lawR u tl).2 183 = u 183 := by
    unfold lawR
    split
    · dsimp only
      rw [su_cell _ _ (by decide), su_cell _ _ (by decide)]
    · dsimp only
      rw [su_cell _ _ (by decide), cpL_c (by omega), su_cell _ _ (by decide), lnA_c (by omega)]
      unfold clS
      rw [su_cell _ _ (by decide), su_cell _ _ (by decide), su_cell _ _ (by decide)]
  have w183 : w' 183 = u 183 := by rw [hIB.1 183 (by unfold ibK; omega), hR183]
  have eL : lawP (w' 183) tl = lawT (u 1) tl := by
    rw [law_eq q9, w183]
    exact law_cg (fun k hk => (q12 k (by omega)).symm)
  rw [eL] at hM
  unfold lawR at hIB ⊢
  revert hM hIB
  cases hE : lawT (u 1) tl with
  | error e =>
    intro hM hIB
    obtain ⟨x, h1, h2⟩ : ∃ x, o2 = .inl (some (.int x)) ∧ sim t (su (su (su w' 178 8 (nI 0)) 178 12 (nI e)) 178 0 (nI 1)) := hM
    exact ⟨x, t, h1, inR.refl t, ag_X hh hIB (IB.refl _) (sim_IB h2), (h2 178 0 (by decide)).trans su_k⟩
  | ok ls =>
    intro hM hIB
    obtain ⟨h1, h2⟩ : o2 = .inl (some (.int (nI ls.length))) ∧ sim t (su (su (su (su (sc w' 179 (lwG w' tl ls.length)) 178 8 (nI 0)) 178 12 (-1)) 178 6 (nI 0)) 178 0 (nI 0)) := hM
    have hIB : IB w' (su (cpL (su (lnA (clS (su u 0 1 (nI 0))) 0 0 ls) 0 2 (-1)) 19 43) 0 9 (nI 0)) := hIB
    have hP : lawP (u 1) tl = .ok ls := (law_eq q9).symm.trans hE
    obtain ⟨hw1, hw2⟩ := law_w hP
    obtain ⟨D, hD⟩ : ∃ D, D = lnA (clS (su u 0 1 (nI 0))) 0 0 ls := ⟨_, rfl⟩
    rw [← hD] at hIB
    have hDc : ∀ k, (k < 43 ∨ 47 < k) → D k = su u 0 1 (nI 0) k := fun k hk => by
      rw [hD, lnA_c hk]
      unfold clS
      rw [su_cell _ _ (by omega), su_cell _ _ (by omega)]
    have hD5 : D 43 5 = nI ls.length := by
      rw [hD, lnA_5 (l := 0) (by unfold clS; rw [su_cell _ _ (by decide), su_k]), Nat.zero_add]
    have hD45 : D 45 0 = nI 0 := by
      rw [hD, (lnA_lo ls _ 0 0).2.1 0 (Nat.le_refl _)]
      unfold clS
      rw [su_k]
    have hLW : LWp D 43 0 0 ls := by
      rw [hD]
      exact lnA_LW ls _ 0 0 (by unfold clS; rw [su_k]) (by omega)
    -- the class's cells behind the call
    have wk : ∀ k, ibK k → ¬ (19 ≤ k ∧ k ≤ 23) → k ≠ 0 → w' k = u k := fun k hk h1 h0 => by
      rw [hIB.1 k hk, su_cell _ _ h0]
      by_cases z : k = 24
      · subst z; unfold ibK at hk; omega
      · rw [cpL_c (by unfold ibK at hk; omega), su_cell _ _ h0, hDc k (by unfold ibK at hk; omega), su_cell _ _ h0]
    have w0 : ∀ j, j ≠ 1 → j ≠ 2 → j ≠ 9 → w' 0 j = u 0 j := fun j h1 h2 h9 => by
      rw [hIB.1 0 (by unfold ibK; omega), su_i h9, cpL_c (by omega), su_i h2, hDc 0 (by omega), su_i h1]
    have w09 : w' 0 9 = nI 0 := by rw [hIB.1 0 (by unfold ibK; omega), su_k]
    have w02 : w' 0 2 = -1 := by rw [hIB.1 0 (by unfold ibK; omega), su_i (by decide), cpL_c (by omega), su_k]
    have w01 : w' 0 1 = nI 0 := by rw [hIB.1 0 (by unfold ibK; omega), su_i (by decide), cpL_c (by omega), su_i (by decide), hDc 0 (by omega), su_k]
    have wm : w' 178 3 = u 178 3 := by rw [hIB.2.1, su_cell _ _ (by decide), cpL_c (by omega), su_cell _ _ (by decide), hDc 178 (by omega), su_cell _ _ (by decide)]
    have tk : ∀ k, ibK k → k ≠ 179 → t k = w' k := fun k hk h1 => by
      rw [(sim_IB h2).1 k hk, su_cell _ _ (by unfold ibK at hk; omega), su_cell _ _ (by unfold ibK at hk; omega), su_cell _ _ (by unfold ibK at hk; omega), su_cell _ _ (by unfold ibK at hk; omega), sc_ne _ _ h1]
    have t179 : t 179 = lwG w' tl ls.length := by
      rw [(sim_IB h2).1 179 (by unfold ibK; omega), su_cell _ _ (by decide), su_cell _ _ (by decide), su_cell _ _ (by decide), su_cell _ _ (by decide), sc_at]
    have w179 : w' 179 = u 179 := wk 179 (by unfold ibK; omega) (by omega) (by decide)
    have gj : ∀ j, j < 1080 → j ≠ 2 → j ≠ 3 → lwG w' tl ls.length j = u 179 j := fun j h1 h2 h3 => by
      unfold lwG
      rw [mo_lo (by omega), pk_un h3, pk_un h2, w179]
    let t' : Sto := fun k => if 19 ≤ k ∧ k ≤ 23 then D (k + 24) else t k
    have e' : ∀ k, ¬ (19 ≤ k ∧ k ≤ 23) → t' k = t k := fun k hk => if_neg hk
    have eL : ∀ k, 19 ≤ k → k ≤ 23 → t' k = D (k + 24) := fun k h1 h2 => if_pos ⟨h1, h2⟩
    have tu : ∀ k, ibK k → ¬ (19 ≤ k ∧ k ≤ 23) → k ≠ 0 → k ≠ 179 → t' k = u k := fun k hk h1 h2 h3 => by rw [e' k h1, tk k hk h3, wk k hk h1 h2]
    have e0 : ∀ j, t' 0 j = w' 0 j := fun j => by rw [e' 0 (by omega), tk 0 (by unfold ibK; omega) (by decide)]
    have hLW' : LWp t' 19 0 0 ls := LWp_sh eL ls 0 0 hLW
    have h195 : t' 19 5 = nI ls.length := by rw [eL 19 (by omega) (by omega)]; exact hD5
    have hl' : LKl t' (lwG w' tl ls.length) := Or.inr ⟨ls, tl, q9, h195, by unfold lwG; rw [mo_lo (by omega), pk_un (by decide), pk_us], by unfold lwG; rw [mo_lo (by omega), pk_us], by
      rw [← hP]
      exact law_cg (fun k hk => by
        show lwG w' tl ls.length (1080 + k) = _
        unfold lwG
        rw [mo_in hk, w183]
        exact (q12 k (by omega)).symm), hLW'⟩
    refine ⟨nI ls.length, t', h1, fun k j _ hp => ?_, ⟨T, W, pf, 0, 0, ?_, ⟨LW_I hLW' (by rw [eL 21 (by omega) (by omega)]; exact hD45) (by omega) hw2 h195, by rw [tu 10 (by unfold ibK; omega) (by omega) (by decide) (by decide)]; exact q2.2⟩, TB_c (tu 3 (by unfold ibK; omega) (by omega) (by decide) (by decide)) (TB_le (Nat.le_succ i) q3), ⟨p1, by omega, by rw [e0, w0 8 (by decide) (by decide) (by decide)]; exact p3, by rw [e0]; exact w09⟩, ?_, fun k hk => absurd hk (Nat.not_lt_zero _), ?_, ?_, by omega, by rw [e0]; exact w01, ?_, fun j hj => by rw [tu 1 (by unfold ibK; omega) (by omega) (by decide) (by decide), tu 183 (by unfold ibK; omega) (by omega) (by decide) (by decide)]; exact q12 j hj, ?_⟩, (h2 178 0 (by decide)).trans su_k, rfl⟩
    · by_cases z : 19 ≤ k ∧ k ≤ 23
      · rw [eL k z.1 z.2, tk k (by unfold ibK; omega) (by omega), hIB.1 k (by unfold ibK; omega), su_cell _ _ (by omega), cpL_in z.1 z.2 hp, su_cell _ _ (by omega)]
      · rw [e' k z]
    · rw [e' 179 (by omega), t179]
      exact J_l q1 (fun k h1 h2 => tu k (by unfold ibK; omega) (by omega) (by omega) (by omega)) gj hl'
    · rw [e' 178 (by omega), (sim_IB h2).2.2.1, su_i (by decide), su_k]
    · rw [e0, w0 6 (by decide) (by decide) (by decide), e' 178 (by omega), (sim_IB h2).2.1, su_i (by decide), su_i (by decide), su_i (by decide), su_i (by decide), sc_ne _ _ (by decide), wm]; exact q7
    · rw [e0, w0 6 (by decide) (by decide) (by decide), tu 180 (by unfold ibK; omega) (by omega) (by decide) (by decide)]
      rcases q8 with q8 | ⟨T', W', z1, z2, z3⟩
      · exact Or.inl q8
      · exact Or.inr ⟨T', W', J_v z1 (fun k h1 h2 => tu (k + 48) (by unfold ibK; omega) (by omega) (by omega) (by omega)), law9_c (b := rlw u) (tu (19 + 48) (by unfold ibK; omega) (by omega) (by omega) (by omega)) (tu (21 + 48) (by unfold ibK; omega) (by omega) (by omega) (by omega)) (tu (10 + 48) (by unfold ibK; omega) (by omega) (by omega) (by omega)) z2, TB_c (b := rlw u) (tu (3 + 48) (by unfold ibK; omega) (by omega) (by omega) (by omega)) (TB_le (Nat.le_succ i) z3)⟩
    · rw [e' 178 (by omega), (sim_IB h2).2.2.2.1, su_i (by decide), su_i (by decide), su_i (by decide), su_k]
    · rw [e0, w02, e' 178 (by omega), (sim_IB h2).2.2.2.2, su_i (by decide), su_i (by decide), su_k]
