-- after: a7.pl
theorem lt_12 {n : Nat} (h : n ≤ 12) : nI n < nI 12 ↔ ¬ nI n = nI 12 := by
  constructor
  · intro q e
    have := lt_n (by omega) (by omega) q
    have := eq_n (by omega) (by omega) e
    omega
  · intro q
    exact (nI_ltI (by omega) (by omega)).mpr (by
      by_cases z : n = 12
      · exact absurd (congrArg nI z) q
      · omega)
theorem ag_town {i : Nat} {u w w' t : Sto} {o o2 : Res} {T W pf pc tl : Nat} (hI : INVp i u T W pf pc tl) (hTp : u 183 = u 1) (hC : PD (townR u tl T W) o w) (hw : IB w' w) (hM : twQ w' (twnM (w' 183) tl T W (twU w')) o2 t) : agr i (cdL [iae, uoe]) o o2 t := by
  have hh := hI
  obtain ⟨q1, q2, q3, ⟨p1, p2, p3, p4⟩, q5, q6, q7, q8, q9, q10, q11, q12, q13⟩ := hI
  obtain ⟨n9, hn9, en9⟩ := q2.2
  obtain ⟨rfl, hs⟩ := hC
  have hIB := hw.trans (simD_IB hs)
  have hJ0 : J (dlw (dft u)) (u 179) T W := J_dft q1
  -- the model's row and tape are still as they were
  have hR : (townR u tl T W).2 179 = u 179 ∧ (townR u tl T W).2 183 = u 183 := by
    unfold townR
    rcases JD_twn (f := u 1) (L := tl) (v := dft u) (u := u) hJ0 with ⟨e, z1, _⟩ | ⟨v', _, _, _, z1, _, _, z4, _⟩
    · rw [z1]
      dsimp only
      exact ⟨by rw [su_cell _ _ (by decide), su_cell _ _ (by decide)], by rw [su_cell _ _ (by decide), su_cell _ _ (by decide)]⟩
    · rw [z1]
      dsimp only
      split
      · dsimp only
        exact ⟨by rw [fin_c (by omega) (by decide) (by decide), z4 179 (by omega), dft_o (by omega) (by decide)], by rw [fin_c (by omega) (by decide) (by decide), z4 183 (by omega), dft_o (by omega) (by decide)]⟩
      · dsimp only
        exact ⟨by rw [su_cell _ _ (by decide), su_cell _ _ (by decide)], by rw [su_cell _ _ (by decide), su_cell _ _ (by decide)]⟩
  have w179 : w' 179 = u 179 := by rw [hIB.1 179 (by unfold ibK; omega), hR.1]
  have w183 : w' 183 = u 1 := by rw [hIB.1 183 (by unfold ibK; omega), hR.2, hTp]
  have tw179 : twU w' 179 = u 179 := by
    unfold twU
    rw [su_cell _ _ (by decide), su_cell _ _ (by decide), sc_ne _ _ (by decide), w179]
  rw [w183] at hM
  unfold townR at hIB ⊢
  rcases JD_twn (f := u 1) (L := tl) (v := dft u) (u := twU w') (by rw [tw179]; exact hJ0) with ⟨e, z1, z2⟩ | ⟨v', u', T', W', z1, z2, hJ, z4, z5, z6⟩
  · rw [z1] at hIB ⊢
    rw [z2] at hM
    obtain ⟨x, h1, h2⟩ : ∃ x, o2 = .inl (some (.int x)) ∧ N181 t (su (su (su w' 178 8 (nI 0)) 178 12 (nI e)) 178 0 (nI 1)) := hM
    exact ⟨x, t, h1, inR.refl t, ag_X hh hIB (IB.refl _) (N_IB h2), (h2 178 0 (by decide) (by decide)).trans su_k⟩
  · rw [z1] at hIB ⊢
    rw [z2] at hM
    have e34 : v' 34 11 = u 10 11 := by rw [z6]; exact dft_i (k := 10) (by omega) (by omega) (by rw [sh_10]; rfl)
    have e0 : u' 179 0 = u 10 11 := by
      rw [hJ.r.tx, dl_i (by omega) (by omega)]; exact e34
    obtain ⟨x, h1, hM⟩ : ∃ x, o2 = .inl (some (.int x)) ∧ (if u' 179 0 = nI 12 then N181 t (su (su (su w' 178 8 (nI 0)) 178 12 (-1)) 178 0 (nI 2)) else x = u' 179 0 + nI 1 ∧ N181 t (su (su (su (su (sc w' 179 (upd (u' 179) 0 (u' 179 0 + nI 1))) 178 8 (nI 0)) 178 12 (-1)) 178 6 (nI 0)) 178 0 (nI 0))) := hM
    dsimp only at hIB ⊢
    by_cases c : u 10 11 < nI 12
    · rw [if_pos c] at hIB ⊢
      have c' : ¬ u' 179 0 = nI 12 := by rw [e0, en9]; rw [en9] at c; exact (lt_12 hn9).mp c
      rw [if_neg c'] at hM
      obtain ⟨hx, h2⟩ := hM
      dsimp only at hIB ⊢
      have hn12 : n9 < 12 := by rw [en9] at c; exact lt_n (by omega) (by omega) c
      have vd : ∀ k, k ≠ 0 → (k < 26 ∨ 42 < k) → v' k = u k := fun k h0 hk => by rw [z4 k hk, dft_o (by omega) h0]
      have v0 : ∀ j, v' 0 j = su u 0 1 (nI 0) 0 j := fun j => by
        rw [z4 0 (by omega)]
        unfold dft
        by_cases z : j = 1
        · rw [z, su_k, su_k]
        · rw [su_i z, su_i z, cpR_c (by omega), cpT_c (by omega)]
      -- cells of t
      have tk : ∀ k, ibK k → k ≠ 179 → t k = fin v' k := fun k hk h1 => by
        rw [(N_IB h2).1 k hk, su_cell _ _ (by unfold ibK at hk; omega), su_cell _ _ (by unfold ibK at hk; omega), su_cell _ _ (by unfold ibK at hk; omega), su_cell _ _ (by unfold ibK at hk; omega), sc_ne _ _ h1]
        exact hIB.1 k hk
      have t179 : t 179 = upd (u' 179) 0 (u' 179 0 + nI 1) := by
        rw [(N_IB h2).1 179 (by unfold ibK; omega), su_cell _ _ (by decide), su_cell _ _ (by decide), su_cell _ _ (by decide), su_cell _ _ (by decide), sc_at]
      have tu : ∀ k, ibK k → ¬ (3 ≤ k ∧ k ≤ 18) → k ≠ 0 → k ≠ 179 → t k = u k := fun k hk h1 h2 h3 => by
        rw [tk k hk h3, fin_c h1 h2 (by unfold ibK at hk; omega), vd k h2 (by unfold ibK at hk; omega)]
      have t0 : ∀ j, t 0 j = fin v' 0 j := fun j => by rw [tk 0 (by unfold ibK; omega) (by decide)]
      have wm : w' 178 3 = u 178 3 := by
        rw [hIB.2.1, fin_c (by omega) (by decide) (by decide), vd 178 (by decide) (by omega)]
      have f3 : ∀ j, 6 ≤ j → j < 12 → t 3 j = u 3 j := fun j h6 h12 => by
        have hp : plc (shp 3) j = true := by
          have : j = 6 ∨ j = 7 ∨ j = 8 ∨ j = 9 ∨ j = 10 ∨ j = 11 := by omega
          rw [sh_3]
          rcases this with rfl | rfl | rfl | rfl | rfl | rfl <;> rfl
        rw [tk 3 (by unfold ibK; omega) (by decide), fin_i (by omega) (by omega) hp, su_cell _ _ (by decide), dl_i (by omega) (by omega), z5]
        exact dft_i (k := 3) (by omega) (by omega) hp
      have f10 : t 10 11 = nI (n9 + 1) := by
        rw [tk 10 (by unfold ibK; omega) (by decide), fin_i (by omega) (by omega) (by rw [sh_10]; rfl), su_k, e34, en9, nI_add]
      refine ⟨x, t, h1, inR.refl t, ⟨T', W', pf, 0, 0, ?_, ⟨lawI_c (tu 19 (by unfold ibK; omega) (by omega) (by decide) (by decide)) (tu 21 (by unfold ibK; omega) (by omega) (by decide) (by decide)) q2.1, n9 + 1, by omega, f10⟩, ?_, ⟨p1, by omega, ?_, ?_⟩, ?_, fun k hk => absurd hk (Nat.not_lt_zero _), ?_, ?_, by omega, ?_, ?_, fun j hj => by rw [tu 1 (by unfold ibK; omega) (by omega) (by decide) (by decide), tu 183 (by unfold ibK; omega) (by omega) (by decide) (by decide)]; exact q12 j hj, ?_⟩, (h2 178 0 (by decide) (by decide)).trans su_k, by rw [hx, e0, e34]⟩
      · rw [t179, show u' 179 0 + nI 1 = v' 34 11 + nI 1 by rw [e0, e34]]
        exact J_in (J_tx hJ (v' 34 11 + nI 1)) (fun k j h1 h2 hp => by rw [tk k (by unfold ibK; omega) (by omega)]; exact fin_i h1 h2 hp)
      · obtain ⟨wk, nw, a1, a2, a3, a4⟩ := q3
        exact ⟨wk, nw, by rw [f3 9 (by omega) (by omega)]; exact a1, by rw [f3 10 (by omega) (by omega)]; exact a2, a3, by omega⟩
      · rw [t0, fin_0, if_neg (by decide), if_neg (by decide), v0, su_i (by decide)]; exact p3
      · rw [t0, fin_0, if_pos rfl]
      · rw [(N_IB h2).2.2.1, su_i (by decide), su_k]
      · rw [t0, fin_0, if_neg (by decide), if_neg (by decide), v0, su_i (by decide), (N_IB h2).2.1, su_i (by decide), su_i (by decide), su_i (by decide), su_i (by decide), sc_ne _ _ (by decide), wm]; exact q7
      · rw [t0, fin_0, if_neg (by decide), if_neg (by decide), v0, su_i (by decide), tu 180 (by unfold ibK; omega) (by omega) (by decide) (by decide)]
        rcases q8 with q8 | ⟨T2, W2, y1, y2, y3⟩
        · exact Or.inl q8
        · exact Or.inr ⟨T2, W2, J_v y1 (fun k h1 h2 => tu (k + 48) (by unfold ibK; omega) (by omega) (by omega) (by omega)), law9_c (b := rlw u) (tu (19 + 48) (by unfold ibK; omega) (by omega) (by omega) (by omega)) (tu (21 + 48) (by unfold ibK; omega) (by omega) (by omega) (by omega)) (tu (10 + 48) (by unfold ibK; omega) (by omega) (by omega) (by omega)) y2, TB_c (b := rlw u) (tu (3 + 48) (by unfold ibK; omega) (by omega) (by omega) (by omega)) (TB_le (Nat.le_succ i) y3)⟩
      · rw [t0, fin_0, if_neg (by decide), if_neg (by decide), v0, su_k]
      · rw [(N_IB h2).2.2.2.1, su_i (by decide), su_i (by decide), su_i (by decide), su_k]
      · rw [t0, fin_0, if_neg (by decide), if_pos rfl, (N_IB h2).2.2.2.2, su_i (by decide), su_i (by decide), su_k]
    · rw [if_neg c] at hIB ⊢
      have c' : u' 179 0 = nI 12 := by
        rw [e0, en9]
        rw [en9] at c
        exact Decidable.byContradiction (fun q => c ((lt_12 hn9).mpr q))
      rw [if_pos c'] at hM
      dsimp only at hIB ⊢
      exact ⟨x, t, h1, inR.refl t, ag_X hh hIB (IB.refl _) (N_IB hM), (hM 178 0 (by decide) (by decide)).trans su_k⟩
