-- after: 9v.oz
/-- what an act leaves alone -/
def frm (i : Nat) (R : Res × Sto) (u : Sto) (pf pc : Nat) : Prop := match R.1 with
  | .inl _ => (∀ k, ¬ (3 ≤ k ∧ k ≤ 9) → R.2 k = rmS u pf pc k) ∧ TB (i + 1) R.2
  | .inr _ => R.2 = u
theorem rmA_new {w : Sto} {pc j : Nat} (hj : j < 1080) : rmA w pc (1080 * (if pc = 12 then 11 else pc) + j) = w 179 j := by
  unfold rmA
  by_cases c : pc = 12
  · rw [if_pos c, if_pos c, show 1080 * 11 + j = 11880 + j by omega, mo_in hj]
  · rw [if_neg c, if_neg c, mo_in hj]
theorem rmA_old {w : Sto} {pc k j : Nat} (hp : pc ≤ 12) (hk : k < (if pc = 12 then 11 else pc)) (hj : j < 1080) : rmA w pc (1080 * k + j) = w 182 (1080 * (if pc = 12 then k + 1 else k) + j) := by
  unfold rmA
  by_cases c : pc = 12
  · rw [if_pos c] at hk ⊢
    rw [if_pos c, mo_lo (by omega), shA, mv_lo (by omega)]
    exact congrArg (w 182) (by omega)
  · rw [if_neg c] at hk ⊢
    rw [if_neg c, mo_lo (by omega)]
theorem tnJ_hi {j : Nat} (h : 1080 ≤ j) : tnJ j = false := by
  unfold tnJ
  exact decide_eq_false (by omega)
theorem ag_A {i : Nat} {u w w' t : Sto} {o o2 : Res} {R : Res × Sto} {cd : String → Nat} {T W pf pc tl : Nat} (hI : INVp i u T W pf pc tl) (hC : PSp R o w) (hw : IB w' w) (hM : PMa cd R w' pc T W o2 t) (hF : frm i R u pf pc) : agr i cd o o2 t := by
  obtain ⟨x, h1, h3⟩ := hM
  obtain ⟨rfl, hs⟩ := hC
  have hIB := hw.trans (sim_IB hs)
  unfold frm at hF
  have hgoal : ∀ r, r = R.1 → agr i cd r o2 t := fun r er => by
    rw [← er] at h3 hF
    match r with
    | .inr Ex =>
      have hF : R.2 = u := hF
      have h3 : sim t (su w' 178 0 (nI (cd Ex))) := h3
      rw [hF] at hIB
      exact ⟨x, t, h1, inR.refl t, INV_le (Nat.le_succ i) (INV_c ((sim_IB h3).trans ((th_IB _ _).trans hIB)) ⟨T, W, pf, pc, tl, hI⟩), (h3 178 0 (by decide)).trans su_k⟩
    | .inl v =>
      obtain ⟨hv, g, hg, hgt, hst⟩ : v = some (.int x) ∧ ∃ g, J R.2 g T W ∧ (∀ j, tnJ j = false → g j = w' 179 j) ∧ sim t (sc (rmM (su w' 178 0 (nI 0)) pc) 179 g) := h3
      obtain ⟨hF1, hF2⟩ : (∀ k, ¬ (3 ≤ k ∧ k ≤ 9) → R.2 k = rmS u pf pc k) ∧ TB (i + 1) R.2 := hF
      obtain ⟨q1, q2, q3, ⟨p1, p2, p3, p4⟩, q5, q6, q7, q8, q9, q10, q11, q12, q13⟩ := hI
      have hnw : nwA pf pc < 12 := by unfold nwA; split <;> omega
      -- t in the class's cells
      have tk : ∀ k, ibK k → k ≠ 179 → k ≠ 182 → t k = R.2 k := fun k hk h179 h182 => by
        rw [(sim_IB hst).1 k hk, sc_ne _ _ h179]
        unfold rmM
        rw [su_cell _ _ (by unfold ibK at hk; omega), sc_ne _ _ h182, su_cell _ _ (by unfold ibK at hk; omega)]
        exact hIB.1 k hk
      have t179 : t 179 = g := by rw [(sim_IB hst).1 179 (by unfold ibK; omega), sc_at]
      have t182 : t 182 = rmA (su w' 178 0 (nI 0)) pc := by
        rw [(sim_IB hst).1 182 (by unfold ibK; omega), sc_ne _ _ (by decide)]
        unfold rmM
        rw [su_cell _ _ (by decide), sc_at]
      have t6 : t 178 6 = nI (if pc = 12 then 12 else pc + 1) := by
        rw [(sim_IB hst).2.2.1, sc_ne _ _ (by decide)]
        unfold rmM
        rw [su_k]
      have tq : ∀ j, j ≠ 0 → j ≠ 6 → scrB 178 j = false → t 178 j = w' 178 j := fun j h0 h6 hsc => by
        rw [hst 178 j hsc, sc_ne _ _ (by decide)]
        unfold rmM
        rw [su_i h6, sc_ne _ _ (by decide), su_i h0]
      have w179 : w' 179 = u 179 := by rw [hIB.1 179 (by unfold ibK; omega), hF1 179 (by omega), rmS_c (by omega) (by omega)]
      have w182 : w' 182 = u 182 := by rw [hIB.1 182 (by unfold ibK; omega), hF1 182 (by omega), rmS_c (by omega) (by omega)]
      have tu : ∀ k, ibK k → k ≠ 0 → ¬ (3 ≤ k ∧ k ≤ 9) → k ≠ 179 → k ≠ 182 → (k < 75 ∨ 158 < k) → t k = u k := fun k hk h0 h9 h179 h182 h75 => by
        rw [tk k hk h179 h182, hF1 k h9, rmS_c h0 h75]
      have t0 : t 0 = rmS u pf pc 0 := by rw [tk 0 (by unfold ibK; omega) (by omega) (by omega), hF1 0 (by omega)]
      -- the store with the acts' rows in full
      let t' : Sto := fun k => if 75 ≤ k ∧ k ≤ 158 then rmX u pf pc k else t k
      have e' : ∀ k, ¬ (75 ≤ k ∧ k ≤ 158) → t' k = t k := fun k hk => if_neg hk
      have eA : ∀ k, 75 ≤ k ∧ k ≤ 158 → t' k = rmX u pf pc k := fun k hk => if_pos hk
      have hin : inR t t' := fun k j _ hp => by
        by_cases c : 75 ≤ k ∧ k ≤ 158
        · rw [eA k c, tk k (by unfold ibK; omega) (by omega) (by omega), hF1 k (by omega)]
          exact rmX_in p1 c.1 hp
        · rw [e' k c]
      have hJt : J t' (t' 179) T W := by
        rw [e' 179 (by omega), t179]
        exact J_v hg (fun k h1 h2 => by rw [e' k (by omega)]; exact tk k (by unfold ibK; omega) (by omega) (by omega))
      have tc : ∀ k, 10 ≤ k → k ≤ 23 → t' k = u k := fun k h1 h2 => by rw [e' k (by omega)]; exact tu k (by unfold ibK; omega) (by omega) (by omega) (by omega) (by omega) (by omega)
      have tr : ∀ k, 50 ≤ k → k < 75 → t' k = u k := fun k h1 h2 => by rw [e' k (by omega)]; exact tu k (by unfold ibK; omega) (by omega) (by omega) (by omega) (by omega) (by omega)
      have g179 : ∀ j, 1080 ≤ j → t' 179 j = u 179 j := fun j hj => by rw [e' 179 (by omega), t179, hgt j (tnJ_hi hj), w179]
      have e182 : t' 182 = rmA (su w' 178 0 (nI 0)) pc := by rw [e' 182 (by omega), t182]
      refine ⟨x, t', h1, hin, ⟨T, W, (if pc = 12 then (pf + 1) % 12 else pf), (if pc = 12 then 12 else pc + 1), tl, hJt, law9_c (tc 19 (by omega) (by omega)) (tc 21 (by omega) (by omega)) (tc 10 (by omega) (by omega)) q2, TB_c (by rw [e' 3 (by omega)]; exact tk 3 (by unfold ibK; omega) (by omega) (by omega)) hF2, ⟨by split <;> omega, by split <;> omega, by rw [e' 0 (by omega), t0]; exact rmS_8 p3, by rw [e' 0 (by omega), t0]; exact rmS_9⟩, by rw [e' 178 (by omega)]; exact t6, fun k hk => ?_, ?_, ?_, q9, ?_, ?_, fun j hj => ?_, ?_⟩, ?_⟩
      · by_cases c : k = (if pc = 12 then 11 else pc)
        · -- the new one
          have hp : ((if pc = 12 then (pf + 1) % 12 else pf) + k) % 12 = nwA pf pc := by
            rw [c]; unfold nwA
            by_cases z : pc = 12
            · rw [if_pos z, if_pos z, if_pos z]; omega
            · rw [if_neg z, if_neg z, if_neg z]
          have ev : ∀ d, 3 ≤ d → d ≤ 23 → cxT t' 3 (75 + 7 * nwA pf pc) d = u d := fun d h1 h2 => by
            by_cases z : d ≤ 9
            · obtain ⟨d', hd', rfl⟩ : ∃ d', d' < 7 ∧ d = 3 + d' := ⟨d - 3, by omega, by omega⟩
              rw [cx_i hd', eA _ (by omega)]
              exact cx_i hd'
            · rw [cx_o (by omega)]; exact tc d (by omega) h2
          have er : mvF (t' 179) (fun j => t' 182 (1080 * k + j)) 1080 = u 179 := by
            funext j
            by_cases z : j < 1080
            · rw [mv_lo z, e182, c, rmA_new z, su_cell _ _ (by decide), w179]
            · rw [mv_hi (by omega)]; exact g179 j (by omega)
          unfold acJ
          rw [hp, er]
          exact ⟨J_v q1 ev, TB_c (ev 3 (by omega) (by omega)) (TB_le (Nat.le_succ i) q3)⟩
        · have hko : k < (if pc = 12 then 11 else pc) := by
            revert hk c
            split <;> intros <;> omega
          have hk2 : (if pc = 12 then k + 1 else k) < pc := by
            revert hko
            split <;> intros <;> omega
          have ho := q6 _ hk2
          have hp : ((if pc = 12 then (pf + 1) % 12 else pf) + k) % 12 = (pf + (if pc = 12 then k + 1 else k)) % 12 := by
            by_cases z : pc = 12
            · rw [if_pos z, if_pos z]; omega
            · rw [if_neg z, if_neg z]
          have hne : (pf + (if pc = 12 then k + 1 else k)) % 12 ≠ nwA pf pc := by
            unfold nwA
            revert hk2
            by_cases z : pc = 12
            · rw [if_pos z, if_pos z]; intro _; omega
            · rw [if_neg z, if_neg z]; intro _; omega
          have hm : (pf + (if pc = 12 then k + 1 else k)) % 12 < 12 := Nat.mod_lt _ (by decide)
          have ev : ∀ d, 3 ≤ d → d ≤ 23 → cxT t' 3 (75 + 7 * ((pf + (if pc = 12 then k + 1 else k)) % 12)) d = cxT u 3 (75 + 7 * ((pf + (if pc = 12 then k + 1 else k)) % 12)) d := fun d h1 h2 => by
            by_cases z : d ≤ 9
            · obtain ⟨d', hd', rfl⟩ : ∃ d', d' < 7 ∧ d = 3 + d' := ⟨d - 3, by omega, by omega⟩
              rw [cx_i hd', cx_i hd', eA _ (by omega)]
              exact cx_o (by omega)
            · rw [cx_o (by omega), cx_o (by omega)]; exact tc d (by omega) h2
          have er : mvF (t' 179) (fun j => t' 182 (1080 * k + j)) 1080 = mvF (u 179) (fun j => u 182 (1080 * (if pc = 12 then k + 1 else k) + j)) 1080 := by
            funext j
            by_cases z : j < 1080
            · rw [mv_lo z, mv_lo z, e182, rmA_old p2 hko z, su_cell _ _ (by decide), w182]
            · rw [mv_hi (by omega), mv_hi (by omega)]; exact g179 j (by omega)
          unfold acJ at ho ⊢
          rw [hp, er]
          exact ⟨J_v ho.1 ev, TB_c (ev 3 (by omega) (by omega)) (TB_le (Nat.le_succ i) ho.2)⟩
      · rw [e' 0 (by omega), e' 178 (by omega), t0, rmS_j (by decide) (by decide), tq 3 (by decide) (by decide) (by decide), hIB.2.1, hF1 178 (by omega), rmS_c (by omega) (by omega)]; exact q7
      · rw [e' 0 (by omega), t0, rmS_j (by decide) (by decide), e' 180 (by omega), tu 180 (by unfold ibK; omega) (by omega) (by omega) (by omega) (by omega) (by omega)]
        rcases q8 with q8 | ⟨T', W', z1, z2, z3⟩
        · exact Or.inl q8
        · exact Or.inr ⟨T', W', J_v z1 (fun k h1 h2 => tr (k + 48) (by omega) (by omega)), law9_c (b := rlw u) (tr (19 + 48) (by omega) (by omega)) (tr (21 + 48) (by omega) (by omega)) (tr (10 + 48) (by omega) (by omega)) z2, TB_c (b := rlw u) (tr (3 + 48) (by omega) (by omega)) (TB_le (Nat.le_succ i) z3)⟩
      · rw [e' 0 (by omega), t0, rmS_j (by decide) (by decide)]; exact q10
      · rw [e' 178 (by omega), tq 8 (by decide) (by decide) (by decide), hIB.2.2.2.1, hF1 178 (by omega), rmS_c (by omega) (by omega)]; exact q11
      · rw [e' 1 (by omega), e' 183 (by omega), tu 1 (by unfold ibK; omega) (by omega) (by omega) (by omega) (by omega) (by omega), tu 183 (by unfold ibK; omega) (by omega) (by omega) (by omega) (by omega) (by omega)]; exact q12 j hj
      · rw [e' 0 (by omega), e' 178 (by omega), t0, rmS_j (by decide) (by decide), tq 12 (by decide) (by decide) (by decide), hIB.2.2.2.2, hF1 178 (by omega), rmS_c (by omega) (by omega)]; exact q13
      · refine ⟨?_, hv⟩
        rw [hst 178 0 (by decide), sc_ne _ _ (by decide)]
        unfold rmM
        rw [su_i (by decide), sc_ne _ _ (by decide), su_k]
  exact hgoal _ rfl
