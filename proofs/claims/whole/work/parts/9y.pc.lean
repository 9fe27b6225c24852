-- after: 9x.pb
theorem INV_k {i : Nat} {u t : Sto} {T W pf pc tl tl' : Nat} (h : INVp i u T W pf pc tl) (hJ : J t (t 179) T W) (hT : TB (i + 1) t) (hc : ∀ k, (10 ≤ k ∧ k ≤ 23) ∨ (50 ≤ k ∧ k ≤ 158) → t k = u k) (h8 : t 0 8 = u 0 8) (h9 : t 0 9 = u 0 9) (h6 : t 0 6 = u 0 6) (m3 : t 178 3 = u 178 3) (m6 : t 178 6 = u 178 6) (h182 : t 182 = u 182) (h179 : ∀ j, 1080 ≤ j → t 179 j = u 179 j) (h180 : t 180 = u 180) (htl : tl' ≤ 400) (t1 : t 0 1 = nI tl') (t8 : t 178 8 = nI tl') (tp : ∀ j, j < 400 → t 1 j = t 183 j) (tf : t 0 2 = t 178 12) : INVp (i + 1) t T W pf pc tl' := by
  obtain ⟨q1, q2, q3, ⟨p1, p2, p3, p4⟩, q5, q6, q7, q8, q9, q10, q11, q12, q13⟩ := h
  refine ⟨hJ, law9_c (hc 19 (by omega)) (hc 21 (by omega)) (hc 10 (by omega)) q2, hT, ⟨p1, p2, h8.trans p3, h9.trans p4⟩, m6.trans q5, fun k hk => ?_, by rw [h6, m3]; exact q7, ?_, htl, t1, t8, tp, tf⟩
  · have ha : acJ (i + 1) u T W pf k := ⟨(q6 k hk).1, TB_le (Nat.le_succ i) (q6 k hk).2⟩
    exact acJ_c (fun c hc' => hc c (hc'.elim Or.inl (fun z => Or.inr (by omega)))) (fun j _ => by rw [h182]) h179 ha
  · rw [h6, h180]
    rcases q8 with q8 | ⟨T', W', z1, z2, z3⟩
    · exact Or.inl q8
    · exact Or.inr ⟨T', W', J_v z1 (fun k h1 h2 => hc (k + 48) (by omega)), law9_c (b := rlw u) (hc (19 + 48) (by omega)) (hc (21 + 48) (by omega)) (hc (10 + 48) (by omega)) z2, TB_c (b := rlw u) (hc (3 + 48) (by omega)) (TB_le (Nat.le_succ i) z3)⟩
/-- what the law sees of a pair without a helper -/
def agd (i : Nat) (o o2 : Res) (t : Sto) : Prop := ∃ x t', o = .inl (some (.int x)) ∧ o2 = .inl (some (.int x)) ∧ inR t t' ∧ INV (i + 1) t'
theorem ag_D {i : Nat} {u w t : Sto} {o o2 : Res} {y : Int32} {cd : String → Nat} (hI : INV i u) (hC : PS (.inl (some (.int y))) u o w) (hM : PMr cd (.inl (some (.int y))) w o2 t) : agd i o o2 t := by
  obtain ⟨x, th, h1, h2, h3, h4⟩ := hM
  cases h4
  exact ⟨y, t, hC.1, h1, inR.refl t, INV_le (Nat.le_succ i) (INV_c ((sim_IB h2).trans ((th_IB _ _).trans (sim_IB hC.2))) hI)⟩
theorem ag_fault {i : Nat} {u : Sto} (hI : INV i u) : agd i (.inl (some (.int (u 0 2)))) (.inl (some (.int (u 178 12)))) (u0 u) := by
  obtain ⟨T, W, pf, pc, tl, h⟩ := hI
  have e := h.2.2.2.2.2.2.2.2.2.2.2.2
  exact ⟨u 0 2, _, rfl, by rw [e], inR.refl _, INV_le (Nat.le_succ i) (INV_c (th_IB _ _) ⟨T, W, pf, pc, tl, h⟩)⟩
theorem ag_seed {i : Nat} {u : Sto} {x : Int32} (hI : INV i u) : agd i (.inl (some (.int (u 3 11)))) (.inl (some (.int (su u 3 11 x 179 11)))) (su (u0 (su u 3 11 x)) 179 11 x) := by
  obtain ⟨T, W, pf, pc, tl, h⟩ := hI
  have hh := h
  obtain ⟨q1, q2, q3, ⟨p1, p2, p3, p4⟩, q5, q6, q7, q8, q9, q10, q11, q12, q13⟩ := h
  have e11 : u 179 11 = u 3 11 := q1.t.2.2.2.2.2.2.2.1
  have hcell : ∀ k, k ≠ 3 → k ≠ 178 → k ≠ 179 → su (u0 (su u 3 11 x)) 179 11 x k = u k := fun k h3 h178 h179 => by rw [su_cell _ _ h179, u0_c h178, su_cell _ _ h3]
  have h3 : su (u0 (su u 3 11 x)) 179 11 x 3 = su u 3 11 x 3 := by rw [su_cell _ _ (by decide), u0_c (by decide)]
  have hm : ∀ j, j ≠ 0 → su (u0 (su u 3 11 x)) 179 11 x 178 j = u 178 j := fun j hj => by rw [su_cell _ _ (by decide), u0_j hj, su_cell _ _ (by decide)]
  have h179 : su (u0 (su u 3 11 x)) 179 11 x 179 = upd (u 179) 11 x := by rw [su_at, u0_c (by decide), su_cell _ _ (by decide)]
  refine ⟨u 3 11, _, rfl, by rw [su_cell _ _ (by decide), e11], inR.refl _, T, W, pf, pc, tl, INV_k hh ?_ ?_ (fun k hk => hcell k (by omega) (by omega) (by omega)) (by rw [hcell 0 (by decide) (by decide) (by decide)]) (by rw [hcell 0 (by decide) (by decide) (by decide)]) (by rw [hcell 0 (by decide) (by decide) (by decide)]) (hm 3 (by decide)) (hm 6 (by decide)) (hcell 182 (by decide) (by decide) (by decide)) (fun j hj => by rw [h179, pk_un (by omega)]) (hcell 180 (by decide) (by decide) (by decide)) q9 (by rw [hcell 0 (by decide) (by decide) (by decide)]; exact q10) (by rw [hm 8 (by decide)]; exact q11) (fun j hj => by rw [hcell 1 (by decide) (by decide) (by decide), hcell 183 (by decide) (by decide) (by decide)]; exact q12 j hj) (by rw [hcell 0 (by decide) (by decide) (by decide), hm 12 (by decide)]; exact q13)⟩
  · rw [h179]
    exact J_v (J_seed q1 x) (fun k h1 h2 => by rw [su_cell _ _ (by omega), u0_c (by omega)])
  · obtain ⟨wk, nw, a, b, c, d⟩ := q3
    exact ⟨wk, nw, by rw [h3, su_i (by decide)]; exact a, by rw [h3, su_i (by decide)]; exact b, c, by omega⟩
theorem INV_t {i : Nat} {u t : Sto} {T W pf pc tl tl' : Nat} (h : INVp i u T W pf pc tl) (hc : ∀ k, ibK k → k ≠ 0 → k ≠ 1 → k ≠ 183 → t k = u k) (h0 : ∀ j, j ≠ 1 → t 0 j = u 0 j) (hm : ∀ j, j = 3 ∨ j = 6 ∨ j = 12 → t 178 j = u 178 j) (htl : tl' ≤ 400) (t1 : t 0 1 = nI tl') (t8 : t 178 8 = nI tl') (tp : ∀ j, j < 400 → t 1 j = t 183 j) : INVp (i + 1) t T W pf pc tl' := by
  have hh := h
  obtain ⟨q1, q2, q3, ⟨p1, p2, p3, p4⟩, q5, q6, q7, q8, q9, q10, q11, q12, q13⟩ := h
  refine INV_k hh ?_ (TB_c (hc 3 (by unfold ibK; omega) (by decide) (by decide) (by decide)) (TB_le (Nat.le_succ i) q3)) (fun k hk => hc k (by unfold ibK; omega) (by omega) (by omega) (by omega)) (h0 8 (by decide)) (h0 9 (by decide)) (h0 6 (by decide)) (hm 3 (by omega)) (hm 6 (by omega)) (hc 182 (by unfold ibK; omega) (by decide) (by decide) (by decide)) (fun j _ => by rw [hc 179 (by unfold ibK; omega) (by decide) (by decide) (by decide)]) (hc 180 (by unfold ibK; omega) (by decide) (by decide) (by decide)) htl t1 t8 tp (by rw [h0 2 (by decide), hm 12 (by omega)]; exact q13)
  rw [hc 179 (by unfold ibK; omega) (by decide) (by decide) (by decide)]
  exact J_v q1 (fun k h1 h2 => hc k (by unfold ibK; omega) (by omega) (by omega) (by omega))
theorem fn_c {u : Sto} {tl c : Nat} {x : Int32} (h0 : c ≠ 0) (h1 : c ≠ 1) : ∀ k, fnK u tl x k c = u c
  | 0 => rfl
  | k + 1 => by rw [fnK, su_cell _ _ h0, su_cell _ _ h1, fn_c h0 h1 k]
theorem fn_0 {u : Sto} {tl j : Nat} {x : Int32} (h : j ≠ 1) : ∀ k, fnK u tl x k 0 j = u 0 j
  | 0 => rfl
  | k + 1 => by rw [fnK, su_i h, su_cell _ _ (by decide), fn_0 h k]
theorem fn_1 {u : Sto} {tl : Nat} {x : Int32} : ∀ k j, fnK u tl x k 1 j = if tl ≤ j ∧ j < tl + k then byI x (j - tl) else u 1 j
  | 0, j => by rw [if_neg (by omega)]; rfl
  | k + 1, j => by
    rw [fnK, su_cell _ _ (by decide)]
    by_cases z : j = tl + k
    · rw [z, su_k, if_pos (by omega), show tl + k - tl = k by omega]
    · rw [su_i z, fn_1 k j]
      by_cases y : tl ≤ j ∧ j < tl + k
      · rw [if_pos y, if_pos (by omega)]
      · rw [if_neg y, if_neg (by omega)]
theorem fd_1 {u : Sto} {tl : Nat} {a b c d e : Int32} (j : Nat) : fdS u tl a b c d e 1 j = mvO (u 1) (fdB a b c d e) tl 20 j := by
  unfold fdS mvO fdB
  rw [fn_1, fn_1, fn_1, fn_1, fn_1]
  by_cases h : tl ≤ j ∧ j < tl + 20
  · rw [if_pos h]
    by_cases h1 : j < tl + 4
    · rw [if_neg (by omega), if_neg (by omega), if_neg (by omega), if_neg (by omega), if_pos (by omega), if_pos (by omega), show (j - tl) % 4 = j - tl by omega]
    · by_cases h2 : j < tl + 8
      · rw [if_neg (by omega), if_neg (by omega), if_neg (by omega), if_pos (by omega), if_neg (by omega), if_pos (by omega), show (j - tl) % 4 = j - (tl + 4) by omega]
      · by_cases h3 : j < tl + 12
        · rw [if_neg (by omega), if_neg (by omega), if_pos (by omega), if_neg (by omega), if_neg (by omega), if_pos (by omega), show (j - tl) % 4 = j - (tl + 8) by omega]
        · by_cases h4 : j < tl + 16
          · rw [if_neg (by omega), if_pos (by omega), if_neg (by omega), if_neg (by omega), if_neg (by omega), if_pos (by omega), show (j - tl) % 4 = j - (tl + 12) by omega]
          · rw [if_pos (by omega), if_neg (by omega), if_neg (by omega), if_neg (by omega), if_neg (by omega), show (j - tl) % 4 = j - (tl + 16) by omega]
  · rw [if_neg h, if_neg (by omega), if_neg (by omega), if_neg (by omega), if_neg (by omega), if_neg (by omega)]
theorem fd_01 {u : Sto} {tl : Nat} {a b c d e : Int32} : fdS u tl a b c d e 0 1 = nI (tl + 20) := by unfold fdS; rw [fnK, su_k]
theorem fd_c {u : Sto} {tl k : Nat} {a b c d e : Int32} (h0 : k ≠ 0) (h1 : k ≠ 1) : fdS u tl a b c d e k = u k := by unfold fdS; rw [fn_c h0 h1, fn_c h0 h1, fn_c h0 h1, fn_c h0 h1, fn_c h0 h1]
theorem fdS_0 {u : Sto} {tl j : Nat} {a b c d e : Int32} (h : j ≠ 1) : fdS u tl a b c d e 0 j = u 0 j := by unfold fdS; rw [fn_0 h, fn_0 h, fn_0 h, fn_0 h, fn_0 h]
theorem ag_feed {i : Nat} {u : Sto} {T W pf pc tl : Nat} {a b c d e : Int32} (h : INVp i u T W pf pc tl) (w : Sto) (hw : w = if tl + 20 ≤ 400 then fdS u tl a b c d e else u) : w 178 8 = nI tl ∧ agd i (.inl (some (.int (if tl + 20 ≤ 400 then nI (tl + 20) else -1)))) (.inl (some (.int (if tl + 20 ≤ 400 then nI (tl + 20) else -1)))) (if tl + 20 ≤ 400 then su (sc (u0 w) 183 (mvO (w 183) (fdB a b c d e) tl 20)) 178 8 (nI (tl + 20)) else u0 w) := by
  have hh := h
  obtain ⟨q1, q2, q3, p, q5, q6, q7, q8, q9, q10, q11, q12, q13⟩ := h
  by_cases z : tl + 20 ≤ 400
  · rw [if_pos z] at hw
    rw [if_pos z, if_pos z]
    have w178 : w 178 = u 178 := by rw [hw, fd_c (by decide) (by decide)]
    refine ⟨by rw [w178]; exact q11, _, _, rfl, rfl, inR.refl _, T, W, pf, pc, tl + 20, INV_t hh (fun k hk h0 h1 h183 => ?_) (fun j hj => ?_) (fun j hj => ?_) z ?_ su_k (fun j hj => ?_)⟩
    · rw [su_cell _ _ (by unfold ibK at hk; omega), sc_ne _ _ h183, u0_c (by unfold ibK at hk; omega), hw, fd_c h0 h1]
    · rw [su_cell _ _ (by decide), sc_ne _ _ (by decide), u0_c (by decide), hw, fdS_0 hj]
    · rw [su_i (by omega), sc_ne _ _ (by decide), u0_j (by omega), w178]
    · rw [su_cell _ _ (by decide), sc_ne _ _ (by decide), u0_c (by decide), hw, fd_01]
    · rw [su_cell _ _ (by decide), sc_ne _ _ (by decide), u0_c (by decide), su_cell _ _ (by decide), sc_at, hw, fd_1, fd_c (by decide) (by decide)]
      unfold mvO
      split
      · rfl
      · exact q12 j hj
  · rw [if_neg z] at hw
    rw [if_neg z, if_neg z, hw]
    exact ⟨q11, _, _, rfl, rfl, inR.refl _, INV_le (Nat.le_succ i) (INV_c (th_IB _ _) ⟨T, W, pf, pc, tl, hh⟩)⟩
theorem ag_end {i : Nat} {u : Sto} {T W pf pc tl : Nat} {x : Int32} (h : INVp i u T W pf pc tl) (w : Sto) (hw : w = if ¬ x < 0 ∧ x ≤ nI tl then su u 0 1 x else u) : w 178 8 = nI tl ∧ agd i (.inl (some (.int (b2 (¬ x < 0 ∧ x ≤ nI tl))))) (.inl (some (.int (b2 (okN x (nI 0) (nI tl)))))) (if okN x (nI 0) (nI tl) then su (u0 w) 178 8 x else u0 w) := by
  have hh := h
  obtain ⟨q1, q2, q3, p, q5, q6, q7, q8, q9, q10, q11, q12, q13⟩ := h
  by_cases z : ¬ x < 0 ∧ x ≤ nI tl
  · rw [if_pos z] at hw
    have z' : okN x (nI 0) (nI tl) := z
    rw [if_pos z', b2_t z', b2_t z]
    obtain ⟨k, hk, rfl⟩ := nI_ge0 (Int32.not_lt.mp z.1)
    have hkl := le_n (by omega) (by omega) z.2
    have w178 : w 178 = u 178 := by rw [hw, su_cell _ _ (by decide)]
    refine ⟨by rw [w178]; exact q11, _, _, rfl, rfl, inR.refl _, T, W, pf, pc, k, INV_t hh (fun c hc h0 h1 h183 => ?_) (fun j hj => ?_) (fun j hj => ?_) (by omega) ?_ su_k (fun j hj => ?_)⟩
    · rw [su_cell _ _ (by unfold ibK at hc; omega), u0_c (by unfold ibK at hc; omega), hw, su_cell _ _ h0]
    · rw [su_cell _ _ (by decide), u0_c (by decide), hw, su_i hj]
    · rw [su_i (by omega), u0_j (by omega), w178]
    · rw [su_cell _ _ (by decide), u0_c (by decide), hw, su_k]
    · rw [su_cell _ _ (by decide), u0_c (by decide), su_cell _ _ (by decide), u0_c (by decide), hw, su_cell _ _ (by decide), su_cell _ _ (by decide)]; exact q12 j hj
  · rw [if_neg z] at hw
    have z' : ¬ okN x (nI 0) (nI tl) := z
    rw [if_neg z', b2_f z', b2_f z, hw]
    exact ⟨q11, _, _, rfl, rfl, inR.refl _, INV_le (Nat.le_succ i) (INV_c (th_IB _ _) ⟨T, W, pf, pc, tl, hh⟩)⟩
/-- a question that takes the tape -/
theorem ag_T {i : Nat} {u w w' t : Sto} {o o2 : Res} {R : Res × Sto} {cd : String → Nat} {T W pf pc tl : Nat} (hI : INVp i u T W pf pc tl) (hR : R.2 = tU u) (hC : PSp R o w) (hw : IB w' w) (hM : PMr cd R.1 (su w' 178 8 (nI 0)) o2 t) : agr i cd o o2 t := by
  obtain ⟨x, th, h1, h2, h3⟩ := hM
  obtain ⟨rfl, hs⟩ := hC
  rw [hR] at hs
  have hh := hI
  obtain ⟨q1, q2, q3, p, q5, q6, q7, q8, q9, q10, q11, q12, q13⟩ := hI
  have hIB := hw.trans (sim_IB hs)
  have hc : ∀ k, ibK k → t k = tU u k := fun k hk => by
    rw [(sim_IB h2).1 k hk, su_cell _ _ (by unfold ibK at hk; omega), su_cell _ _ (by unfold ibK at hk; omega)]
    exact hIB.1 k hk
  have hi : INV (i + 1) t := ⟨T, W, pf, pc, 0, INV_t hh (fun k hk h0 h1 h183 => by rw [hc k hk, tU_c h0]) (fun j hj => by rw [hc 0 (by unfold ibK; omega)]; exact su_i hj) (fun j hj => by
    have e : t 178 j = w' 178 j := by rw [h2 178 j (by rcases hj with rfl | rfl | rfl <;> decide), su_i (by omega), su_i (by omega)]
    rw [e]
    rcases hj with rfl | rfl | rfl
    · exact hIB.2.1.trans (by rw [tU_c (by decide)])
    · exact hIB.2.2.1.trans (by rw [tU_c (by decide)])
    · exact hIB.2.2.2.2.trans (by rw [tU_c (by decide)])) (by omega) (by rw [hc 0 (by unfold ibK; omega)]; exact su_k) (by rw [h2 178 8 (by decide), su_i (by decide), su_k]) (fun j hj => by rw [hc 1 (by unfold ibK; omega), hc 183 (by unfold ibK; omega), tU_c (by decide), tU_c (by decide)]; exact q12 j hj)⟩
  have h0 : t 178 0 = nI th := (h2 178 0 (by decide)).trans su_k
  refine ⟨x, t, h1, inR.refl t, hi, ?_⟩
  revert h3
  cases R.1 with
  | inl v => exact fun h3 => ⟨by rw [h0, h3.1], h3.2⟩
  | inr Ex => exact fun h3 => h0.trans (congrArg nI h3)
theorem r2_tenR {u : Sto} {x y : Int32} : (tenR u x y).2 = u := by
  unfold tenR
  repeat' split
  all_goals rfl
theorem r2_rooR {u : Sto} {x y : Int32} : (rooR u x y).2 = u := by
  unfold rooR
  repeat' split
  all_goals rfl
theorem r2_rulR {u : Sto} {x y z : Int32} : (rulR u x y z).2 = u := by
  unfold rulR
  repeat' split
  all_goals rfl
theorem r2_rofR {u : Sto} {x y z : Int32} : (rofR u x y z).2 = u := by
  unfold rofR
  repeat' split
  all_goals rfl
theorem r2_nbrR {u : Sto} {x y z : Int32} : (nbrR u x y z).2 = u := by
  unfold nbrR
  repeat' split
  all_goals rfl
theorem r2_runR {u : Sto} {x y : Int32} : (runR u x y).2 = u := by
  unfold runR
  repeat' split
  all_goals rfl
theorem r2_wedR {u : Sto} {x y : Int32} : (wedR u x y).2 = u := by
  unfold wedR
  repeat' split
  all_goals rfl
theorem r2_cheR {u : Sto} {x y z : Int32} : (cheR u x y z).2 = u := by
  unfold cheR
  repeat' split
  all_goals rfl
theorem r2_envR {u : Sto} {x : Int32} : (envR u x).2 = u := by
  unfold envR
  repeat' split
  all_goals rfl
theorem r2_rinR {u : Sto} {x y : Int32} : (rinR u x y).2 = u := by
  unfold rinR
  repeat' split
  all_goals rfl
theorem r2_sooR {u : Sto} {x y : Int32} : (sooR u x y).2 = u := by
  unfold sooR
  repeat' split
  all_goals rfl
theorem r2_rfrR {u : Sto} {x y z : Int32} : (rfrR u x y z).2 = u := by
  unfold rfrR
  repeat' split
  all_goals rfl
theorem r2_logR {u : Sto} {x y : Int32} : (logR u x y).2 = u := by
  unfold logR
  repeat' split
  all_goals rfl
theorem r2_ledR {u : Sto} {x y : Int32} : (ledR u x y).2 = u := by
  unfold ledR
  repeat' split
  all_goals rfl
theorem r2_faiR {u : Sto} {T : Nat} {x y z : Int32} : (faiR u T x y z).2 = u := by
  unfold faiR
  repeat' split
  all_goals rfl
theorem r2_heaR {u : Sto} {T : Nat} {x y : Int32} : (heaR u T x y).2 = u := by
  unfold heaR
  repeat' split
  all_goals rfl
theorem r2_chgR {u : Sto} {T : Nat} {x y z : Int32} : (chgR u T x y z).2 = u := by
  unfold chgR
  repeat' split
  all_goals rfl
theorem r2_givR {u : Sto} {T : Nat} {x : Int32} : (givR u T x).2 = u := by
  unfold givR
  repeat' split
  all_goals rfl
theorem r2_thiR {u : Sto} {T tl : Nat} : (thiR u T tl).2 = tU u := by
  unfold thiR
  repeat' split
  all_goals rfl
theorem r2_senR {u : Sto} {T tl : Nat} : (senR u T tl).2 = tU u := by
  unfold senR
  repeat' split
  all_goals rfl
