-- after: 9w.pa
/-- alike outside of the town, and the same hour -/
def F9 (a b : Sto) : Prop := (∀ k, ¬ (3 ≤ k ∧ k ≤ 9) → a k = b k) ∧ a 3 9 = b 3 9 ∧ a 3 10 = b 3 10
theorem F9.refl (a : Sto) : F9 a a := ⟨fun _ _ => rfl, rfl, rfl⟩
theorem F9.trans {a b c : Sto} (h : F9 a b) (g : F9 b c) : F9 a c := ⟨fun k hk => (h.1 k hk).trans (g.1 k hk), h.2.1.trans g.2.1, h.2.2.trans g.2.2⟩
theorem F9_su {a : Sto} {k j : Nat} {x : Int32} (hk : 3 ≤ k ∧ k ≤ 9) (hj : k = 3 → j ≠ 9 ∧ j ≠ 10) : F9 (su a k j x) a := ⟨fun c hc => su_cell _ _ (by omega), by
  by_cases z : k = 3
  · subst z; exact su_i (fun q => (hj rfl).1 q.symm)
  · rw [su_cell _ _ (fun q => z q.symm)], by
  by_cases z : k = 3
  · subst z; exact su_i (fun q => (hj rfl).2 q.symm)
  · rw [su_cell _ _ (fun q => z q.symm)]⟩
theorem F9_4 {a : Sto} {k j : Nat} {x : Int32} (hk : 4 ≤ k ∧ k ≤ 9) : F9 (su a k j x) a := F9_su (by omega) (fun q => by omega)
theorem F9_3 {a : Sto} {j : Nat} {x : Int32} (hj : j ≠ 9 ∧ j ≠ 10) : F9 (su a 3 j x) a := F9_su (by omega) (fun _ => hj)
theorem F9_en {a : Sto} {r b h : Int32} : F9 (enT a 3 r b h) a := (F9_3 (by omega)).trans ((F9_3 (by omega)).trans (F9_4 (by omega)))
theorem F9_fr {a : Sto} {r : Nat} : F9 (frT a 3 r) a := by
  unfold frT
  refine (F9_4 (by omega)).trans ((F9_4 (by omega)).trans ?_)
  split
  · exact F9.refl _
  · exact F9_4 (by omega)
theorem F9_so {a : Sto} {r b : Nat} : F9 (soT a 3 r b) a := (F9_4 (by omega)).trans ((F9_4 (by omega)).trans F9_fr)
theorem F9_ct {a : Sto} {r b : Nat} {h : Int32} : F9 (ctT a 3 r b h) a := F9_en.trans F9_so
theorem F9_py {a : Sto} {b : Nat} {x : Int32} : F9 (pyS a b x) a := (F9_3 (by omega)).trans (F9_4 (by omega))
theorem F9_gv {a : Sto} {b r : Nat} {x : Int32} : F9 (gvS a b r x) a := F9_ct.trans F9_py
theorem F9_sb {a : Sto} {r b o : Nat} {x : Int32} : F9 (sbS a r b o x) a := F9_en.trans ((F9_4 (by omega)).trans ((F9_3 (by omega)).trans ((F9_4 (by omega)).trans (F9_4 (by omega)))))
theorem F9_po {a : Sto} {r o : Nat} : F9 (poS a r o) a := by
  unfold poS
  split
  · exact F9_ct.trans F9_fr
  · exact F9_fr
theorem F9_ca {a : Sto} {r q : Nat} {c : Int32} : F9 (caS a r q c) a := (F9_4 (by omega)).trans (F9_4 (by omega))
theorem F9_tr {w : Sto} {A B : Nat → Nat} : ∀ i, F9 (trW w A B i) w
  | 0 => F9.refl _
  | i + 1 => F9_ct.trans (F9_tr i)
theorem frm_i {i : Nat} {R : Res × Sto} {u : Sto} {pf pc : Nat} {v : Option Value} (h : R.1 = .inl v) (hF : F9 R.2 (rmS u pf pc)) (hT : TB i u) : frm i R u pf pc := by
  unfold frm
  rw [h]
  refine ⟨hF.1, ?_⟩
  have h3 : rmS u pf pc 3 = u 3 := rmS_c (by omega) (by omega)
  obtain ⟨wk, nw, h1, h2, q1, q2⟩ := hT
  exact ⟨wk, nw, by rw [hF.2.1, h3, h1], by rw [hF.2.2, h3, h2], q1, by omega⟩
theorem frm_x {i : Nat} {R : Res × Sto} {u : Sto} {pf pc : Nat} {Ex : String} (h : R.1 = .inr Ex) (h2 : R.2 = u) : frm i R u pf pc := by
  unfold frm
  rw [h]; exact h2
theorem frm_take {i : Nat} {u : Sto} {pf pc : Nat} (hT : TB i u) {x y : Int32} : frm i (tkeR u pf pc x y) u pf pc := by
  unfold tkeR
  split
  · split
    · split
      · exact frm_i rfl F9_gv hT
      · exact frm_x rfl rfl
    · exact frm_x rfl rfl
  · exact frm_x rfl rfl
theorem frm_leave {i : Nat} {u : Sto} {pf pc : Nat} (hT : TB i u) {y : Int32} : frm i (leaR u pf pc y) u pf pc := by
  unfold leaR
  split
  · split
    · exact frm_i rfl F9_fr hT
    · exact frm_x rfl rfl
  · exact frm_x rfl rfl
theorem frm_sublet {i : Nat} {u : Sto} {pf pc : Nat} (hT : TB i u) {y x z : Int32} : frm i (sblR u pf pc y x z) u pf pc := by
  unfold sblR
  split
  · split
    · split
      · split
        · exact frm_i rfl F9_sb hT
        · exact frm_x rfl rfl
      · exact frm_x rfl rfl
    · exact frm_x rfl rfl
  · exact frm_x rfl rfl
theorem frm_ends {i : Nat} {u : Sto} {pf pc : Nat} (hT : TB i u) {y : Int32} : frm i (ensR u pf pc y) u pf pc := by
  unfold ensR
  split
  · split
    · exact frm_i rfl (F9_4 (by omega)) hT
    · exact frm_x rfl rfl
  · exact frm_x rfl rfl
theorem frm_evict {i : Nat} {u : Sto} {pf pc : Nat} (hT : TB i u) {y : Int32} : frm i (eviR u pf pc y) u pf pc := by
  unfold eviR
  split
  · split
    · split
      · exact frm_i rfl F9_po hT
      · exact frm_i rfl (F9_4 (by omega)) hT
    · exact frm_x rfl rfl
  · exact frm_x rfl rfl
theorem frm_carry {i : Nat} {u : Sto} {pf pc : Nat} (hT : TB i u) {x y z n : Int32} : frm i (carR u pf pc x y z n) u pf pc := by
  unfold carR
  split
  · split
    · split
      · split
        · split
          · split
            · exact frm_i rfl F9_ca hT
            · exact frm_x rfl rfl
          · exact frm_x rfl rfl
        · exact frm_x rfl rfl
      · exact frm_x rfl rfl
    · exact frm_x rfl rfl
  · exact frm_x rfl rfl
theorem frm_swap {i : Nat} {u : Sto} {pf pc : Nat} (hT : TB i u) {y z : Int32} : frm i (swaR u pf pc y z) u pf pc := by
  unfold swaR
  split
  · split
    · split
      · split
        · exact frm_i rfl (F9_ct.trans F9_ct) hT
        · exact frm_x rfl rfl
      · exact frm_x rfl rfl
    · exact frm_x rfl rfl
  · exact frm_x rfl rfl
theorem frm_turn {i : Nat} {u : Sto} {pf pc : Nat} (hT : TB i u) {x : Int32} : frm i (turR u pf pc x) u pf pc := by
  unfold turR
  split
  · split
    · exact frm_i rfl (F9_tr _) hT
    · exact frm_x rfl rfl
  · exact frm_x rfl rfl
theorem tk_tm {u : Sto} {T wk nw : Nat} (h9 : u 3 9 = nI wk) (h10 : u 3 10 = nI nw) (hn : nw < 168) : ∃ wk' nw', tkS u T 3 9 = nI wk' ∧ tkS u T 3 10 = nI nw' ∧ nw' < 168 ∧ wk' * 168 + nw' = wk * 168 + nw + 1 := by
  by_cases ha : aft nw = 0
  · have hn7 : nw = 167 := by unfold aft at ha; revert ha; split <;> intros <;> omega
    rw [tk_0 h10 hn ha]
    refine ⟨wk + 1, 0, ?_, ?_, by omega, by omega⟩
    · rw [(daS_m T).2.1, (paS_m T).2.1, su_k, h9, nI_add]
    · rw [(daS_m T).2.2, (paS_m T).2.2, su_i (by decide), su_k]
  · have hn7 : aft nw = nw + 1 := by unfold aft at ha ⊢; revert ha; split <;> intros <;> omega
    rw [tk_1 h10 hn ha, hn7]
    refine ⟨wk, nw + 1, ?_, su_k, ?_, by omega⟩
    · rw [su_i (by decide), h9]
    · have := aft_lt nw; omega
theorem tc_tm {u : Sto} {T wk nw : Nat} (h9 : u 3 9 = nI wk) (h10 : u 3 10 = nI nw) (hn : nw < 168) : ∀ k, ∃ wk' nw', tcS u T k 3 9 = nI wk' ∧ tcS u T k 3 10 = nI nw' ∧ nw' < 168 ∧ wk' * 168 + nw' = wk * 168 + nw + k
  | 0 => ⟨wk, nw, h9, h10, hn, rfl⟩
  | k + 1 => by
    obtain ⟨a, b, e1, e2, e3, e4⟩ := tc_tm (T := T) h9 h10 hn k
    obtain ⟨c, d, f1, f2, f3, f4⟩ := tk_tm (T := T) e1 e2 e3
    exact ⟨c, d, f1, f2, f3, by omega⟩
theorem tc_o {u : Sto} {T c : Nat} (h : ¬ (3 ≤ c ∧ c ≤ 9)) : ∀ k, tcS u T k c = u c
  | 0 => rfl
  | k + 1 => by rw [tcS, tkS_c (by omega) (by omega) (by omega) (by omega) (by omega) (by omega), tc_o h k]
theorem frm_ticks {i : Nat} {u : Sto} {T pf pc : Nat} {n : Int32} (hT : TB i u) : frm i (ticR u T pf pc n) u pf pc := by
  unfold ticR
  split
  · rename_i c
    obtain ⟨N, hN0, hN1, iN, rfl⟩ := okN_k (by decide) c
    unfold frm
    refine ⟨fun k hk => tc_o hk _, ?_⟩
    have h3 : rmS u pf pc 3 = u 3 := rmS_c (by omega) (by omega)
    obtain ⟨wk, nw, h1, h2, q1, q2⟩ := hT
    obtain ⟨a, b, e1, e2, e3, e4⟩ := tc_tm (u := rmS u pf pc) (T := T) (by rw [h3]; exact h1) (by rw [h3]; exact h2) q1 N
    rw [iN]
    exact ⟨a, b, e1, e2, e3, by omega⟩
  · exact frm_x rfl rfl
