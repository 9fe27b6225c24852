-- after: 9t.ox
/-! the law's invariant: class beside model -/
/-- the places that a cell has -/
def plc (d : CD) (j : Nat) : Bool := match d with
  | .inl o => match o.2[j]? with | some none => true | _ => false
  | .inr (.inl a) => decide (j < a.2)
  | .inr (.inr _) => false
def inR (u u' : Sto) : Prop := ∀ k j, k < shN → plc (shp k) j = true → u k j = u' k j
theorem inR.refl (u : Sto) : inR u u := fun _ _ _ _ => rfl
theorem inR.trans {a b c : Sto} (h : inR a b) (g : inR b c) : inR a c := fun k j h1 h2 => (h k j h1 h2).trans (g k j h1 h2)
theorem inR.symm {a b : Sto} (h : inR a b) : inR b a := fun k j h1 h2 => (h k j h1 h2).symm
theorem arrV_cg {cI : ClassId} {N : Nat} {f g : Nat → Value} (h : ∀ j, j < N → f j = g j) : arrV cI N f = arrV cI N g := by
  unfold arrV
  congr 1
  apply Array.ext
  · simp
  · intro i h1 h2
    simp at h1
    simp [h i h1]
theorem mapIdx_cg {ad : Nat → Nat} {sl : List (Option Nat)} {t t' : Nat → Int32} (h : ∀ j, sl[j]? = some none → t j = t' j) : sl.mapIdx (slF ad t) = sl.mapIdx (slF ad t') := by
  apply List.ext_getElem?
  intro i
  rw [List.getElem?_mapIdx, List.getElem?_mapIdx]
  cases e : sl[i]? with
  | none => rfl
  | some x =>
    cases x with
    | none => show some (Value.int (t i)) = some (Value.int (t' i)); rw [h i e]
    | some k => rfl
theorem at_ran {D : va_G} {cl : List vw_C} {cy : Nat → ClassId} {ad : Nat → Nat} {d : CD} {t t' : Nat → Int32} {a : Nat} {H : Heap} (h : ∀ j, plc d j = true → t j = t' j) (ha : va_at D cl (a, cellE cy ad d t) H) : va_at D cl (a, cellE cy ad d t') H := by
  match d, h with
  | .inl o, h =>
    have e : cellE cy ad (.inl o) t = cellE cy ad (.inl o) t' := by
      show (Sum.inr (o.1, o.2.mapIdx (slF ad t)) : va_E) = Sum.inr (o.1, o.2.mapIdx (slF ad t'))
      rw [mapIdx_cg (fun j hj => h j (by unfold plc; simp only; rw [hj]))]
    rw [← e]; exact ha
  | .inr (.inl r), h =>
    unfold cellE at ha ⊢
    simp only at ha ⊢
    by_cases c : r.1 = 2
    · rw [if_pos c] at ha ⊢
      show H[a]? = some (arrV (cy 2) r.2 (fun j => .long ((t' j).toInt64)))
      rw [← arrV_cg (f := fun j => .long ((t j).toInt64)) (fun j hj => by rw [h j (decide_eq_true hj)])]
      exact ha
    · rw [if_neg c] at ha ⊢
      show H[a]? = some (arrV (cy r.1) r.2 (fun j => .int (t' j)))
      rw [← arrV_cg (f := fun j => .int (t j)) (fun j hj => by rw [h j (decide_eq_true hj)])]
      exact ha
  | .inr (.inr l), h => exact ha
theorem va_ran {E : EE} {u u' : Sto} {H : Heap} (h : inR u u') (hp : va_P E.D vwCl (wsE E u) H) : va_P E.D vwCl (wsE E u') H := fun k q hk => by
  have hN : k < shN := by
    have := (List.getElem?_eq_some_iff.mp hk).1
    unfold wsE wsW at this
    rw [List.length_map, List.length_range] at this
    exact this
  rw [wsW_get hN] at hk
  cases hk
  exact at_ran (fun j hj => h k j hN hj) (hp k _ (wsW_get hN))
theorem g_ran {E : EE} {X : XX} {Q : State → Prop} {nL n pc : Nat} {ls : List (Nat × Value)} {st : List Value} {u u' : Sto} (h : inR u u') (hg : G E X Q nL n pc ls st u') : G E X Q nL n pc ls st u := fun H locs ar hp => hg H locs ar (va_ran h hp)
/-- a town's seven cells -/
def cxT (u : Sto) (t o : Nat) : Sto := fun k => if t ≤ k ∧ k < t + 7 then u (k - t + o) else u k
/-- the image's world in the world's place -/
def rlw (u : Sto) : Sto := fun k => u (k + 48)
def TB (i : Nat) (v : Sto) : Prop := ∃ wk nw, v 3 9 = nI wk ∧ v 3 10 = nI nw ∧ nw < 168 ∧ wk * 168 + nw ≤ 8000 * i
def lawJ (u : Sto) : Prop := lawI u ∧ ∃ n, n ≤ 12 ∧ u 10 11 = nI n
/-- the act k's own town and the model's row of it -/
def acJ (i : Nat) (u : Sto) (T W pf k : Nat) : Prop := J (cxT u 3 (75 + 7 * ((pf + k) % 12))) (mvF (u 179) (fun j => u 182 (1080 * k + j)) 1080) T W ∧ TB i (cxT u 3 (75 + 7 * ((pf + k) % 12)))
def INVp (i : Nat) (u : Sto) (T W pf pc tl : Nat) : Prop := J u (u 179) T W ∧ lawJ u ∧ TB i u ∧ PI u pf pc ∧ u 178 6 = nI pc ∧ (∀ k, k < pc → acJ i u T W pf k) ∧ u 0 6 = u 178 3 ∧ (u 0 6 = 0 ∨ ∃ T' W', J (rlw u) (u 180) T' W' ∧ lawJ (rlw u) ∧ TB i (rlw u)) ∧ tl ≤ 400 ∧ u 0 1 = nI tl ∧ u 178 8 = nI tl ∧ (∀ j, j < 400 → u 1 j = u 183 j) ∧ u 0 2 = u 178 12
def INV (i : Nat) (u : Sto) : Prop := ∃ T W pf pc tl, INVp i u T W pf pc tl
def ibK (k : Nat) : Prop := k ≤ 23 ∨ (50 ≤ k ∧ k ≤ 158) ∨ k = 179 ∨ k = 180 ∨ k = 182 ∨ k = 183
/-- alike in all that the invariant speaks of -/
def IB (a b : Sto) : Prop := (∀ k, ibK k → a k = b k) ∧ a 178 3 = b 178 3 ∧ a 178 6 = b 178 6 ∧ a 178 8 = b 178 8 ∧ a 178 12 = b 178 12
theorem IB.refl (a : Sto) : IB a a := ⟨fun _ _ => rfl, rfl, rfl, rfl, rfl⟩
theorem IB.trans {a b c : Sto} (h : IB a b) (g : IB b c) : IB a c := ⟨fun k hk => (h.1 k hk).trans (g.1 k hk), h.2.1.trans g.2.1, h.2.2.1.trans g.2.2.1, h.2.2.2.1.trans g.2.2.2.1, h.2.2.2.2.trans g.2.2.2.2⟩
theorem ibK_s {k j : Nat} (h : ibK k) (h1 : k ≠ 24) : scrB k j = false := by
  unfold ibK at h
  simp [scrB]
  omega
theorem sim_IB {a b : Sto} (h : sim a b) : IB a b := ⟨fun k hk => funext fun j => h k j (ibK_s hk (by unfold ibK at hk; omega)), h 178 3 (by decide), h 178 6 (by decide), h 178 8 (by decide), h 178 12 (by decide)⟩
theorem th_IB (u : Sto) (x : Int32) : IB (su u 178 0 x) u := ⟨fun k hk => su_cell _ _ (by unfold ibK at hk; omega), su_i (by decide), su_i (by decide), su_i (by decide), su_i (by decide)⟩
theorem ou_IB (u : Sto) (x : Int32) : IB (su u 197 0 x) u := ⟨fun k hk => su_cell _ _ (by unfold ibK at hk; omega), by rw [su_cell _ _ (by decide)], by rw [su_cell _ _ (by decide)], by rw [su_cell _ _ (by decide)], by rw [su_cell _ _ (by decide)]⟩
theorem lawI_c {a b : Sto} (h5 : a 19 = b 19) (h : a 21 = b 21) (q : lawI b) : lawI a := by
  unfold lawI at *
  rw [h5]
  rcases q with q | ⟨n, q1, q2⟩
  · exact Or.inl q
  · exact Or.inr ⟨n, lwB_cong h.symm q1, q2⟩
theorem law9_c {a b : Sto} (h5 : a 19 = b 19) (h : a 21 = b 21) (h10 : a 10 = b 10) (q : lawJ b) : lawJ a := ⟨lawI_c h5 h q.1, by rw [h10]; exact q.2⟩
theorem TB_c {a b : Sto} {i : Nat} (h : a 3 = b 3) (q : TB i b) : TB i a := by
  unfold TB at *
  rw [h]; exact q
theorem TB_le {a : Sto} {i j : Nat} (h : i ≤ j) (q : TB i a) : TB j a := by
  obtain ⟨wk, nw, h1, h2, h3, h4⟩ := q
  exact ⟨wk, nw, h1, h2, h3, by omega⟩
theorem acJ_c {a b : Sto} {i T W pf k : Nat} (h : ∀ c, (10 ≤ c ∧ c ≤ 23) ∨ (75 ≤ c ∧ c ≤ 158) → a c = b c) (h2 : ∀ j, j < 1080 → a 182 (1080 * k + j) = b 182 (1080 * k + j)) (h3 : ∀ j, 1080 ≤ j → a 179 j = b 179 j) (q : acJ i b T W pf k) : acJ i a T W pf k := by
  have hm : (pf + k) % 12 < 12 := Nat.mod_lt _ (by decide)
  have e : ∀ c, 3 ≤ c → c ≤ 23 → cxT a 3 (75 + 7 * ((pf + k) % 12)) c = cxT b 3 (75 + 7 * ((pf + k) % 12)) c := fun c h1 h2 => by
    unfold cxT
    by_cases z : 3 ≤ c ∧ c < 3 + 7
    · rw [if_pos z, if_pos z]; exact h _ (Or.inr (by omega))
    · rw [if_neg z, if_neg z]; exact h _ (Or.inl (by omega))
  have er : mvF (a 179) (fun j => a 182 (1080 * k + j)) 1080 = mvF (b 179) (fun j => b 182 (1080 * k + j)) 1080 := by
    funext j
    unfold mvF
    by_cases z : j < 1080
    · rw [if_pos z, if_pos z]; exact h2 j z
    · rw [if_neg z, if_neg z, h3 j (by omega)]
  unfold acJ at *
  rw [er]
  exact ⟨J_v q.1 (fun c h1 h2 => (e c h1 h2)), TB_c (e 3 (by omega) (by omega)) q.2⟩
theorem INV_c {a b : Sto} {i : Nat} (h : IB a b) (q : INV i b) : INV i a := by
  obtain ⟨hk, h3, h6, h8, h12⟩ := h
  obtain ⟨T, W, pf, pc, tl, q1, q2, q3, q4, q5, q6, q7, q8, q9, q10, q11, q12, q13⟩ := q
  have c0 := hk 0 (Or.inl (by omega))
  have c1 := hk 1 (Or.inl (by omega))
  have cv : ∀ k, 3 ≤ k → k ≤ 23 → a k = b k := fun k _ h => hk k (Or.inl h)
  have cr : ∀ k, 3 ≤ k → k ≤ 23 → rlw a k = rlw b k := fun k _ _ => hk (k + 48) (Or.inr (Or.inl (by omega)))
  have c179 := hk 179 (Or.inr (Or.inr (Or.inl rfl)))
  have c180 := hk 180 (Or.inr (Or.inr (Or.inr (Or.inl rfl))))
  have c182 := hk 182 (Or.inr (Or.inr (Or.inr (Or.inr (Or.inl rfl)))))
  have c183 := hk 183 (Or.inr (Or.inr (Or.inr (Or.inr (Or.inr rfl)))))
  refine ⟨T, W, pf, pc, tl, ?_, law9_c (cv 19 (by omega) (by omega)) (cv 21 (by omega) (by omega)) (cv 10 (by omega) (by omega)) q2, TB_c (cv 3 (by omega) (by omega)) q3, ?_, h6.trans q5, fun k hp => ?_, ?_, ?_, q9, ?_, h8.trans q11, fun j hj => ?_, ?_⟩
  · rw [c179]; exact J_v q1 (fun k h1 h2 => cv k h1 h2)
  · unfold PI; rw [c0]; exact q4
  · exact acJ_c (fun c hc => hk c (hc.elim (fun z => Or.inl z.2) (fun z => Or.inr (Or.inl (by omega))))) (fun j _ => by rw [c182]) (fun j _ => by rw [c179]) (q6 k hp)
  · rw [c0, h3]; exact q7
  · rw [c0, c180]
    rcases q8 with q8 | ⟨T', W', z1, z2, z3⟩
    · exact Or.inl q8
    · exact Or.inr ⟨T', W', J_v z1 (fun k h1 h2 => cr k h1 h2), law9_c (cr 19 (by omega) (by omega)) (cr 21 (by omega) (by omega)) (cr 10 (by omega) (by omega)) z2, TB_c (cr 3 (by omega) (by omega)) z3⟩
  · rw [c0]; exact q10
  · rw [c1, c183]; exact q12 j hj
  · rw [c0, h12]; exact q13
theorem INV_le {a : Sto} {i j : Nat} (h : i ≤ j) (q : INV i a) : INV j a := by
  obtain ⟨T, W, pf, pc, tl, q1, q2, q3, q4, q5, q6, q7, q8, q9⟩ := q
  refine ⟨T, W, pf, pc, tl, q1, q2, TB_le h q3, q4, q5, fun k hk => ⟨(q6 k hk).1, TB_le h (q6 k hk).2⟩, q7, ?_, q9⟩
  rcases q8 with q8 | ⟨T', W', z1, z2, z3⟩
  · exact Or.inl q8
  · exact Or.inr ⟨T', W', z1, z2, TB_le h z3⟩
/-- what the law sees of a pair of calls: the class ended with o, the model with o2 in t -/
def agr (i : Nat) (cd : String → Nat) (o o2 : Res) (t : Sto) : Prop := ∃ x t', o2 = .inl (some (.int x)) ∧ inR t t' ∧ INV (i + 1) t' ∧ (match o with
  | .inl v => t 178 0 = nI 0 ∧ v = some (.int x)
  | .inr Ex => t 178 0 = nI (cd Ex))
/-- a question's pair -/
theorem ag_Q {i : Nat} {u w w' t : Sto} {o o2 : Res} {R : Res × Sto} {cd : String → Nat} (hI : INV i u) (hR : R.2 = u) (hC : PSp R o w) (hw : IB w' w) (hM : PMr cd R.1 w' o2 t) : agr i cd o o2 t := by
  obtain ⟨x, th, h1, h2, h3⟩ := hM
  obtain ⟨rfl, hs⟩ := hC
  rw [hR] at hs
  have hi : INV (i + 1) t := INV_le (Nat.le_succ i) (INV_c ((sim_IB h2).trans ((th_IB _ _).trans (hw.trans (sim_IB hs)))) hI)
  have h0 : t 178 0 = nI th := (h2 178 0 (by decide)).trans su_k
  refine ⟨x, t, h1, inR.refl t, hi, ?_⟩
  revert h3
  cases R.1 with
  | inl v => exact fun h3 => ⟨by rw [h0, h3.1], h3.2⟩
  | inr Ex => exact fun h3 => h0.trans (congrArg nI h3)
