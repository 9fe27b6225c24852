-- after: 38.r 39.s 40.t 47.str 48.tx 49.ty 50.tt 51.tu 52.tv 53.lw 54.lx 55.ly 56.lz 57.ma 58.mb 59.mc 60.md 61.me 62.mf 70.na 71.nb 72.nc 73.nd 74.ne 75.nf 76.ng 77.nh 78.ni 79.nj 80.nk 81.nl 82.nm 84.no 85.np
theorem br_any {v : Sto} {fa : Nat → Int32} : ∀ (t : List LN) (l n : Nat), n + lenS t ≤ 400 → LWp v 19 l n t → anyB (fun j => decide (v 22 j = 0) && hldB fa v j) (l + t.length) = (anyB (fun j => decide (v 22 j = 0) && hldB fa v j) l || brL fa t)
  | [], l, n, _, _ => by
    show anyB _ l = (anyB _ l || false)
    rw [Bool.or_false]
  | x :: t, l, n, hn, h => by
    have hn : n + (x.2.2.length + lenS t) ≤ 400 := hn
    have e := LW_hld (fa := fa) (by omega) h
    have ih := br_any (fa := fa) t (l + 1) (n + x.2.2.length) (by omega) h.2.2.2.2.2
    rw [show l + (x :: t).length = l + 1 + t.length by simp; omega, ih, anyB]
    simp only [e]
    rw [show v 22 l = x.1 from h.1, Bool.or_assoc]
    rfl
theorem sl_sum {v : Sto} {fa : Nat → Int32} {kd : Int32} : ∀ (t : List LN) (l n : Nat), n + lenS t ≤ 400 → LWp v 19 l n t → smI (fun j => if v 22 j = kd ∧ hldB fa v j = true then v 23 j else 0) (l + t.length) = slL fa kd t (smI (fun j => if v 22 j = kd ∧ hldB fa v j = true then v 23 j else 0) l)
  | [], l, n, _, _ => rfl
  | x :: t, l, n, hn, h => by
    have hn : n + (x.2.2.length + lenS t) ≤ 400 := hn
    have e := LW_hld (fa := fa) (by omega) h
    have ih := sl_sum (fa := fa) (kd := kd) t (l + 1) (n + x.2.2.length) (by omega) h.2.2.2.2.2
    rw [show l + (x :: t).length = l + 1 + t.length by simp; omega, ih, smI]
    simp only [e]
    rw [show v 22 l = x.1 from h.1, show v 23 l = x.2.1 from h.2.1]
    rfl
def knd (t : List LN) : Prop := ∀ x, x ∈ t → x.1 = nI 0 ∨ x.1 = nI 1 ∨ x.1 = nI 2
theorem lh_k {f : Nat → Int32} {L p : Nat} {q : Int32 × Int32 × Nat} (h : lwH f L p = .ok q) : q.1 = nI 0 ∨ q.1 = nI 1 ∨ q.1 = nI 2 := by
  unfold lwH at h
  split at h
  · cases h; exact Or.inl rfl
  · split at h
    · split at h
      · cases h
        by_cases e : wdB f L p 15 = true
        · exact Or.inr (Or.inl (if_pos e))
        · exact Or.inr (Or.inr (if_neg e))
      · exact nomatch h
    · exact nomatch h
theorem lwP_k {f : Nat → Int32} {L p : Nat} {q : LN × Nat} (h : lwP f L p = .ok q) : q.1.1 = nI 0 ∨ q.1.1 = nI 1 ∨ q.1.1 = nI 2 := by
  unfold lwP at h
  split at h
  · exact nomatch h
  · rename_i r hr
    split at h
    · split at h
      · exact nomatch h
      · cases h; exact lh_k hr
    · cases h; exact lh_k hr
theorem lns_k {f : Nat → Int32} {L : Nat} : ∀ {k p : Nat} {t : List LN}, lnsP f L k p = .ok t → knd t
  | 0, _, _, h => nomatch h
  | k + 1, p, t, h => by
    unfold lnsP at h
    split at h
    · exact nomatch h
    · rename_i q hq
      have h3 := lwP_k hq
      split at h
      · cases h
        intro x hx
        cases hx with
        | head => exact h3
        | tail _ z => exact nomatch z
      · split at h
        · split at h
          · exact nomatch h
          · rename_i r hr
            cases h
            intro x hx
            cases hx with
            | head => exact h3
            | tail _ z => exact lns_k hr x z
        · exact nomatch h
theorem law_k2 {f : Nat → Int32} {L : Nat} {t : List LN} (h : lawP f L = .ok t) : knd t := by
  unfold lawP at h
  split at h
  · cases h; intro x hx; exact nomatch hx
  · exact lns_k h
theorem lvA_brv {fa : Nat → Int32} : ∀ (t : List LN) (u : Sto), brv (lvA u fa t) u
  | [], u => brv.refl u
  | x :: t, u => (lvA_brv t (lvS u fa x)).trans brv_lv
theorem lvA_17 {fa : Nat → Int32} : ∀ (t : List LN) (u : Sto), lvA u fa t 178 17 = if brL fa t = true then nI 1 else u 178 17
  | [], u => rfl
  | x :: t, u => by
    show lvA (lvS u fa x) fa t 178 17 = _
    rw [lvA_17 t]
    have e : brL fa (x :: t) = ((decide (x.1 = nI 0) && hoB fa x.2.2) || brL fa t) := rfl
    by_cases a : hoB fa x.2.2 = true
    · by_cases b : x.1 = nI 0
      · rw [e, ← lv_0 a b, a, decide_eq_true b, su_k]; simp
      · have e2 : lvS u fa x 178 17 = u 178 17 := by
          rw [lvS, if_pos a, if_neg b]
          split
          · rw [su_i (by decide)]
          · rw [su_i (by decide)]
        rw [e, e2, decide_eq_false b]; simp
    · rw [e, ← lv_n a, Bool.not_eq_true] at *
      rw [a]; simp
theorem lvA_s {fa : Nat → Int32} : ∀ (t : List LN) (u : Sto), knd t → lvA u fa t 178 18 = slL fa (nI 1) t (u 178 18) ∧ lvA u fa t 178 19 = slL fa (nI 2) t (u 178 19)
  | [], u, _ => ⟨rfl, rfl⟩
  | x :: t, u, hk => by
    have hx := hk x (List.Mem.head _)
    have ih := lvA_s (fa := fa) t (lvS u fa x) (fun y hy => hk y (List.Mem.tail _ hy))
    have h01 : ¬ (nI 0 : Int32) = nI 1 := by decide
    have h02 : ¬ (nI 0 : Int32) = nI 2 := by decide
    have h12 : ¬ (nI 1 : Int32) = nI 2 := by decide
    have h21 : ¬ (nI 2 : Int32) = nI 1 := by decide
    show lvA (lvS u fa x) fa t 178 18 = slL fa (nI 1) t (u 178 18 + _) ∧ lvA (lvS u fa x) fa t 178 19 = slL fa (nI 2) t (u 178 19 + _)
    rw [ih.1, ih.2]
    by_cases a : hoB fa x.2.2 = true
    · rcases hx with b | b | b
      · rw [← lv_0 a b, su_i (by decide), su_i (by decide), if_neg (fun z => h01 (b.symm.trans z.1)), if_neg (fun z => h02 (b.symm.trans z.1)), Int32.add_zero, Int32.add_zero]
        exact ⟨rfl, rfl⟩
      · rw [← lv_1 a b, su_k, su_i (by decide), if_pos ⟨b, a⟩, if_neg (fun z => h12 (b.symm.trans z.1)), Int32.add_zero]
        exact ⟨rfl, rfl⟩
      · rw [← lv_2 a b, su_i (by decide), su_k, if_neg (fun z => h21 (b.symm.trans z.1)), if_pos ⟨b, a⟩, Int32.add_zero]
        exact ⟨rfl, rfl⟩
    · rw [← lv_n a, if_neg (fun z => a z.2), if_neg (fun z => a z.2), Int32.add_zero, Int32.add_zero]
      exact ⟨rfl, rfl⟩
/-- the law beside its text -/
def LKl (v : Sto) (g : Nat → Int32) : Prop := (v 19 5 = -1 ∧ g 2 = -1) ∨ ∃ t L, L ≤ 400 ∧ v 19 5 = nI t.length ∧ g 2 = nI t.length ∧ g 3 = nI L ∧ lawP (fun k => g (1080 + k)) L = .ok t ∧ LWp v 19 0 0 t
theorem ask_b {v : Sto} {fa : Nat → Int32} {t : List LN} (hs : lenS t ≤ 400) (h : LWp v 19 0 0 t) : brB fa v t.length = brL fa t ∧ slI fa v (nI 1) t.length = slL fa (nI 1) t 0 ∧ slI fa v (nI 2) t.length = slL fa (nI 2) t 0 := by
  have h1 := br_any (fa := fa) t 0 0 (by omega) h
  have h2 := sl_sum (fa := fa) (kd := nI 1) t 0 0 (by omega) h
  have h3 := sl_sum (fa := fa) (kd := nI 2) t 0 0 (by omega) h
  rw [Nat.zero_add] at h1 h2 h3
  exact ⟨h1, h2, h3⟩
