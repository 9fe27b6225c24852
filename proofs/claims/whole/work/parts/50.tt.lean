-- after: 38.r 39.s 40.t 47.str 48.tx 49.ty
theorem nI_mul {a b : Nat} (h : a * b < 2 ^ 31 := by omega) (ha : a < 2 ^ 31 := by omega) (hb : b < 2 ^ 31 := by omega) : nI a * nI b = nI (a * b) := by
  refine Int32.toInt_inj.mp ?_
  rw [Int32.toInt_mul, nI_toInt ha, nI_toInt hb, nI_toInt h, Int.bmod_eq_of_le (by omega) (by omega)]
  omega
def tfS (u : Sto) (a b c d : Int32) : Sto := fun k j => if k = 159 then (if j = 9 then a else if j = 10 then b else if j = 11 then c else if j = 12 then d else u k j) else u k j
section TF
variable {u : Sto} {a b c d x : Int32}
theorem tf_r9 : tfS u a b c d 159 9 = a := by simp [tfS]
theorem tf_r10 : tfS u a b c d 159 10 = b := by simp [tfS]
theorem tf_r11 : tfS u a b c d 159 11 = c := by simp [tfS]
theorem tf_r12 : tfS u a b c d 159 12 = d := by simp [tfS]
theorem tf_o {k j : Nat} (h : k ≠ 159) : tfS u a b c d k j = u k j := by simp [tfS, h]
theorem tf_oc {k : Nat} (h : k ≠ 159) : tfS u a b c d k = u k := funext fun _ => tf_o h
theorem tf_w9 : su (tfS u a b c d) 159 9 x = tfS u x b c d := by
  funext k i; unfold su tfS
  by_cases h1 : k = 159 <;> by_cases h2 : i = 9 <;> simp [h1, h2]
theorem tf_w10 : su (tfS u a b c d) 159 10 x = tfS u a x c d := by
  funext k i; unfold su tfS
  by_cases h1 : k = 159 <;> by_cases h2 : i = 10 <;> simp [h1, h2]
theorem tf_w11 : su (tfS u a b c d) 159 11 x = tfS u a b x d := by
  funext k i; unfold su tfS
  by_cases h1 : k = 159 <;> by_cases h2 : i = 11 <;> simp [h1, h2]
theorem tf_w12 : su (tfS u a b c d) 159 12 x = tfS u a b c x := by
  funext k i; unfold su tfS
  by_cases h1 : k = 159 <;> by_cases h2 : i = 12 <;> simp [h1, h2]
theorem tf_su {k j : Nat} (h : k ≠ 159) : su (tfS u a b c d) k j x = tfS (su u k j x) a b c d := by
  funext y i
  unfold su tfS
  by_cases h1 : y = 159
  · have hn : ¬ (y = k ∧ i = j) := fun q => h (q.1.symm.trans h1)
    simp only [if_neg hn]
  · simp only [if_neg h1]
theorem tf_eta : tfS u (u 159 9) (u 159 10) (u 159 11) (u 159 12) = u := by
  funext k i; unfold tfS
  by_cases h : k = 159
  · subst h
    rw [if_pos rfl]
    by_cases h1 : i = 9
    · simp [h1]
    · by_cases h2 : i = 10
      · simp [h2]
      · by_cases h3 : i = 11
        · simp [h3]
        · by_cases h4 : i = 12 <;> simp [h1, h2, h3, h4]
  · rw [if_neg h]
end TF
theorem tx_in {u u2 : Sto} {t : Nat} {l k b e n w : Int32} (h : u = u2) : txS u t l k b e n w = txS u2 t l k b e n w := by rw [h]
theorem tx_wv {u : Sto} {t : Nat} {l k b e n w w2 : Int32} (h : w = w2) : txS u t l k b e n w = txS u t l k b e n w2 := by rw [h]
abbrev TT (u : Sto) (a b c d : Int32) (f : Nat → Int32) (L p : Nat) (w : Int32) : Sto := tkS9 (tfS u a b c d) 159 f L p w
theorem TT_o {u : Sto} {a b c d : Int32} {f : Nat → Int32} {L p : Nat} {w : Int32} {k : Nat} (h : k ≠ 159) : TT u a b c d f L p w k = u k := (tx_oc h).trans (tf_oc h)
theorem TT_su {u : Sto} {a b c d : Int32} {f : Nat → Int32} {L p : Nat} {w : Int32} {k j : Nat} {x : Int32} (h : k ≠ 159) : su (TT u a b c d f L p w) k j x = TT (su u k j x) a b c d f L p w := (tx_su h).trans (tx_in (tf_su h))
abbrev FT (u : Sto) (f : Nat → Int32) (L e : Nat) : Res → Sto → Prop := fun o s => o = .inl (some (.int (nI 0))) ∧ ∃ a b c d p, p ≤ L ∧ s = TT u a b c d f L p (nI e)
theorem nu_ix {f : Nat → Int32} {L b d lo hi : Nat} (h : nuP f L b d (nI lo) (nI hi)) (h1 : lo < 2 ^ 31 := by omega) (h2 : hi < 2 ^ 31 := by omega) : ∃ k, nmI f L b = nI k ∧ lo ≤ k ∧ k ≤ hi := by
  have e1 := Int32.le_iff_toInt_le.mp (Int32.not_lt.mp h.2.2.1)
  have e2 := Int32.le_iff_toInt_le.mp h.2.2.2
  rw [nI_toInt h1] at e1
  rw [nI_toInt h2] at e2
  refine ⟨(nmI f L b).toInt.toNat, Int32.toInt_inj.mp ?_, by omega, by omega⟩
  rw [nI_toInt (by omega)]
  omega
abbrev tnP (T : Nat) (mo : Nat → Int32) (f : Nat → Int32) (L b : Nat) : Prop := nuP f L b 3 (nI 0) (nI T - nI 1) ∧ mo (ix (nmI f L b)) = -1
theorem nu_T {T : Nat} {f : Nat → Int32} {L b : Nat} (hT : T ≤ 10) (h : nuP f L b 3 (nI 0) (nI T - nI 1)) : ∃ k, nmI f L b = nI k ∧ k < T := by
  by_cases e : T = 0
  · subst e
    exfalso
    have h1 := h.2.2.1
    have h2 := h.2.2.2
    have h3 : nmI f L b < nI 0 := by
      have h4 : (nI 0 : Int32) - nI 1 < nI 0 := by decide
      exact Int32.lt_of_le_of_lt h2 h4
    exact h1 h3
  · have e1 : nI T - nI 1 = nI (T - 1) := pk_sub (by omega)
    rw [e1] at h
    obtain ⟨k, hk, _, hk2⟩ := nu_ix h
    exact ⟨k, hk, by omega⟩
/-- a line of a town's text: tenant, child, let, goods, shut, sub, want, chance -/
abbrev TL : Type := (Int32 × Int32 × Int32) ⊕ (Int32 ⊕ ((Nat × Nat × Nat × Nat) ⊕ ((Nat × Int32) ⊕ (Nat ⊕ ((Nat × Int32) ⊕ ((Int32 × Int32 × Int32 × Int32) ⊕ Int32))))))
abbrev TL.ten (c a b : Int32) : TL := .inl (c, a, b)
abbrev TL.chl (m : Int32) : TL := .inr (.inl m)
abbrev TL.lt (q A B m : Nat) : TL := .inr (.inr (.inl (q, A, B, m)))
abbrev TL.gds (r : Nat) (n : Int32) : TL := .inr (.inr (.inr (.inl (r, n))))
abbrev TL.sht (r : Nat) : TL := .inr (.inr (.inr (.inr (.inl r))))
abbrev TL.sbt (r : Nat) (m : Int32) : TL := .inr (.inr (.inr (.inr (.inr (.inl (r, m))))))
abbrev TL.wnt (m n a b : Int32) : TL := .inr (.inr (.inr (.inr (.inr (.inr (.inl (m, n, a, b)))))))
abbrev TL.chc (n : Int32) : TL := .inr (.inr (.inr (.inr (.inr (.inr (.inr n))))))
theorem TL.cs {motive : TL → Prop} (ten : ∀ c a b, motive (TL.ten c a b)) (chl : ∀ m, motive (TL.chl m)) (lt : ∀ q A B m, motive (TL.lt q A B m)) (gds : ∀ r n, motive (TL.gds r n)) (sht : ∀ r, motive (TL.sht r)) (sbt : ∀ r m, motive (TL.sbt r m)) (wnt : ∀ m n a b, motive (TL.wnt m n a b)) (chc : ∀ n, motive (TL.chc n)) (x : TL) : motive x := by
  rcases x with ⟨c, a, b⟩ | m | ⟨q, A, B, m⟩ | ⟨r, n⟩ | r | ⟨r, m⟩ | ⟨m, n, a, b⟩ | n
  · exact ten c a b
  · exact chl m
  · exact lt q A B m
  · exact gds r n
  · exact sht r
  · exact sbt r m
  · exact wnt m n a b
  · exact chc n
def ltS (u : Sto) (q m A : Nat) : Nat → Sto
  | 0 => u
  | k + 1 => soT (ltS u q m A k) 27 (q + (A + k)) m
def apL (u : Sto) (T W : Nat) : TL → Sto
  | .inl (c, a, b) => atS (su (su u 31 T c) 34 12 (u 34 12 + c)) T a b (-1)
  | .inr (.inl m) => atS u T (-1) (-1) m
  | .inr (.inr (.inl (q, A, B, m))) => ltS u q m A (B + 1 - A)
  | .inr (.inr (.inr (.inl (r, n)))) => su u 30 r n
  | .inr (.inr (.inr (.inr (.inl r)))) => su u 38 r (nI 1)
  | .inr (.inr (.inr (.inr (.inr (.inl (r, m)))))) => su u 29 r m
  | .inr (.inr (.inr (.inr (.inr (.inr (.inl (m, n, a, b))))))) => awS u W m n a b
  | .inr (.inr (.inr (.inr (.inr (.inr (.inr (n))))))) => su u 34 10 n
def lfB (own shu : Nat → Int32) (q A B : Nat) : Bool := allB (fun i => decide (own (q + (A + i)) = -1 ∧ shu (q + (A + i)) = 0)) (B + 1 - A)
def tenD (T : Nat) (f : Nat → Int32) (L p : Nat) : Except Nat (TL × Nat) := if T < 10 then if nuP f L (nx f L p) 4 (nI 0) (nI 9999) then if wdB f L (nx f L (nx f L p)) 1 = true then if nuP f L (nx f L (nx f L (nx f L p))) 3 (nI 0) (nI 23) then if wdB f L (nx f L (nx f L (nx f L (nx f L p)))) 2 = true then if nuP f L (nx f L (nx f L (nx f L (nx f L (nx f L p))))) 3 (nmI f L (nx f L (nx f L (nx f L p)))) (nI 23) then .ok (.ten (nmI f L (nx f L p)) (nmI f L (nx f L (nx f L (nx f L p)))) (nmI f L (nx f L (nx f L (nx f L (nx f L (nx f L p)))))), (nx f L (nx f L (nx f L (nx f L (nx f L (nx f L p))))))) else .error (nx f L (nx f L (nx f L (nx f L (nx f L p))))) else .error (nx f L (nx f L (nx f L (nx f L p)))) else .error (nx f L (nx f L (nx f L p))) else .error (nx f L (nx f L p)) else .error (nx f L p) else .error p
def chlD (T : Nat) (mo : Nat → Int32) (f : Nat → Int32) (L p : Nat) : Except Nat (TL × Nat) := if T < 10 then if wdB f L (nx f L p) 4 = true then if tnP T mo f L (nx f L (nx f L p)) then .ok (.chl (nmI f L (nx f L (nx f L p))), (nx f L (nx f L (nx f L p)))) else .error (nx f L (nx f L p)) else .error (nx f L p) else .error p
def letD (T : Nat) (mo own shu : Nat → Int32) (f : Nat → Int32) (L p : Nat) : Except Nat (TL × Nat) := if nuP f L (nx f L p) 3 (nI 0) (nI 6) then if nuP f L (nx f L (nx f L p)) 3 (nI 0) (nI 23) then if wdB f L (nx f L (nx f L (nx f L p))) 2 = true then if nuP f L (nx f L (nx f L (nx f L (nx f L p)))) 3 (nmI f L (nx f L (nx f L p))) (nI 23) then if lfB own shu (ix (nmI f L (nx f L p)) * 24) (ix (nmI f L (nx f L (nx f L p)))) (ix (nmI f L (nx f L (nx f L (nx f L (nx f L p)))))) = true then if tnP T mo f L (nx f L (nx f L (nx f L (nx f L (nx f L p))))) then .ok (.lt (ix (nmI f L (nx f L p)) * 24) (ix (nmI f L (nx f L (nx f L p)))) (ix (nmI f L (nx f L (nx f L (nx f L (nx f L p)))))) (ix (nmI f L (nx f L (nx f L (nx f L (nx f L (nx f L p))))))), (nx f L (nx f L (nx f L (nx f L (nx f L (nx f L p))))))) else .error (nx f L (nx f L (nx f L (nx f L (nx f L p))))) else .error (nx f L (nx f L (nx f L (nx f L p)))) else .error (nx f L (nx f L (nx f L (nx f L p)))) else .error (nx f L (nx f L (nx f L p))) else .error (nx f L (nx f L p)) else .error (nx f L p)
def gdsD (f : Nat → Int32) (L p : Nat) : Except Nat (TL × Nat) := if nuP f L (nx f L p) 3 (nI 0) (nI 6) then if nuP f L (nx f L (nx f L p)) 3 (nI 0) (nI 23) then if nuP f L (nx f L (nx f L (nx f L p))) 3 (nI 0) (nI 99) then .ok (.gds (ix (nmI f L (nx f L p)) * 24 + ix (nmI f L (nx f L (nx f L p)))) (nmI f L (nx f L (nx f L (nx f L p)))), (nx f L (nx f L (nx f L (nx f L p))))) else .error (nx f L (nx f L (nx f L p))) else .error (nx f L (nx f L p)) else .error (nx f L p)
def shtD (own : Nat → Int32) (f : Nat → Int32) (L p : Nat) : Except Nat (TL × Nat) := if nuP f L (nx f L p) 3 (nI 0) (nI 6) then if nuP f L (nx f L (nx f L p)) 3 (nI 0) (nI 23) then if own (ix (nmI f L (nx f L p)) * 24 + ix (nmI f L (nx f L (nx f L p)))) = -1 then .ok (.sht (ix (nmI f L (nx f L p)) * 24 + ix (nmI f L (nx f L (nx f L p)))), (nx f L (nx f L (nx f L p)))) else .error (nx f L (nx f L p)) else .error (nx f L (nx f L p)) else .error (nx f L p)
def sbtD (T : Nat) (mo own : Nat → Int32) (f : Nat → Int32) (L p : Nat) : Except Nat (TL × Nat) := if nuP f L (nx f L p) 3 (nI 0) (nI 6) then if nuP f L (nx f L (nx f L p)) 3 (nI 0) (nI 23) then if ¬ own (ix (nmI f L (nx f L p)) * 24 + ix (nmI f L (nx f L (nx f L p)))) = -1 then if tnP T mo f L (nx f L (nx f L (nx f L p))) then if ¬ nmI f L (nx f L (nx f L (nx f L p))) = own (ix (nmI f L (nx f L p)) * 24 + ix (nmI f L (nx f L (nx f L p)))) then .ok (.sbt (ix (nmI f L (nx f L p)) * 24 + ix (nmI f L (nx f L (nx f L p)))) (nmI f L (nx f L (nx f L (nx f L p)))), (nx f L (nx f L (nx f L (nx f L p))))) else .error (nx f L (nx f L (nx f L p))) else .error (nx f L (nx f L (nx f L p))) else .error (nx f L (nx f L p)) else .error (nx f L (nx f L p)) else .error (nx f L p)
def wntD (T W : Nat) (mo : Nat → Int32) (f : Nat → Int32) (L p : Nat) : Except Nat (TL × Nat) := if W < 8 then if tnP T mo f L (nx f L p) then if nuP f L (nx f L (nx f L p)) 3 (nI 1) (nI 20) then if wdB f L (nx f L (nx f L (nx f L p))) 10 = true then if nuP f L (nx f L (nx f L (nx f L (nx f L p)))) 3 (nI 0) (nI 23) then if wdB f L (nx f L (nx f L (nx f L (nx f L (nx f L p))))) 2 = true then if nuP f L (nx f L (nx f L (nx f L (nx f L (nx f L (nx f L p)))))) 3 (nmI f L (nx f L (nx f L (nx f L (nx f L p))))) (nI 23) then .ok (.wnt (nmI f L (nx f L p)) (nmI f L (nx f L (nx f L p))) (nmI f L (nx f L (nx f L (nx f L (nx f L p))))) (nmI f L (nx f L (nx f L (nx f L (nx f L (nx f L (nx f L p))))))), (nx f L (nx f L (nx f L (nx f L (nx f L (nx f L (nx f L p)))))))) else .error (nx f L (nx f L (nx f L (nx f L (nx f L (nx f L p)))))) else .error (nx f L (nx f L (nx f L (nx f L (nx f L p))))) else .error (nx f L (nx f L (nx f L (nx f L p)))) else .error (nx f L (nx f L (nx f L p))) else .error (nx f L (nx f L p)) else .error (nx f L p) else .error p
def chcD (f : Nat → Int32) (L p : Nat) : Except Nat (TL × Nat) := if nuP f L (nx f L p) 3 (nI 0) (nI 100) then .ok (.chc (nmI f L (nx f L p)), (nx f L (nx f L p))) else .error (nx f L p)
def twD (T W : Nat) (mo own shu : Nat → Int32) (f : Nat → Int32) (L p : Nat) : Except Nat (TL × Nat) :=
  if wdB f L p 0 = true then tenD T f L p else if wdB f L p 3 = true then chlD T mo f L p else if wdB f L p 5 = true then letD T mo own shu f L p else if wdB f L p 6 = true then gdsD f L p else if wdB f L p 7 = true then shtD own f L p else if wdB f L p 8 = true then sbtD T mo own f L p else if wdB f L p 9 = true then wntD T W mo f L p else if wdB f L p 11 = true then chcD f L p else .error p
def QL (u : Sto) (T W : Nat) (f : Nat → Int32) (L : Nat) (w : Int32) (r : Except Nat (TL × Nat)) : Res → Sto → Prop := fun o s => match r with
  | .error e => FT u f L e o s
  | .ok q => o = .inl (some (.int (nI 1))) ∧ q.2 ≤ L ∧ ∃ a b c d, s = TT (apL u T W q.1) a b c d f L q.2 w
theorem ql_nx {u : Sto} {T W : Nat} {f : Nat → Int32} {L : Nat} {w : Int32} {r : Except Nat (TL × Nat)} : ∀ Ex s, ¬ QL u T W f L w r (.inr Ex) s := by
  intro Ex s h
  cases r with
  | error e => exact nomatch h.1
  | ok q => exact nomatch h.1
theorem ql_e {u : Sto} {T W : Nat} {f : Nat → Int32} {L : Nat} {w : Int32} {r : Except Nat (TL × Nat)} {e p : Nat} {a b c d : Int32} (h : r = .error e) (hp : p ≤ L) : QL u T W f L w r (.inl (some (.int (nI 0)))) (TT u a b c d f L p (nI e)) := by
  rw [h]; exact ⟨rfl, a, b, c, d, p, hp, rfl⟩
theorem ql_k {u v : Sto} {T W : Nat} {f : Nat → Int32} {L : Nat} {w : Int32} {r : Except Nat (TL × Nat)} {x : TL} {p : Nat} {a b c d : Int32} (h : r = .ok (x, p)) (hp : p ≤ L) (hv : v = apL u T W x) : QL u T W f L w r (.inl (some (.int (nI 1)))) (TT v a b c d f L p w) := by
  rw [h]; exact ⟨rfl, hp, a, b, c, d, by rw [hv]⟩
theorem soT_TT {u : Sto} {a b c d : Int32} {f : Nat → Int32} {L p : Nat} {w : Int32} {r m : Nat} : soT (TT u a b c d f L p w) 27 r m = TT (soT u 27 r m) a b c d f L p w := by
  have e : ∀ k j, k ≠ 159 → TT u a b c d f L p w k j = u k j := fun k j h => congrFun (TT_o h) j
  have hf : frT (TT u a b c d f L p w) 27 r = TT (frT u 27 r) a b c d f L p w := by
    unfold frT
    rw [e 28 r (by decide)]
    by_cases h : u 28 r = -1
    · rw [if_pos h, if_pos h, TT_su (by decide), TT_su (by decide)]
    · rw [if_neg h, if_neg h, e 32 _ (by decide), TT_su (by decide), TT_su (by decide), TT_su (by decide)]
  unfold soT
  rw [hf, congrFun (TT_o (k := 32) (by decide)) m, TT_su (by decide), TT_su (by decide)]
theorem atS_TT {u : Sto} {a b c d : Int32} {f : Nat → Int32} {L p : Nat} {w : Int32} {n : Nat} {x y z : Int32} : atS (TT u a b c d f L p w) n x y z = TT (atS u n x y z) a b c d f L p w := by
  unfold atS
  rw [TT_su (by decide), TT_su (by decide), TT_su (by decide), TT_su (by decide)]
theorem awS_TT {u : Sto} {a b c d : Int32} {f : Nat → Int32} {L p : Nat} {w : Int32} {n : Nat} {x y z v : Int32} : awS (TT u a b c d f L p w) n x y z v = TT (awS u n x y z v) a b c d f L p w := by
  unfold awS
  rw [TT_su (by decide), TT_su (by decide), TT_su (by decide), TT_su (by decide), TT_su (by decide)]
theorem lf_1 {own shu : Nat → Int32} {q A B : Nat} (h : ∀ j, A ≤ j → j ≤ B → own (q + j) = -1 ∧ shu (q + j) = 0) : lfB own shu q A B = true := allB_i.mpr (fun i hi => decide_eq_true (h (A + i) (by omega) (by omega)))
theorem lf_0 {own shu : Nat → Int32} {q A B j : Nat} (h1 : A ≤ j) (h2 : j ≤ B) (h : ¬ (own (q + j) = -1 ∧ shu (q + j) = 0)) : ¬ lfB own shu q A B = true := fun z => h (by
  have := of_decide_eq_true (allB_i.mp z (j - A) (by omega))
  rw [show A + (j - A) = j by omega] at this
  exact this)
theorem ltS_own {u : Sto} {q m A : Nat} (hm : m < 10) (h : ∀ r, r < 168 → tn (u 28 r) 10) : ∀ k, ∀ r, r < 168 → tn (ltS u q m A k 28 r) 10
  | 0 => h
  | k + 1 => fun r hr => by
    show tn (soT (ltS u q m A k) 27 (q + (A + k)) m 28 r) 10
    have ih := ltS_own (q := q) (A := A) hm h k
    unfold soT frT
    rw [su_cell _ _ (by decide : (28 : Nat) ≠ 27 + 5)]
    by_cases e : r = q + (A + k)
    · subst e
      rw [su_at, pk_us]
      exact Or.inr ⟨m, hm, rfl⟩
    · rw [su_at, pk_un e, su_cell _ _ (by decide : (28 : Nat) ≠ 27 + 2), su_at, pk_un e]
      split
      · exact ih r hr
      · rw [su_cell _ _ (by decide : (28 : Nat) ≠ 27 + 5)]
        exact ih r hr
