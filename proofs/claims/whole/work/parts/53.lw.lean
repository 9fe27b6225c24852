-- after: 38.r 39.s 40.t 47.str 48.tx 49.ty 50.tt
/-- a text of the law: words that its parts give, one behind another -/
def partW (f : Nat → Int32) (L p : Nat) : Option Int32 :=
  if kdN f L p = 2 then (if nuP f L p 3 (nI 0) (nI 999) then some (nmI f L p) else none)
  else if wdB f L p 20 = true then some (-1) else if wdB f L p 21 = true then some (-2) else if wdB f L p 22 = true then some (-3) else if wdB f L p 23 = true then some (-4) else if wdB f L p 6 = true then some (-5) else if wdB f L p 24 = true then some (-6) else none
abbrev PW : Type := Except Nat (List Int32 × Nat)
def sumN (f : Nat → Int32) (L : Nat) : Nat → Bool → Nat → PW
  | 0, _, p => .error p
  | n + 1, fst, p => match partW f L p with
    | none => .error p
    | some w => if sgP f L (nx f L p) (nI 43) then (match sumN f L n false (nx f L (nx f L p)) with
        | .error e => .error e
        | .ok q => .ok ((if fst = true then [w] else [w, -9]) ++ q.1, q.2)) else .ok ((if fst = true then [w] else [w, -9]), nx f L p)
def plnF (f : Nat → Int32) (L p : Nat) : PW :=
  if wdB f L p 1 = true then .ok ([-7], nx f L p) else if wdB f L p 19 = true then .ok ([-8], nx f L p)
  else match sumN f L 400 true p with
    | .error e => .error e
    | .ok q => if sgP f L q.2 (nI 60) ∨ sgP f L q.2 (nI 62) then (match sumN f L 400 true (nx f L q.2) with
        | .error e => .error e
        | .ok r => .ok (q.1 ++ r.1 ++ [if sgP f L q.2 (nI 60) then -10 else -11], r.2)) else .error q.2
def pwd (x : Nat) : Int32 := if x = 3 then -12 else if x = 2 then -13 else -14
/-- what waits, the top ahead: 0 open, 1 or, 2 and, 3 not -/
def c0 : List Nat → Nat
  | [] => 0
  | x :: t => (if x = 0 then 1 else 0) + c0 t
def c3 : List Nat → Nat
  | [] => 0
  | x :: t => (if x = 0 ∨ x = 3 then 1 else 0) + c3 t
def c9 : List Nat → Nat
  | [] => 0
  | x :: t => (if x = 0 then 0 else 1) + c9 t
def unW (r : Nat) : List Nat → List Int32 × List Nat
  | [] => ([], [])
  | x :: t => if r ≤ x then (pwd x :: (unW r t).1, (unW r t).2) else ([], x :: t)
def clG (f : Nat → Int32) (L : Nat) : Nat → Nat → List Nat → List Int32 → Nat × List Nat × List Int32
  | 0, p, π, ws => (p, π, ws)
  | n + 1, p, π, ws => if 0 < c0 π ∧ sgP f L p (nI 41) then clG f L n (nx f L p) (unW 1 π).2.tail (ws ++ (unW 1 π).1) else (p, π, ws)
def cdF (f : Nat → Int32) (L : Nat) : Nat → Nat → List Nat → List Int32 → PW
  | 0, p, _, _ => .error p
  | n + 1, p, π, ws => if wdB f L p 18 = true ∨ sgP f L p (nI 40) then (if c3 π < 6 then cdF f L n (nx f L p) ((if sgP f L p (nI 40) then 0 else 3) :: π) ws else .error p)
    else match plnF f L p with
      | .error e => .error e
      | .ok q => let z := clG f L 6 q.2 π (ws ++ q.1)
        if wdB f L z.1 25 = true ∨ wdB f L z.1 26 = true then
          (let r := if wdB f L z.1 25 = true then 2 else 1
           cdF f L n (nx f L z.1) (r :: (unW r z.2.1).2) (z.2.2 ++ (unW r z.2.1).1))
        else if 0 < c0 z.2.1 then .error z.1 else .ok (z.2.2 ++ (unW 1 z.2.1).1, z.1)
/-- by the rules of the text: what is nested k times at most -/
def lpF (f : Nat → Int32) (L : Nat) (st : Nat → PW) (i : Nat) (wd : Int32) : Nat → List Int32 → Nat → PW
  | 0, _, p => .error p
  | n + 1, w, p => if wdB f L p i = true then (match st (nx f L p) with
      | .error e => .error e
      | .ok q => lpF f L st i wd n (w ++ q.1 ++ [wd]) q.2) else .ok (w, p)
def pEv (f : Nat → Int32) (L : Nat) (st : Nat → PW) (p : Nat) : PW := match st p with
  | .error e => .error e
  | .ok q => lpF f L st 25 (-13) 401 q.1 q.2
def pSo (f : Nat → Int32) (L : Nat) (st : Nat → PW) (p : Nat) : PW := match pEv f L st p with
  | .error e => .error e
  | .ok q => lpF f L (pEv f L st) 26 (-14) 401 q.1 q.2
def pAt (f : Nat → Int32) (L : Nat) : Nat → Nat → PW
  | 0, p => if wdB f L p 18 = true ∨ sgP f L p (nI 40) then .error p else plnF f L p
  | k + 1, p => if wdB f L p 18 = true then (match pAt f L k (nx f L p) with
      | .error e => .error e
      | .ok q => .ok (q.1 ++ [-12], q.2))
    else if sgP f L p (nI 40) then (match pSo f L (pAt f L k) (nx f L p) with
      | .error e => .error e
      | .ok q => if sgP f L q.2 (nI 41) then .ok (q.1, nx f L q.2) else .error q.2)
    else plnF f L p
-- how far they go
theorem run_lt {q : Int32 → Bool} {f : Nat → Int32} {L p : Nat} (h : p < L) (h2 : q (f p) = true) : p < run q f L p := by
  rw [run_s h h2]
  exact Nat.lt_of_lt_of_le (Nat.lt_succ_self p) (run_b (Nat.succ_le_of_lt h)).1
theorem en_lt {f : Nat → Int32} {L b : Nat} (h : b < L) : b < enN f L b := by
  unfold enN
  rw [if_neg (by omega)]
  split
  · rename_i q; exact run_lt h q
  · split
    · rename_i q; exact run_lt h q
    · omega
theorem nx_lt {f : Nat → Int32} {L b : Nat} (h : b < L) : b < nx f L b := Nat.lt_of_lt_of_le (en_lt h) (skp_b (enN_b (Nat.le_of_lt h)).2).1
theorem wd_lt {f : Nat → Int32} {L b i : Nat} (h : wdB f L b i = true) : b < L := by
  rw [wdB, Bool.and_eq_true] at h
  have := (of_decide_eq_true h.1).1
  exact kd_lt (f := f) (by omega)
theorem sg_lt {f : Nat → Int32} {L b : Nat} {c : Int32} (h : sgP f L b c) : b < L := kd_lt (f := f) (by have := h.1; omega)
theorem part_lt {f : Nat → Int32} {L p : Nat} {w : Int32} (h : partW f L p = some w) : p < L := by
  unfold partW at h
  by_cases e : kdN f L p = 2
  · exact kd_lt (f := f) (by omega)
  · rw [if_neg e] at h
    split at h
    · rename_i q; exact wd_lt q
    · split at h
      · rename_i q; exact wd_lt q
      · split at h
        · rename_i q; exact wd_lt q
        · split at h
          · rename_i q; exact wd_lt q
          · split at h
            · rename_i q; exact wd_lt q
            · split at h
              · rename_i q; exact wd_lt q
              · exact nomatch h
theorem sum_b {f : Nat → Int32} {L : Nat} : ∀ {n : Nat} {fst : Bool} {p : Nat} {q : List Int32 × Nat}, p ≤ L → sumN f L n fst p = .ok q → q.1.length + p ≤ q.2 + (if fst = true then 0 else 1) ∧ q.2 ≤ L ∧ p < q.2
  | 0, _, _, _, _, h => nomatch h
  | n + 1, fst, p, q, hp, h => by
    unfold sumN at h
    split at h
    · exact nomatch h
    · rename_i w hw
      have h1 := part_lt hw
      have h2 := nx_lt (f := f) h1
      have h3 := (nx_b (f := f) hp).2
      split at h
      · rename_i hs
        have h4 := sg_lt hs
        have h5 := nx_lt (f := f) h4
        have h6 := (nx_b (f := f) h3).2
        split at h
        · exact nomatch h
        · rename_i q2 hq2
          have ih := sum_b h6 hq2
          cases h
          simp only [Bool.false_eq_true, if_false] at ih
          refine ⟨?_, ih.2.1, by have := ih.2.2; show p < q2.2; omega⟩
          show ((if fst = true then [w] else [w, -9]) ++ q2.1).length + p ≤ q2.2 + _
          cases fst
          · simp only [List.length_append, Bool.false_eq_true, if_false, List.length_cons, List.length_nil]; omega
          · simp only [List.length_append, if_true, List.length_cons, List.length_nil]; omega
      · cases h
        refine ⟨?_, h3, h2⟩
        show (if fst = true then [w] else [w, -9]).length + p ≤ nx f L p + _
        cases fst
        · simp only [Bool.false_eq_true, if_false, List.length_cons, List.length_nil]; omega
        · simp only [if_true, List.length_cons, List.length_nil]; omega
theorem pln_b {f : Nat → Int32} {L p : Nat} {q : List Int32 × Nat} (hp : p ≤ L) (h : plnF f L p = .ok q) : q.1.length + p ≤ q.2 ∧ q.2 ≤ L ∧ p < q.2 := by
  unfold plnF at h
  split at h
  · rename_i hw
    cases h
    have := nx_lt (f := f) (wd_lt hw)
    exact ⟨by show 1 + p ≤ _; omega, (nx_b hp).2, this⟩
  · split at h
    · rename_i hw
      cases h
      have := nx_lt (f := f) (wd_lt hw)
      exact ⟨by show 1 + p ≤ _; omega, (nx_b hp).2, this⟩
    · split at h
      · exact nomatch h
      · rename_i q1 hq1
        have b1 := sum_b hp hq1
        simp only [if_true] at b1
        split at h
        · rename_i hs
          have hl : q1.2 < L := hs.elim sg_lt sg_lt
          have h2 := nx_lt (f := f) hl
          have h3 := (nx_b (f := f) b1.2.1).2
          split at h
          · exact nomatch h
          · rename_i r hr
            have b2 := sum_b h3 hr
            simp only [if_true] at b2
            cases h
            refine ⟨?_, b2.2.1, by show p < r.2; omega⟩
            show (q1.1 ++ r.1 ++ [if sgP f L q1.2 (nI 60) then -10 else -11]).length + p ≤ r.2
            simp only [List.length_append, List.length_cons, List.length_nil]
            omega
        · exact nomatch h
