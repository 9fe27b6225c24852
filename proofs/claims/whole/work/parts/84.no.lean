-- after: 38.r 39.s 40.t 47.str 48.tx 49.ty 50.tt 53.lw 54.lx 55.ly 56.lz 59.mc 62.mf 70.na 71.nb 72.nc 73.nd 74.ne 75.nf 76.ng 77.nh 78.ni 79.nj
/-- behind an atom: what the class does, with fuel n for what comes -/
def kF (f : Nat → Int32) (L n q : Nat) (π : List Nat) (ws : List Int32) : PW :=
  if wdB f L (clG f L 6 q π ws).1 25 = true ∨ wdB f L (clG f L 6 q π ws).1 26 = true then
    cdF f L n (nx f L (clG f L 6 q π ws).1) ((if wdB f L (clG f L 6 q π ws).1 25 = true then 2 else 1) :: (unW (if wdB f L (clG f L 6 q π ws).1 25 = true then 2 else 1) (clG f L 6 q π ws).2.1).2) ((clG f L 6 q π ws).2.2 ++ (unW (if wdB f L (clG f L 6 q π ws).1 25 = true then 2 else 1) (clG f L 6 q π ws).2.1).1)
  else if 0 < c0 (clG f L 6 q π ws).2.1 then .error (clG f L 6 q π ws).1 else .ok ((clG f L 6 q π ws).2.2 ++ (unW 1 (clG f L 6 q π ws).2.1).1, (clG f L 6 q π ws).1)
theorem cd_k {f : Nat → Int32} {L n p : Nat} {π : List Nat} {ws : List Int32} {q : List Int32 × Nat} (h : ¬ (wdB f L p 18 = true ∨ sgP f L p (nI 40))) (h6 : plnF f L p = .ok q) : cdF f L (n + 1) p π ws = kF f L n q.2 π (ws ++ q.1) := by
  rw [cdF, if_neg h, h6]
  rfl
theorem cl_fu {f : Nat → Int32} {L : Nat} : ∀ (m q : Nat) (π : List Nat) (ws : List Int32), c0 π ≤ m → clG f L m q π ws = clG f L (c0 π) q π ws
  | 0, q, π, ws, h => by rw [show c0 π = 0 by omega]
  | m + 1, q, π, ws, h => by
    by_cases e : 0 < c0 π ∧ sgP f L q (nI 41)
    · obtain ⟨t, ht, h4, _, _⟩ := un_0 e.1
      have e2 : c0 π = c0 t + 1 := h4
      rw [clG, if_pos e]
      conv => rhs; rw [e2, clG, if_pos e]
      rw [ht]
      exact cl_fu m (nx f L q) t (ws ++ (unW 1 π).1) (by omega)
    · rw [clG, if_neg e]
      cases hc : c0 π with
      | zero => rfl
      | succ c => rw [clG, if_neg e]
theorem cl_1 {f : Nat → Int32} {L q : Nat} {π t : List Nat} {ws : List Int32} (h6 : c0 π ≤ 6) (e : 0 < c0 π ∧ sgP f L q (nI 41)) (ht : (unW 1 π).2 = 0 :: t) (hc : c0 π = c0 t + 1) : clG f L 6 q π ws = clG f L 6 (nx f L q) t (ws ++ (unW 1 π).1) := by
  rw [clG, if_pos e, ht]
  show clG f L 5 (nx f L q) t (ws ++ (unW 1 π).1) = _
  rw [cl_fu 5 _ t _ (by omega), cl_fu 6 _ t _ (by omega)]
theorem cl_n {f : Nat → Int32} {L q : Nat} {π : List Nat} {ws : List Int32} (e : ¬ (0 < c0 π ∧ sgP f L q (nI 41))) : clG f L 6 q π ws = (q, π, ws) := by
  rw [clG, if_neg e]
theorem c0_c {x : Nat} {π : List Nat} (h : 1 ≤ x) : c0 (x :: π) = c0 π := by
  show (if x = 0 then 1 else 0) + c0 π = c0 π
  rw [if_neg (by omega)]; omega
theorem un_p {r x : Nat} {π : List Nat} (h : r ≤ x) : unW r (x :: π) = (pwd x :: (unW r π).1, (unW r π).2) := by rw [unW, if_pos h]
theorem un_n {r : Nat} : ∀ {π : List Nat}, hdN π < r → unW r π = ([], π)
  | [], _ => rfl
  | x :: t, h => by
    have h : x < r := h
    rw [unW, if_neg (by omega)]
theorem cl_pop {f : Nat → Int32} {L q x : Nat} {π : List Nat} {ws : List Int32} (h : 1 ≤ x) (e : 0 < c0 π ∧ sgP f L q (nI 41)) : clG f L 6 q (x :: π) ws = clG f L 6 q π (ws ++ [pwd x]) := by
  rw [clG, if_pos (by rw [c0_c h]; exact e)]
  conv => rhs; rw [clG, if_pos e]
  rw [un_p h, List.append_assoc]; rfl
theorem k_pop {f : Nat → Int32} {L n q x : Nat} {π : List Nat} {ws : List Int32} (h : 1 ≤ x) (h2 : 2 ≤ x ∨ ¬ wdB f L q 25 = true) : kF f L n q (x :: π) ws = kF f L n q π (ws ++ [pwd x]) := by
  by_cases e : 0 < c0 π ∧ sgP f L q (nI 41)
  · unfold kF
    rw [cl_pop h e]
  · unfold kF
    rw [cl_n (π := x :: π) (by rw [c0_c h]; exact e), cl_n e]
    simp only
    by_cases a : wdB f L q 25 = true
    · have h3 : 2 ≤ x := h2.resolve_right (fun z => z a)
      rw [if_pos (Or.inl a), if_pos (Or.inl a), if_pos a, un_p h3, List.append_assoc]; rfl
    · by_cases b : wdB f L q 26 = true
      · rw [if_pos (Or.inr b), if_pos (Or.inr b), if_neg a, un_p h, List.append_assoc]; rfl
      · have nab : ¬ (wdB f L q 25 = true ∨ wdB f L q 26 = true) := fun z => z.elim a b
        rw [if_neg nab, if_neg nab, c0_c h, un_p h, List.append_assoc]; rfl
theorem k_cl {f : Nat → Int32} {L n q : Nat} {π t : List Nat} {ws : List Int32} (h6 : c0 π ≤ 6) (e : 0 < c0 π ∧ sgP f L q (nI 41)) (ht : (unW 1 π).2 = 0 :: t) (hc : c0 π = c0 t + 1) : kF f L n q π ws = kF f L n (nx f L q) t (ws ++ (unW 1 π).1) := by
  unfold kF
  rw [cl_1 h6 e ht hc]
theorem wd_sg {f : Nat → Int32} {L q i : Nat} {c : Int32} (h : wdB f L q i = true) : ¬ sgP f L q c := fun z => by
  have := (wd_k h).1
  have := z.1
  omega
theorem k_and {f : Nat → Int32} {L n q : Nat} {π : List Nat} {ws : List Int32} (h : wdB f L q 25 = true) (hd : hdN π < 2) : kF f L n q π ws = cdF f L n (nx f L q) (2 :: π) ws := by
  unfold kF
  rw [cl_n (fun z => wd_sg h z.2)]
  simp only
  rw [if_pos (Or.inl h), if_pos h, un_n hd, List.append_nil]
theorem k_or {f : Nat → Int32} {L n q : Nat} {π : List Nat} {ws : List Int32} (h : ¬ wdB f L q 25 = true) (h2 : wdB f L q 26 = true) (hd : hdN π < 1) : kF f L n q π ws = cdF f L n (nx f L q) (1 :: π) ws := by
  unfold kF
  rw [cl_n (fun z => wd_sg h2 z.2)]
  simp only
  rw [if_pos (Or.inr h2), if_neg h, un_n hd, List.append_nil]
/-- what is said of a reader st that stands for 'expect an atom' above π -/
def SP (f : Nat → Int32) (L : Nat) (st : Nat → PW) (ok : List Nat → Prop) (nt : Nat → Prop) : Prop := ∀ (p n : Nat) (π : List Nat) (ws : List Int32), p ≤ L → L < n + p → ok π → (∀ e, st p = .error e → cdF f L n p π ws = .error e) ∧ ∀ y, st p = .ok y → ∃ n2, L < n2 + y.2 ∧ nt y.2 ∧ cdF f L n p π ws = kF f L n2 y.2 π (ws ++ y.1)
def okA (k : Nat) (π : List Nat) : Prop := gdL π ∧ c3 π + k = 6
theorem lp_sp {f : Nat → Int32} {L i x : Nat} {st : Nat → PW} {ok okb : List Nat → Prop} {nt ntb : Nat → Prop} (hi : wdB f L 0 0 = wdB f L 0 0) (hB : SB L st) (hS : SP f L st ok nt) (hx : 1 ≤ x)
    (hk : ∀ (n q : Nat) (π : List Nat) (ws : List Int32), nt q → okb π → wdB f L q i = true → kF f L n q π ws = cdF f L n (nx f L q) (x :: π) ws)
    (hok : ∀ π, okb π → ok (x :: π)) (hpop : ∀ q, nt q → 2 ≤ x ∨ ¬ wdB f L q 25 = true) (hnt : ∀ q, nt q → ¬ wdB f L q i = true → ntb q) :
    ∀ (m n q : Nat) (π : List Nat) (ws w : List Int32), q ≤ L → L < m + q → L < n + q → okb π → nt q → (∀ e, lpF f L st i (pwd x) m w q = .error e → kF f L n q π (ws ++ w) = .error e) ∧ ∀ y, lpF f L st i (pwd x) m w q = .ok y → ∃ n2, L < n2 + y.2 ∧ ntb y.2 ∧ kF f L n q π (ws ++ w) = kF f L n2 y.2 π (ws ++ y.1)
  | 0, n, q, π, ws, w, hq, hm, _, _, _ => absurd hm (by omega)
  | m + 1, n, q, π, ws, w, hq, hm, hn, hb, ht => by
    by_cases a : wdB f L q i = true
    · have hl := wd_lt a
      have h1 := nx_lt (f := f) hl
      have h2 := (nx_b (f := f) hq).2
      have S := hS (nx f L q) n (x :: π) (ws ++ w) h2 (by omega) (hok π hb)
      rw [hk n q π (ws ++ w) ht hb a]
      unfold lpF
      rw [if_pos a]
      split
      · rename_i e he
        exact ⟨fun e2 q2 => by cases q2; exact S.1 _ he, fun y q2 => nomatch q2⟩
      · rename_i r hr
        obtain ⟨n2, hn2, ht2, hc⟩ := S.2 _ hr
        have hb2 := (hB _ h2).2 _ hr
        rw [hc, k_pop hx (hpop _ ht2)]
        have ih := lp_sp hi hB hS hx hk hok hpop hnt m n2 r.2 π ws (w ++ r.1 ++ [pwd x]) hb2.2 (by omega) hn2 hb ht2
        rw [show ws ++ w ++ r.1 ++ [pwd x] = ws ++ (w ++ r.1 ++ [pwd x]) by simp [List.append_assoc]]
        exact ih
    · unfold lpF
      rw [if_neg a]
      exact ⟨fun e q2 => (nomatch q2), fun y q2 => by cases q2; exact ⟨n, hn, hnt q ht a, rfl⟩⟩
theorem ev_sp {f : Nat → Int32} {L k : Nat} (hL : L ≤ 400) (hS : SP f L (pAt f L k) (okA k) (fun _ => True)) : SP f L (pEv f L (pAt f L k)) (fun π => okA k π ∧ hdN π < 2) (fun q => ¬ wdB f L q 25 = true) := by
  intro p n π ws hp hn ho
  have S := hS p n π ws hp hn ho.1
  unfold pEv
  split
  · rename_i e he
    exact ⟨fun e2 q2 => by cases q2; exact S.1 _ he, fun y q2 => nomatch q2⟩
  · rename_i r hr
    obtain ⟨n2, hn2, _, hc⟩ := S.2 _ hr
    have hb2 := (at_b (f := f) k _ hp).2 _ hr
    rw [hc]
    exact lp_sp (x := 2) (okb := fun π => okA k π ∧ hdN π < 2) (ntb := fun q => ¬ wdB f L q 25 = true) rfl (at_b k) hS (by decide) (fun n q π ws _ h a => k_and a h.2) (fun π h => ⟨⟨h.1.1, by decide, fun _ => h.2, fun z => absurd z (by decide)⟩, by have := h.1.2; show (if 2 = 0 ∨ 2 = 3 then 1 else 0) + c3 π + k = 6; rw [if_neg (by decide)]; omega⟩) (fun q _ => Or.inl (by decide)) (fun q _ a => a) 401 n2 r.2 π ws r.1 hb2.2 (by omega) hn2 ho trivial
theorem so_sp {f : Nat → Int32} {L k : Nat} (hL : L ≤ 400) (hS : SP f L (pAt f L k) (okA k) (fun _ => True)) : SP f L (pSo f L (pAt f L k)) (fun π => okA k π ∧ hdN π < 1) (fun q => ¬ wdB f L q 25 = true ∧ ¬ wdB f L q 26 = true) := by
  intro p n π ws hp hn ho
  have hE := ev_sp hL hS
  have S := hE p n π ws hp hn ⟨ho.1, by have := ho.2; omega⟩
  unfold pSo
  split
  · rename_i e he
    exact ⟨fun e2 q2 => by cases q2; exact S.1 _ he, fun y q2 => nomatch q2⟩
  · rename_i r hr
    obtain ⟨n2, hn2, ht2, hc⟩ := S.2 _ hr
    have hb2 := (ev_b (f := f) (at_b (f := f) k) _ hp).2 _ hr
    rw [hc]
    exact lp_sp (x := 1) (okb := fun π => okA k π ∧ hdN π < 1) (ntb := fun q => ¬ wdB f L q 25 = true ∧ ¬ wdB f L q 26 = true) rfl (ev_b (at_b k)) hE (by decide) (fun n q π ws t h a => k_or t a h.2) (fun π h => ⟨⟨⟨h.1.1, by decide, fun z => absurd z (by decide), fun _ => h.2⟩, by have := h.1.2; show (if 1 = 0 ∨ 1 = 3 then 1 else 0) + c3 π + k = 6; rw [if_neg (by decide)]; omega⟩, by show 1 < 2; decide⟩) (fun q t => Or.inr t) (fun q t a => ⟨t, a⟩) 401 n2 r.2 π ws r.1 hb2.2 (by omega) hn2 ho ht2
theorem pl_sp {f : Nat → Int32} {L p n : Nat} {π : List Nat} {ws : List Int32} (hp : p ≤ L) (hn : L < n + p) (h : ¬ (wdB f L p 18 = true ∨ sgP f L p (nI 40))) : (∀ e, plnF f L p = .error e → cdF f L n p π ws = .error e) ∧ ∀ y, plnF f L p = .ok y → ∃ n2, L < n2 + y.2 ∧ True ∧ cdF f L n p π ws = kF f L n2 y.2 π (ws ++ y.1) := by
  obtain ⟨m, rfl⟩ : ∃ m, n = m + 1 := ⟨n - 1, by omega⟩
  exact ⟨fun e he => cd_pe h he, fun y hy => ⟨m, by have := (pln_b hp hy).2.2; omega, trivial, cd_k h hy⟩⟩
theorem at_sq {f : Nat → Int32} {L : Nat} (hL : L ≤ 400) : ∀ k, SP f L (pAt f L k) (okA k) (fun _ => True)
  | 0, p, n, π, ws, hp, hn, ho => by
    obtain ⟨m, rfl⟩ : ∃ m, n = m + 1 := ⟨n - 1, by omega⟩
    unfold pAt
    split
    · rename_i a
      exact ⟨fun e q => by cases q; exact cd_er a (by have := ho.2; omega), fun y q => nomatch q⟩
    · rename_i a
      exact pl_sp hp hn a
  | k + 1, p, n, π, ws, hp, hn, ho => by
    obtain ⟨m, rfl⟩ : ∃ m, n = m + 1 := ⟨n - 1, by omega⟩
    have h5 : c3 π < 6 := by have := ho.2; omega
    have h2 := (nx_b (f := f) hp).2
    unfold pAt
    by_cases a : wdB f L p 18 = true
    · rw [if_pos a]
      have hl := nx_lt (f := f) (wd_lt a)
      rw [cd_go (Or.inl a) h5, if_neg (wd_sg a)]
      have S := at_sq (f := f) hL k (nx f L p) m (3 :: π) ws h2 (by omega) ⟨⟨ho.1, by decide, fun z => absurd z (by decide), fun z => absurd z (by decide)⟩, by have := ho.2; show (if 3 = 0 ∨ 3 = 3 then 1 else 0) + c3 π + k = 6; rw [if_pos (by decide)]; omega⟩
      split
      · rename_i e he
        exact ⟨fun e2 q2 => by cases q2; exact S.1 _ he, fun y q2 => nomatch q2⟩
      · rename_i r hr
        obtain ⟨n2, hn2, _, hc⟩ := S.2 _ hr
        refine ⟨fun e2 q2 => (nomatch q2), fun y q2 => ?_⟩
        cases q2
        refine ⟨n2, hn2, trivial, ?_⟩
        rw [hc, k_pop (by decide) (Or.inl (by decide)), List.append_assoc]; rfl
    · rw [if_neg a]
      by_cases b : sgP f L p (nI 40)
      · rw [if_pos b]
        have hl := nx_lt (f := f) (sg_lt b)
        rw [cd_go (Or.inr b) h5, if_pos b]
        have hc3 : c3 (0 :: π) = c3 π + 1 := by show (if 0 = 0 ∨ 0 = 3 then 1 else 0) + c3 π = _; rw [if_pos (by decide)]; omega
        have hc0 : c0 (0 :: π) = c0 π + 1 := by show (if 0 = 0 then 1 else 0) + c0 π = _; rw [if_pos rfl]; omega
        have S := so_sp hL (at_sq (f := f) hL k) (nx f L p) m (0 :: π) ws h2 (by omega) ⟨⟨⟨ho.1, by decide, fun z => absurd z (by decide), fun z => absurd z (by decide)⟩, by have := ho.2; omega⟩, by show 0 < 1; decide⟩
        split
        · rename_i e he
          exact ⟨fun e2 q2 => by cases q2; exact S.1 _ he, fun y q2 => nomatch q2⟩
        · rename_i r hr
          obtain ⟨n2, hn2, ht2, hc⟩ := S.2 _ hr
          have hb2 := (so_b (f := f) (at_b (f := f) k) _ h2).2 _ hr
          have h06 : c0 (0 :: π) ≤ 6 := by have := c0_le (π := 0 :: π); have := ho.2; omega
          split
          · rename_i d
            refine ⟨fun e2 q2 => (nomatch q2), fun y q2 => ?_⟩
            cases q2
            refine ⟨n2, by have := (nx_b (f := f) hb2.2).1; show L < n2 + nx f L r.2; omega, trivial, ?_⟩
            rw [hc, k_cl h06 ⟨by omega, d⟩ (t := π) (by rw [unW, if_neg (by decide)]) hc0]
            show kF f L n2 (nx f L r.2) π (ws ++ r.1 ++ (unW 1 (0 :: π)).1) = _
            rw [unW, if_neg (by decide), List.append_nil]
          · rename_i d
            refine ⟨fun e2 q2 => ?_, fun y q2 => nomatch q2⟩
            cases q2
            rw [hc]
            unfold kF
            rw [cl_n (fun z => d z.2)]
            simp only
            rw [if_neg (fun z => z.elim ht2.1 ht2.2), if_pos (by omega)]
      · rw [if_neg b]
        exact pl_sp hp hn (fun z => z.elim a b)
theorem cd_eq {f : Nat → Int32} {L p : Nat} (hL : L ≤ 400) (hp : p ≤ L) : cdF f L 401 p [] [] = pSo f L (pAt f L 6) p := by
  have S := so_sp hL (at_sq (f := f) hL 6) p 401 [] [] hp (by omega) ⟨⟨trivial, rfl⟩, by show 0 < 1; decide⟩
  cases h : pSo f L (pAt f L 6) p with
  | error e => exact S.1 e h
  | ok y =>
    obtain ⟨n2, _, ht2, hc⟩ := S.2 y h
    rw [hc]
    unfold kF
    rw [cl_n (fun z => absurd z.1 (by decide))]
    simp only
    rw [if_neg (fun z => z.elim ht2.1 ht2.2), if_neg (by decide)]
    simp [unW]
