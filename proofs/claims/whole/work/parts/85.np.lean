-- after: 38.r 39.s 40.t 47.str 48.tx 49.ty 50.tt 51.tu 52.tv 53.lw 54.lx 55.ly 56.lz 57.ma 58.mb 59.mc 60.md 61.me 62.mf 70.na 71.nb 72.nc 73.nd 74.ne 75.nf 76.ng 77.nh 78.ni 79.nj 80.nk 81.nl 82.nm 84.no
theorem lw_eq {f : Nat → Int32} {L p : Nat} (hL : L ≤ 400) (hp : p ≤ L) : lwD f L p = lwP f L p := by
  unfold lwD lwP
  cases h : lwH f L p with
  | error e => rfl
  | ok q =>
    have h2 := (lh_b hp).2 _ h
    simp only
    rw [cd_eq hL (nx_b h2).2]
    rfl
theorem lns_eq {f : Nat → Int32} {L : Nat} (hL : L ≤ 400) : ∀ {k p : Nat}, p ≤ L → lnsD f L k p = lnsP f L k p
  | 0, _, _ => rfl
  | k + 1, p, hp => by
    unfold lnsD lnsP
    rw [lw_eq hL hp]
    cases h : lwP f L p with
    | error e => rfl
    | ok q =>
      have h2 := (lp_bb hp).2 _ h
      simp only
      rw [lns_eq hL (nx_b h2).2]
      rfl
theorem law_eq {f : Nat → Int32} {L : Nat} (hL : L ≤ 400) : lawT f L = lawP f L := by
  unfold lawT lawP
  rw [lns_eq hL (skp_b (Nat.zero_le L)).2]
-- how many words
def WB (L : Nat) (st : Nat → PW) : Prop := ∀ p, p ≤ L → ∀ y, st p = .ok y → y.1.length + p ≤ y.2
theorem lp_w {f : Nat → Int32} {L : Nat} {st : Nat → PW} {i : Nat} {wd : Int32} (hB : SB L st) (h : WB L st) : ∀ (n : Nat) (w : List Int32) (p : Nat), p ≤ L → ∀ y, lpF f L st i wd n w p = .ok y → y.1.length + p ≤ y.2 + w.length
  | 0, w, p, hp, y, q => nomatch q
  | n + 1, w, p, hp, y, q => by
    unfold lpF at q
    split at q
    · rename_i a
      have h1 := nx_b (f := f) hp
      have h0 := nx_lt (f := f) (wd_lt a)
      split at q
      · exact nomatch q
      · rename_i r hr
        have h2 := h _ h1.2 _ hr
        have h3 := (hB _ h1.2).2 _ hr
        have ih := lp_w (f := f) (i := i) (wd := wd) hB h n _ _ h3.2 y q
        simp only [List.length_append, List.length_cons, List.length_nil] at ih
        omega
    · cases q; show w.length + p ≤ p + w.length; omega
theorem ev_w {f : Nat → Int32} {L : Nat} {st : Nat → PW} (hB : SB L st) (h : WB L st) : WB L (pEv f L st) := fun p hp y q => by
  unfold pEv at q
  split at q
  · exact nomatch q
  · rename_i r hr
    have h2 := h _ hp _ hr
    have h3 := (hB _ hp).2 _ hr
    have := lp_w (f := f) (i := 25) (wd := -13) hB h 401 _ _ h3.2 y q
    omega
theorem so_w {f : Nat → Int32} {L : Nat} {st : Nat → PW} (hB : SB L st) (h : WB L st) : WB L (pSo f L st) := fun p hp y q => by
  unfold pSo at q
  split at q
  · exact nomatch q
  · rename_i r hr
    have h2 := ev_w hB h _ hp _ hr
    have h3 := (ev_b (f := f) hB _ hp).2 _ hr
    have := lp_w (f := f) (i := 26) (wd := -14) (ev_b (f := f) hB) (ev_w (f := f) hB h) 401 _ _ h3.2 y q
    omega
theorem at_w {f : Nat → Int32} {L : Nat} : ∀ k, WB L (pAt f L k)
  | 0, p, hp, y, q => by
    unfold pAt at q
    split at q
    · exact nomatch q
    · exact (pln_b hp q).1
  | k + 1, p, hp, y, q => by
    have h1 := nx_b (f := f) hp
    unfold pAt at q
    split at q
    · rename_i a
      have h0 := nx_lt (f := f) (wd_lt a)
      split at q
      · exact nomatch q
      · rename_i r hr
        have h2 := at_w k _ h1.2 _ hr
        cases q
        show (r.1 ++ [-12]).length + p ≤ r.2
        simp only [List.length_append, List.length_cons, List.length_nil]
        omega
    · split at q
      · rename_i a
        have h0 := nx_lt (f := f) (sg_lt a)
        split at q
        · exact nomatch q
        · rename_i r hr
          have h2 := so_w (f := f) (at_b k) (at_w k) _ h1.2 _ hr
          have h3 := (so_b (f := f) (at_b (f := f) k) _ h1.2).2 _ hr
          split at q
          · cases q
            have := (nx_b (f := f) h3.2).1
            show r.1.length + p ≤ nx f L r.2
            omega
          · exact nomatch q
      · exact (pln_b hp q).1
def lenS : List LN → Nat
  | [] => 0
  | x :: t => x.2.2.length + lenS t
theorem lh_p {f : Nat → Int32} {L p : Nat} {q : Int32 × Int32 × Nat} (hp : p ≤ L) (h : lwH f L p = .ok q) : p ≤ q.2.2 := by
  have q1 := (nx_b (f := f) hp)
  have q2 := (nx_b (f := f) q1.2)
  unfold lwH at h
  split at h
  · cases h; exact q1.1
  · split at h
    · split at h
      · cases h; exact Nat.le_trans q1.1 q2.1
      · exact nomatch h
    · exact nomatch h
theorem lwP_w {f : Nat → Int32} {L p : Nat} {q : LN × Nat} (hp : p ≤ L) (h : lwP f L p = .ok q) : q.1.2.2.length + p ≤ q.2 := by
  unfold lwP at h
  split at h
  · exact nomatch h
  · rename_i r hr
    have h2 := (lh_b hp).2 _ hr
    have h3 := lh_p hp hr
    split at h
    · have h4 := nx_b (f := f) h2
      split at h
      · exact nomatch h
      · rename_i y hy
        have := so_w (f := f) (at_b (f := f) 6) (at_w 6) _ h4.2 _ hy
        cases h
        show y.1.length + p ≤ y.2
        omega
    · cases h; show 0 + p ≤ r.2.2; omega
theorem lns_w {f : Nat → Int32} {L : Nat} : ∀ {k p : Nat} {t : List LN}, p ≤ L → lnsP f L k p = .ok t → lenS t + p ≤ L ∧ t.length ≤ k
  | 0, _, _, _, h => nomatch h
  | k + 1, p, t, hp, h => by
    unfold lnsP at h
    split at h
    · exact nomatch h
    · rename_i q hq
      have h2 := (lp_bb hp).2 _ hq
      have h3 := lwP_w hp hq
      split at h
      · cases h
        show q.1.2.2.length + 0 + p ≤ L ∧ 1 ≤ k + 1
        omega
      · split at h
        · have h4 := nx_b (f := f) h2
          split at h
          · exact nomatch h
          · rename_i r hr
            have ih := lns_w h4.2 hr
            cases h
            show q.1.2.2.length + lenS r + p ≤ L ∧ r.length + 1 ≤ k + 1
            omega
        · exact nomatch h
theorem law_w {f : Nat → Int32} {L : Nat} {t : List LN} (h : lawP f L = .ok t) : lenS t ≤ L ∧ t.length ≤ 12 := by
  unfold lawP at h
  split at h
  · cases h; exact ⟨Nat.zero_le _, Nat.zero_le _⟩
  · have := lns_w (skp_b (Nat.zero_le L)).2 h
    omega
/-- the lines t as the law c holds them, from line l and word n on -/
def LWp (v : Sto) (c : Nat) : Nat → Nat → List LN → Prop
  | _, _, [] => True
  | l, n, x :: t => v (c + 3) l = x.1 ∧ v (c + 4) l = x.2.1 ∧ v (c + 2) l = nI n ∧ v (c + 2) (l + 1) = nI (n + x.2.2.length) ∧ (∀ i, i < x.2.2.length → v (c + 1) (n + i) = x.2.2.getD i 0) ∧ LWp v c (l + 1) (n + x.2.2.length) t
theorem adW_lo {l : Nat} : ∀ (ws : List Int32) (u : Sto) (n j : Nat), j < n → adW u l n ws 44 j = u 44 j
  | [], _, _, _, _ => rfl
  | w :: ws, u, n, j, h => by
    show adW (adS u l n w) l (n + 1) ws 44 j = u 44 j
    rw [adW_lo ws _ _ _ (by omega)]
    unfold adS
    split
    · rw [su_cell _ _ (by decide), su_i (by omega)]
    · rfl
theorem adW_at {l : Nat} : ∀ (ws : List Int32) (u : Sto) (n i : Nat), n + ws.length ≤ 400 → i < ws.length → adW u l n ws 44 (n + i) = ws.getD i 0
  | [], _, _, _, _, h => absurd h (by simp)
  | w :: ws, u, n, i, hn, h => by
    have hn : n + (ws.length + 1) ≤ 400 := hn
    show adW (adS u l n w) l (n + 1) ws 44 (n + i) = _
    cases i with
    | zero =>
      rw [Nat.add_zero, adW_lo ws _ _ _ (by omega)]
      unfold adS
      rw [if_pos (by omega), su_cell _ _ (by decide)]
      exact su_k (u := u) (k := 44) (j := n)
    | succ i =>
      have h : i + 1 < ws.length + 1 := h
      have := adW_at (l := l) ws (adS u l n w) (n + 1) i (by omega) (by omega)
      rw [show n + 1 + i = n + (i + 1) by omega] at this
      rw [this]; rfl
theorem adW_45 {l : Nat} : ∀ (ws : List Int32) (u : Sto) (n j : Nat), j ≠ l → adW u l n ws 45 j = u 45 j
  | [], _, _, _, _ => rfl
  | w :: ws, u, n, j, h => by
    show adW (adS u l n w) l (n + 1) ws 45 j = u 45 j
    rw [adW_45 ws _ _ _ h]
    unfold adS
    split
    · rw [su_i h, su_cell _ _ (by decide)]
    · rfl
theorem lnA_lo : ∀ (t : List LN) (u : Sto) (l n : Nat), (∀ j, j < l → lnA u l n t 46 j = u 46 j ∧ lnA u l n t 47 j = u 47 j) ∧ (∀ j, j ≤ l → lnA u l n t 45 j = u 45 j) ∧ ∀ j, j < n → lnA u l n t 44 j = u 44 j
  | [], u, l, n => ⟨fun _ _ => ⟨rfl, rfl⟩, fun _ _ => rfl, fun _ _ => rfl⟩
  | x :: t, u, l, n => by
    have ih := lnA_lo t (lnS u l n x) (l + 1) (n + x.2.2.length)
    refine ⟨fun j hj => ?_, fun j hj => ?_, fun j hj => ?_⟩
    · have := ih.1 j (by omega)
      have e1 : lnS u l n x 46 j = u 46 j := by
        unfold lnS
        rw [adW_c (by decide) (by decide)]
        unfold alS
        rw [su_cell _ _ (by decide), su_cell _ _ (by decide), su_cell _ _ (by decide), su_i (by omega)]
      have e2 : lnS u l n x 47 j = u 47 j := by
        unfold lnS
        rw [adW_c (by decide) (by decide)]
        unfold alS
        rw [su_cell _ _ (by decide), su_cell _ _ (by decide), su_i (by omega), su_cell _ _ (by decide)]
      exact ⟨this.1.trans e1, this.2.trans e2⟩
    · have := ih.2.1 j (by omega)
      have e1 : lnS u l n x 45 j = u 45 j := by
        unfold lnS
        rw [adW_45 _ _ _ _ (by omega)]
        unfold alS
        rw [su_cell _ _ (by decide), su_i (by omega), su_cell _ _ (by decide), su_cell _ _ (by decide)]
      exact this.trans e1
    · have := ih.2.2 j (by omega)
      have e1 : lnS u l n x 44 j = u 44 j := by
        unfold lnS
        rw [adW_lo _ _ _ _ hj]
        unfold alS
        rw [su_cell _ _ (by decide), su_cell _ _ (by decide), su_cell _ _ (by decide), su_cell _ _ (by decide)]
      exact this.trans e1
theorem lnA_LW : ∀ (t : List LN) (u : Sto) (l n : Nat), u 45 l = nI n → n + lenS t ≤ 400 → LWp (lnA u l n t) 43 l n t
  | [], _, _, _, _, _ => trivial
  | x :: t, u, l, n, hn, hs => by
    have hs : n + (x.2.2.length + lenS t) ≤ 400 := hs
    have lo := lnA_lo t (lnS u l n x) (l + 1) (n + x.2.2.length)
    have ih := lnA_LW t (lnS u l n x) (l + 1) (n + x.2.2.length) (lnS_n hn (by omega)) (by omega)
    refine ⟨?_, ?_, ?_, ?_, fun i hi => ?_, ih⟩
    · refine (lo.1 l (by omega)).1.trans ?_
      unfold lnS
      rw [adW_c (by decide) (by decide)]
      unfold alS
      rw [su_cell _ _ (by decide), su_cell _ _ (by decide), su_cell _ _ (by decide), su_k]
    · refine (lo.1 l (by omega)).2.trans ?_
      unfold lnS
      rw [adW_c (by decide) (by decide)]
      unfold alS
      rw [su_cell _ _ (by decide), su_cell _ _ (by decide), su_k]
    · refine (lo.2.1 l (by omega)).trans ?_
      unfold lnS
      rw [adW_45 _ _ _ _ (by omega)]
      unfold alS
      rw [su_cell _ _ (by decide), su_i (by omega), su_cell _ _ (by decide), su_cell _ _ (by decide)]
      exact hn
    · exact (lo.2.1 (l + 1) (Nat.le_refl _)).trans (lnS_n hn (by omega))
    · refine (lo.2.2 (n + i) (by omega)).trans ?_
      exact adW_at _ _ _ _ (by omega) hi
theorem LWp_mono {v w : Sto} {c d : Nat} (h : ∀ j, j < 13 → v (c + 2) j = w (d + 2) j) (h1 : ∀ j, j < 400 → v (c + 1) j = w (d + 1) j) (h3 : ∀ j, j < 12 → v (c + 3) j = w (d + 3) j ∧ v (c + 4) j = w (d + 4) j) : ∀ (t : List LN) (l n : Nat), l + t.length ≤ 12 → n + lenS t ≤ 400 → LWp v c l n t → LWp w d l n t
  | [], _, _, _, _, _ => trivial
  | x :: t, l, n, hl, hn, q => by
    have hl : l + (t.length + 1) ≤ 12 := hl
    have hn : n + (x.2.2.length + lenS t) ≤ 400 := hn
    obtain ⟨a1, a2, a3, a4, a5, a6⟩ := q
    refine ⟨(h3 l (by omega)).1.symm.trans a1, (h3 l (by omega)).2.symm.trans a2, (h l (by omega)).symm.trans a3, (h (l + 1) (by omega)).symm.trans a4, fun i hi => (h1 (n + i) (by omega)).symm.trans (a5 i hi), LWp_mono h h1 h3 t _ _ (by omega) (by omega) a6⟩
-- what the lines say
theorem run_rn {fa ws : Nat → Int32} {b : Nat} : ∀ (l : List Int32), (∀ i, i < l.length → ws (b + i) = l.getD i 0) → runL fa ws b l.length = rn fa l [] := by
  intro l
  have key : ∀ k, k ≤ l.length → (∀ i, i < l.length → ws (b + i) = l.getD i 0) → runL fa ws b k = rn fa (l.take k) [] := by
    intro k
    induction k with
    | zero => intro _ _; rfl
    | succ k ih =>
      intro hk h
      show stL fa (ws (b + k)) (runL fa ws b k) = _
      rw [ih (by omega) h, h k (by omega), List.take_succ_eq_append_getElem (by omega), rn_app]
      show _ = stL fa l[k] (rn fa (l.take k) [])
      rw [List.getD_eq_getElem?_getD, List.getElem?_eq_getElem (by omega)]; rfl
  intro h
  have := key l.length (Nat.le_refl _) h
  rw [List.take_length] at this
  exact this
def brL (fa : Nat → Int32) (t : List LN) : Bool := t.any (fun x => decide (x.1 = nI 0) && hoB fa x.2.2)
def slL (fa : Nat → Int32) (kd : Int32) : List LN → Int32 → Int32
  | [], s => s
  | x :: t, s => slL fa kd t (s + (if x.1 = kd ∧ hoB fa x.2.2 = true then x.2.1 else 0))
theorem LW_hld {v : Sto} {fa : Nat → Int32} {l n : Nat} {x : LN} {t : List LN} (hn : n + x.2.2.length < 2 ^ 31) (h : LWp v 19 l n (x :: t)) : hldB fa v l = hoB fa x.2.2 := by
  obtain ⟨a1, a2, a3, a4, a5, a6⟩ := h
  rw [hld_eq a3 a4 (by omega) (by omega), Nat.add_sub_cancel_left, run_rn x.2.2 a5]
  rfl
