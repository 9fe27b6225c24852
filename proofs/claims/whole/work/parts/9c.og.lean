-- after: 9b.of
/-! a town and the model's row, side by side, through each small change -/
abbrev J (v : Sto) (g : Nat → Int32) (T W : Nat) : Prop := (LKt v 3 g) ∧ (LKr v 10 g T W) ∧ (LKl v g) ∧ (TI v 3 10 T) ∧ (LGt v 3 g) ∧ (RI v 10 T W)
theorem J.t {v : Sto} {g : Nat → Int32} {T W : Nat} (h : J v g T W) : LKt v 3 g := h.1
theorem J.r {v : Sto} {g : Nat → Int32} {T W : Nat} (h : J v g T W) : LKr v 10 g T W := h.2.1
theorem J.l {v : Sto} {g : Nat → Int32} {T W : Nat} (h : J v g T W) : LKl v g := h.2.2.1
theorem J.ti {v : Sto} {g : Nat → Int32} {T W : Nat} (h : J v g T W) : TI v 3 10 T := h.2.2.2.1
theorem J.lg {v : Sto} {g : Nat → Int32} {T W : Nat} (h : J v g T W) : LGt v 3 g := h.2.2.2.2.1
theorem J.ri {v : Sto} {g : Nat → Int32} {T W : Nat} (h : J v g T W) : RI v 10 T W := h.2.2.2.2.2
theorem J.k {v u : Sto} {T W : Nat} (h : J v (u 179) T W) : LK v u T W := ⟨h.t, h.r, h.l, h.ti.cnt⟩
def tnJ (j : Nat) : Bool := decide (j = 4 ∨ j = 5 ∨ j = 6 ∨ j = 10 ∨ j = 11 ∨ (16 ≤ j ∧ j < 56 ∧ (j - 16) % 4 = 0) ∨ (88 ≤ j ∧ j < 760 ∧ ¬ (j - 88) % 4 = 3) ∨ (760 ≤ j ∧ j < 1080))
theorem tn_f {j : Nat} (h : ¬ (j = 4 ∨ j = 5 ∨ j = 6 ∨ j = 10 ∨ j = 11 ∨ (16 ≤ j ∧ j < 56 ∧ (j - 16) % 4 = 0) ∨ (88 ≤ j ∧ j < 760 ∧ ¬ (j - 88) % 4 = 3) ∨ (760 ≤ j ∧ j < 1080))) : tnJ j = false := decide_eq_false h
theorem fr_r {v v' : Sto} {g g' : Nat → Int32} {T W : Nat} (h : LKr v 10 g T W) (hv : ∀ k, 10 ≤ k → k ≤ 23 → v' k = v k) (hg : ∀ j, tnJ j = false → g' j = g j) : LKr v' 10 g' T W := by
  have hT := h.hT
  have hW := h.hW
  refine ⟨?_, ?_, ?_, hT, ?_, ?_, ?_, ?_, hW, ?_, ?_, ?_, ?_, ?_, ?_, ?_, ?_⟩
  · rw [hg 0 (by decide), hv 10 (by omega) (by omega)]; exact h.tx
  · rw [hg 1 (by decide)]; exact h.ten
  · rw [hv 10 (by omega) (by omega)]; exact h.vt
  · rw [hg 7 (by decide), hv 10 (by omega) (by omega)]; exact h.told
  · rw [hg 8 (by decide), hv 10 (by omega) (by omega)]; exact h.cha
  · rw [hg 9 (by decide)]; exact h.wan
  · rw [hv 10 (by omega) (by omega)]; exact h.vw
  · intro a ha; rw [hg _ (tn_f (by omega)), hv _ (by omega) (by omega)]; exact h.lfr a ha
  · intro a ha; rw [hg _ (tn_f (by omega)), hv _ (by omega) (by omega)]; exact h.lto a ha
  · intro a ha; rw [hg _ (tn_f (by omega)), hv _ (by omega) (by omega)]; exact h.mot a ha
  · intro a ha; rw [hg _ (tn_f (by omega)), hv _ (by omega) (by omega)]; exact h.sht a ha
  · intro a ha; rw [hg _ (tn_f (by omega)), hv _ (by omega) (by omega)]; exact h.w0 a ha
  · intro a ha; rw [hg _ (tn_f (by omega)), hv _ (by omega) (by omega)]; exact h.w1 a ha
  · intro a ha; rw [hg _ (tn_f (by omega)), hv _ (by omega) (by omega)]; exact h.w2 a ha
  · intro a ha; rw [hg _ (tn_f (by omega)), hv _ (by omega) (by omega)]; exact h.w3 a ha
theorem fr_l {v v' : Sto} {g g' : Nat → Int32} (h : LKl v g) (hv : ∀ k, 10 ≤ k → k ≤ 23 → v' k = v k) (hg : ∀ j, tnJ j = false → g' j = g j) : LKl v' g' := by
  have e : (fun k => g' (1080 + k)) = fun k => g (1080 + k) := by funext k; exact hg _ (tn_f (by omega))
  rcases h with ⟨a, b⟩ | ⟨t, L, hL, h5, h2, h3, hP, hW⟩
  · exact Or.inl ⟨by rw [hv 19 (by omega) (by omega)]; exact a, by rw [hg 2 (by decide)]; exact b⟩
  · have hw := law_w hP
    refine Or.inr ⟨t, L, hL, by rw [hv 19 (by omega) (by omega)]; exact h5, by rw [hg 2 (by decide)]; exact h2, by rw [hg 3 (by decide)]; exact h3, by rw [e]; exact hP, ?_⟩
    exact LWp_mono (c := 19) (d := 19) (fun j _ => by rw [hv 21 (by omega) (by omega)]) (fun j _ => by rw [hv 20 (by omega) (by omega)]) (fun j _ => ⟨by rw [hv 22 (by omega) (by omega)], by rw [hv 23 (by omega) (by omega)]⟩) t 0 0 (by omega) (by omega) hW
theorem fr_i {v v' : Sto} {T W : Nat} (h : RI v 10 T W) (hv : ∀ k, 10 ≤ k → k ≤ 23 → v' k = v k) : RI v' 10 T W := by
  have e3 : v' 13 = v 13 := hv 13 (by omega) (by omega)
  have e4 : v' 14 = v 14 := hv 14 (by omega) (by omega)
  have e5 : v' 15 = v 15 := hv 15 (by omega) (by omega)
  have e6 : v' 16 = v 16 := hv 16 (by omega) (by omega)
  refine ⟨?_, ?_, ?_, ?_⟩
  · show ∀ a, a < T → v' 13 a = -1 ∨ ∃ m, m < a ∧ v' 13 a = nI m ∧ v' 13 m = -1
    rw [e3]; exact h.mot
  · show ∀ m, m < 168 → v' 14 m = nI 0 ∨ v' 14 m = nI 1
    rw [e4]; exact h.sht
  · show ∀ k, k < W → ∃ a, a < T ∧ v' 15 k = nI a ∧ v' 13 a = -1
    rw [e5, e3]; exact h.wof
  · show ∀ k, k < W → ∃ n, n ≤ 20 ∧ v' 16 k = nI n
    rw [e6]; exact h.wan
theorem J_mk {v v' : Sto} {g g' : Nat → Int32} {T W : Nat} (h : J v g T W) (hv : ∀ k, 10 ≤ k → k ≤ 23 → v' k = v k) (hg : ∀ j, tnJ j = false → g' j = g j) (h1 : LKt v' 3 g') (h2 : TI v' 3 10 T) (h3 : LGt v' 3 g') : J v' g' T W := ⟨h1, fr_r h.r hv hg, fr_l h.l hv hg, h2, h3, fr_i h.ri hv⟩
theorem LG_c {v v' : Sto} {g g' : Nat → Int32} (h : LGt v 3 g) (h3 : ix (v' 3 6) = ix (v 3 6)) (h7 : ix (v' 3 7) = ix (v 3 7)) (h9 : v' 9 = v 9) (hb : ix (v 3 7) ≤ 80) (hg : ∀ j, 760 ≤ j → j < 1080 → g' j = g j) : LGt v' 3 g' := by
  intro k hk
  rw [h7] at hk
  have := h k hk
  show _ = lg_weekOf (v' 9 _) ∧ _ = lg_roomIn (v' 9 _) ∧ _ = lg_whoOf (v' 9 _) ∧ _ = lg_howOf (v' 9 _)
  rw [h9, h3, hg _ (by omega) (by omega), hg _ (by omega) (by omega), hg _ (by omega) (by omega), hg _ (by omega) (by omega)]
  exact this
theorem lc_80 {v : Sto} {T : Nat} (h : TI v 3 10 T) : ix (v 3 7) ≤ 80 := by
  obtain ⟨lc, hlc, e⟩ := h.lc
  rw [e, ix_nI (by omega)]; exact hlc
theorem sm_up {f f' : Nat → Int32} {r : Nat} (h : ∀ k, k ≠ r → f' k = f k) : ∀ n, smI f' n = smI f n - (if r < n then f r else 0) + (if r < n then f' r else 0)
  | 0 => by
    show (0 : Int32) = 0 - (if r < 0 then f r else 0) + (if r < 0 then f' r else 0)
    rw [if_neg (by omega), if_neg (by omega)]; decide
  | n + 1 => by
    show smI f' n + f' n = smI f n + f n - _ + _
    rw [sm_up h n]
    by_cases c : n = r
    · subst c
      rw [if_neg (by omega), if_neg (by omega), if_pos (by omega), if_pos (by omega)]
      have e : ∀ x y z : Int32, x - 0 + 0 + z = x + y - y + z := by
        intro x y z
        rw [Int32.add_sub_cancel, Int32.sub_zero, Int32.add_zero]
      exact e _ _ _
    · rw [h n c]
      by_cases q : r < n
      · rw [if_pos q, if_pos q, if_pos (by omega), if_pos (by omega)]
        simp only [Int32.sub_eq_add_neg]
        ac_rfl
      · rw [if_neg q, if_neg q, if_neg (by omega), if_neg (by omega)]
        simp only [Int32.sub_zero, Int32.add_zero]
theorem ct_up {f : Nat → Int32} {r : Nat} {x : Int32} {a : Nat} (hr : r < 168) : ctI (fun m => decide (upd f r x m = nI a)) 168 = ctI (fun m => decide (f m = nI a)) 168 - b2 (f r = nI a) + b2 (x = nI a) := by
  rw [ct_sm, ct_sm, sm_up (f := fun k => b2 (decide (f k = nI a) = true)) (r := r) (fun k hk => by show b2 _ = b2 _; simp only [pk_un hk]) 168, if_pos hr, if_pos hr]
  congr 1
  · congr 1
    exact b2_iff' decide_eq_true_iff
  · exact b2_iff' (by rw [pk_us]; exact decide_eq_true_iff)
def hsF (g : Nat → Int32) (r : Nat) (x y : Int32) : Nat → Int32 := upd (upd g (88 + 4 * r) x) (89 + 4 * r) y
theorem hs_n {g : Nat → Int32} {r j : Nat} {x y : Int32} (h : j ≠ 88 + 4 * r) (h2 : j ≠ 89 + 4 * r) : hsF g r x y j = g j := by rw [hsF, pk_un h2, pk_un h]
theorem hs_o {g : Nat → Int32} {r m : Nat} {x y : Int32} : hsF g r x y (88 + 4 * m) = upd (fun m => g (88 + 4 * m)) r x m := by
  rw [hsF, pk_un (by omega)]
  by_cases e : m = r
  · subst e; rw [pk_us, pk_us]
  · rw [pk_un (by omega), pk_un e]
theorem hs_l {g : Nat → Int32} {r m : Nat} {x y : Int32} : hsF g r x y (89 + 4 * m) = upd (fun m => g (89 + 4 * m)) r y m := by
  rw [hsF]
  by_cases e : m = r
  · subst e; rw [pk_us, pk_us]
  · rw [pk_un (by omega), pk_un e, pk_un (by omega)]
theorem J_own {v v' : Sto} {g : Nat → Int32} {T W r : Nat} {x y z : Int32} (h : J v g T W) (hr : r < 168) (h4 : v' 4 = upd (v 4) r x) (h5 : v' 5 = upd (v 5) r y) (h8 : ∀ a, a < 10 → v' 8 a = v 8 a - b2 (v 4 r = nI a) + b2 (x = nI a))
    (hc : ∀ k, k ≠ 4 → k ≠ 5 → k ≠ 8 → 3 ≤ k → k ≤ 23 → v' k = v k) (hx : x = -1 ∨ ∃ a, a < T ∧ x = nI a ∧ v 13 a = -1) (hy : y = -1 ∨ (¬ x = -1 ∧ ¬ y = x ∧ ∃ a, a < T ∧ y = nI a ∧ v 13 a = -1)) (hz : z = if y = -1 then x else y) : J v' (hsF g r x z) T W := by
  have c3 := hc 3 (by omega) (by omega) (by omega) (by omega) (by omega)
  have c6 := hc 6 (by omega) (by omega) (by omega) (by omega) (by omega)
  have c7 := hc 7 (by omega) (by omega) (by omega) (by omega) (by omega)
  have c9 := hc 9 (by omega) (by omega) (by omega) (by omega) (by omega)
  have c13 := hc 13 (by omega) (by omega) (by omega) (by omega) (by omega)
  have sc1 : ∀ j, (j < 88 ∨ 760 ≤ j) → hsF g r x z j = g j := fun j hj => hs_n (by omega) (by omega)
  refine J_mk h (fun k a b => hc k (by omega) (by omega) (by omega) (by omega) b) (fun j hj => hs_n (fun q => by rw [q] at hj; exact absurd hj (by rw [Bool.not_eq_false]; exact decide_eq_true (by omega))) (fun q => by rw [q] at hj; exact absurd hj (by rw [Bool.not_eq_false]; exact decide_eq_true (by omega)))) ?_ ?_ ?_
  · refine ⟨fun m hm => ?_, fun m hm => ?_, fun m hm => ?_, fun a ha => ?_, ?_, ?_, ?_, ?_, ?_⟩
    · rw [hs_o]
      show _ = v' 4 m
      rw [h4]
      by_cases e : m = r
      · subst e; rw [pk_us, pk_us]
      · rw [pk_un e, pk_un e]; exact h.t.own m hm
    · rw [hs_l]
      show _ = if v' 5 m = -1 then v' 4 m else v' 5 m
      rw [h4, h5]
      by_cases e : m = r
      · subst e; rw [pk_us, pk_us, pk_us, hz]
      · rw [pk_un e, pk_un e, pk_un e]; exact h.t.liv m hm
    · rw [hs_n (by omega) (by omega)]
      show _ = v' 6 m
      rw [c6]; exact h.t.gds m hm
    · rw [sc1 _ (by omega)]
      show _ = v' 7 a
      rw [c7]; exact h.t.con a ha
    · rw [sc1 _ (by omega), c3]; exact h.t.wk
    · rw [sc1 _ (by omega), c3]; exact h.t.nw
    · rw [sc1 _ (by omega), c3]; exact h.t.tl
    · rw [sc1 _ (by omega), c3]; exact h.t.sd
    · rw [sc1 _ (by omega), c3]; exact h.t.lgs
  · refine ⟨fun m hm => ?_, fun m hm => ?_, fun a ha => ?_, ?_, ?_, ?_, fun a h1 h2 => ?_⟩
    · show v' 4 m = -1 ∨ ∃ a, a < T ∧ v' 4 m = nI a ∧ v' 13 a = -1
      rw [h4, c13]
      by_cases e : m = r
      · subst e; rw [pk_us]; exact hx
      · rw [pk_un e]; exact h.ti.own m hm
    · show v' 5 m = -1 ∨ (¬ v' 4 m = -1 ∧ ¬ v' 5 m = v' 4 m ∧ ∃ a, a < T ∧ v' 5 m = nI a ∧ v' 13 a = -1)
      rw [h4, h5, c13]
      by_cases e : m = r
      · subst e; rw [pk_us, pk_us]; exact hy
      · rw [pk_un e, pk_un e]; exact h.ti.sub m hm
    · show v' 8 a = ctI (fun m => decide (v' 4 m = nI a)) 168
      rw [h8 a ha, h4, ct_up hr, show v 8 a = _ from h.ti.cnt a ha]
    · rw [c3]; exact h.ti.ln
    · rw [c3]; exact h.ti.lc
    · rw [c3]; exact h.ti.now
    · show v' 7 a = 0
      rw [c7]; exact h.ti.zer a h1 h2
  · exact LG_c h.lg (by rw [c3]) (by rw [c3]) c9 (lc_80 h.ti) (fun j h1 h2 => sc1 j (by omega))
theorem upd_id {f : Nat → Int32} {r : Nat} : upd f r (f r) = f := by
  funext j
  by_cases e : j = r
  · subst e; exact pk_us
  · exact pk_un e
theorem J_free {v : Sto} {g : Nat → Int32} {T W r : Nat} (h : J v g T W) (hr : r < 168) : J (frT v 3 r) (hsF g r (-1) (-1)) T W := by
  have hT := h.r.hT
  refine J_own (x := -1) (y := -1) h hr ?_ ?_ (fun a ha => ?_) (fun k h1 h2 h3 _ _ => ?_) (Or.inl rfl) (Or.inl rfl) (by rw [if_pos rfl])
  · unfold frT
    show su (su (if v 4 r = -1 then v else su v 8 _ _) 4 r (-1)) 5 r (-1) 4 = _
    rw [su_cell _ _ (by decide), su_at]
    split
    · rfl
    · rw [su_cell _ _ (by decide)]
  · unfold frT
    show su (su (if v 4 r = -1 then v else su v 8 _ _) 4 r (-1)) 5 r (-1) 5 = _
    rw [su_at, su_cell _ _ (by decide)]
    split
    · rfl
    · rw [su_cell _ _ (by decide)]
  · unfold frT
    show su (su (if v 4 r = -1 then v else su v 8 (ix (v 4 r)) (v 8 (ix (v 4 r)) - nI 1)) 4 r (-1)) 5 r (-1) 8 a = _
    rw [su_cell _ _ (by decide), su_cell _ _ (by decide), b2_f (p := (-1 : Int32) = nI a) (fun q => nI_m1 (by omega) q.symm)]
    rcases h.ti.own r hr with e | ⟨b, hb, e, _⟩
    · have e : v 4 r = -1 := e
      rw [if_pos e, b2_f (fun q => nI_m1 (by omega) (q.symm.trans e))]
      show v 8 a = v 8 a - 0 + 0
      rw [Int32.sub_zero, Int32.add_zero]
    · have e : v 4 r = nI b := e
      rw [if_neg (by rw [e]; exact nI_m1 (by omega)), e, ix_nI (by omega), su_at]
      by_cases q : a = b
      · subst q
        rw [pk_us, b2_t rfl]
        exact (Int32.add_zero _).symm
      · rw [pk_un q, b2_f (fun z => q (eq_n (by omega) (by omega) z).symm)]
        show v 8 a = v 8 a - 0 + 0
        rw [Int32.sub_zero, Int32.add_zero]
  · unfold frT
    show su (su (if v 4 r = -1 then v else su v 8 _ _) 4 r (-1)) 5 r (-1) k = _
    rw [su_cell _ _ h2, su_cell _ _ h1]
    split
    · rfl
    · rw [su_cell _ _ h3]
theorem so_4 {v : Sto} {r a : Nat} : soT v 3 r a 4 = upd (v 4) r (nI a) := by
  unfold soT frT
  show su (su (su (su (if v 4 r = -1 then v else su v 8 _ _) 4 r (-1)) 5 r (-1)) 4 r (nI a)) 8 a _ 4 = _
  rw [su_cell _ _ (by decide), su_at, su_cell _ _ (by decide), su_at]
  funext j
  by_cases e : j = r
  · subst e; rw [pk_us, pk_us]
  · rw [pk_un e, pk_un e, pk_un e]
    split
    · rfl
    · rw [su_cell _ _ (by decide)]
theorem J_set {v : Sto} {g : Nat → Int32} {T W r a : Nat} (h : J v g T W) (hr : r < 168) (ha : a < T) (hm : v 13 a = -1) : J (soT v 3 r a) (hsF g r (nI a) (nI a)) T W := by
  have hT := h.r.hT
  have hF := J_free h hr
  refine J_own (x := nI a) (y := -1) h hr so_4 ?_ (fun b hb => ?_) (fun k h1 h2 h3 _ _ => ?_) (Or.inr ⟨a, ha, rfl, hm⟩) (Or.inl rfl) (by rw [if_pos rfl])
  · unfold soT frT
    show su (su (su (su (if v 4 r = -1 then v else su v 8 _ _) 4 r (-1)) 5 r (-1)) 4 r (nI a)) 8 a _ 5 = _
    rw [su_cell _ _ (by decide), su_cell _ _ (by decide), su_at, su_cell _ _ (by decide)]
    split
    · rfl
    · rw [su_cell _ _ (by decide)]
  · have e1 : frT v 3 r 8 b = v 8 b - b2 (v 4 r = nI b) := by
      have e2 := hF.ti.cnt b hb
      have e4 : frT v 3 r 4 = upd (v 4) r (-1) := by
        unfold frT
        show su (su (if v 4 r = -1 then v else su v 8 _ _) 4 r (-1)) 5 r (-1) 4 = _
        rw [su_cell _ _ (by decide), su_at]
        split
        · rfl
        · rw [su_cell _ _ (by decide)]
      have e2 : frT v 3 r 8 b = ctI (fun m => decide (frT v 3 r 4 m = nI b)) 168 := e2
      rw [e4, ct_up hr, b2_f (p := (-1 : Int32) = nI b) (fun q => nI_m1 (by omega) q.symm), ← show v 8 b = _ from h.ti.cnt b hb] at e2
      rw [e2]; exact Int32.add_zero _
    have e5 : soT v 3 r a 8 b = upd (frT v 3 r 8) a (frT v 3 r 8 a + nI 1) b := by
      unfold soT
      show su (su (frT v 3 r) 4 r (nI a)) 8 a _ 8 b = _
      rw [su_at, su_cell _ _ (by decide)]
    rw [e5]
    by_cases q : b = a
    · subst q; rw [pk_us, e1, b2_t (p := nI b = nI b) rfl]
    · rw [pk_un q, e1, b2_f (p := nI a = nI b) (fun z => q (eq_n (by omega) (by omega) z).symm)]; exact (Int32.add_zero _).symm
  · unfold soT frT
    show su (su (su (su (if v 4 r = -1 then v else su v 8 _ _) 4 r (-1)) 5 r (-1)) 4 r (nI a)) 8 a _ k = _
    rw [su_cell _ _ h3, su_cell _ _ h1, su_cell _ _ h2, su_cell _ _ h1]
    split
    · rfl
    · rw [su_cell _ _ h3]
theorem sb_0 {x y : Int32} : x = x - y + y := by rw [Int32.sub_add_cancel]
theorem J_sub {v : Sto} {g : Nat → Int32} {T W r a : Nat} (h : J v g T W) (hr : r < 168) (ha : a < T) (hm : v 13 a = -1) (ho : ¬ v 4 r = -1) (hn : ¬ v 4 r = nI a) : J (su v 5 r (nI a)) (hsF g r (v 4 r) (nI a)) T W := by
  have hT := h.r.hT
  refine J_own (x := v 4 r) (y := nI a) h hr (by rw [su_cell _ _ (by decide), upd_id]) (su_at _ _ _ _) (fun b hb => by rw [su_cell _ _ (by decide)]; exact sb_0) (fun k h1 h2 h3 _ _ => su_cell _ _ h2) (h.ti.own r hr) (Or.inr ⟨ho, fun q => hn q.symm, a, ha, rfl, hm⟩) (by rw [if_neg (nI_m1 (by omega))])
theorem J_end {v : Sto} {g : Nat → Int32} {T W r : Nat} (h : J v g T W) (hr : r < 168) : J (su v 5 r (-1)) (hsF g r (v 4 r) (v 4 r)) T W :=
  J_own (x := v 4 r) (y := -1) h hr (by rw [su_cell _ _ (by decide), upd_id]) (su_at _ _ _ _) (fun b hb => by rw [su_cell _ _ (by decide)]; exact sb_0) (fun k h1 h2 h3 _ _ => su_cell _ _ h2) (h.ti.own r hr) (Or.inl rfl) (by rw [if_pos rfl])
theorem J_till {v : Sto} {g : Nat → Int32} {T W : Nat} (h : J v g T W) (x : Int32) : J (su v 3 8 x) (upd g 6 x) T W := by
  refine J_mk h (fun k a b => su_cell _ _ (by omega)) (fun j hj => pk_un (fun q => by rw [q] at hj; exact absurd hj (by decide))) ⟨fun m hm => by rw [pk_un (by omega)]; exact (h.t.own m hm).trans (by show v 4 m = su v 3 8 _ 4 m; rw [su_cell _ _ (by decide)]),
    fun m hm => by rw [pk_un (by omega)]; exact (h.t.liv m hm).trans (by unfold lvT; show (if v 5 m = -1 then v 4 m else v 5 m) = if su v 3 8 _ 5 m = -1 then su v 3 8 _ 4 m else su v 3 8 _ 5 m; rw [su_cell _ _ (by decide), su_cell _ _ (by decide)]),
    fun m hm => by rw [pk_un (by omega)]; exact (h.t.gds m hm).trans (by show v 6 m = su v 3 8 _ 6 m; rw [su_cell _ _ (by decide)]),
    fun a ha => by rw [pk_un (by omega)]; exact (h.t.con a ha).trans (by show v 7 a = su v 3 8 _ 7 a; rw [su_cell _ _ (by decide)]),
    by rw [pk_un (by decide), su_i (by decide)]; exact h.t.wk,
    by rw [pk_un (by decide), su_i (by decide)]; exact h.t.nw,
    by rw [pk_us, su_k],
    by rw [pk_un (by decide), su_i (by decide)]; exact h.t.sd,
    by rw [pk_un (by decide), su_i (by decide)]; exact h.t.lgs⟩ ⟨fun m hm => by show su v 3 8 _ 4 m = -1 ∨ ∃ a, a < T ∧ su v 3 8 _ 4 m = nI a ∧ su v 3 8 _ 13 a = -1; rw [su_cell _ _ (by decide), su_cell _ _ (by decide)]; exact h.ti.own m hm,
    fun m hm => by show su v 3 8 _ 5 m = -1 ∨ (¬ su v 3 8 _ 4 m = -1 ∧ ¬ su v 3 8 _ 5 m = su v 3 8 _ 4 m ∧ ∃ a, a < T ∧ su v 3 8 _ 5 m = nI a ∧ su v 3 8 _ 13 a = -1); rw [su_cell _ _ (by decide), su_cell _ _ (by decide), su_cell _ _ (by decide)]; exact h.ti.sub m hm,
    fun a ha => by show su v 3 8 _ 8 a = ctI (fun m => decide (su v 3 8 _ 4 m = nI a)) 168; rw [su_cell _ _ (by decide), su_cell _ _ (by decide)]; exact h.ti.cnt a ha,
    by rw [su_i (by decide)]; exact h.ti.ln,
    by rw [su_i (by decide)]; exact h.ti.lc,
    by rw [su_i (by decide)]; exact h.ti.now,
    fun a h1 h2 => by show su v 3 8 _ 7 a = 0; rw [su_cell _ _ (by decide)]; exact h.ti.zer a h1 h2⟩ ?_
  exact LG_c h.lg (by rw [su_i (by decide)]) (by rw [su_i (by decide)]) (su_cell _ _ (by decide)) (lc_80 h.ti) (fun j h1 h2 => pk_un (by omega))
theorem J_week {v : Sto} {g : Nat → Int32} {T W : Nat} (h : J v g T W) (x : Int32) : J (su v 3 9 x) (upd g 4 x) T W := by
  refine J_mk h (fun k a b => su_cell _ _ (by omega)) (fun j hj => pk_un (fun q => by rw [q] at hj; exact absurd hj (by decide))) ⟨fun m hm => by rw [pk_un (by omega)]; exact (h.t.own m hm).trans (by show v 4 m = su v 3 9 _ 4 m; rw [su_cell _ _ (by decide)]),
    fun m hm => by rw [pk_un (by omega)]; exact (h.t.liv m hm).trans (by unfold lvT; show (if v 5 m = -1 then v 4 m else v 5 m) = if su v 3 9 _ 5 m = -1 then su v 3 9 _ 4 m else su v 3 9 _ 5 m; rw [su_cell _ _ (by decide), su_cell _ _ (by decide)]),
    fun m hm => by rw [pk_un (by omega)]; exact (h.t.gds m hm).trans (by show v 6 m = su v 3 9 _ 6 m; rw [su_cell _ _ (by decide)]),
    fun a ha => by rw [pk_un (by omega)]; exact (h.t.con a ha).trans (by show v 7 a = su v 3 9 _ 7 a; rw [su_cell _ _ (by decide)]),
    by rw [pk_us, su_k],
    by rw [pk_un (by decide), su_i (by decide)]; exact h.t.nw,
    by rw [pk_un (by decide), su_i (by decide)]; exact h.t.tl,
    by rw [pk_un (by decide), su_i (by decide)]; exact h.t.sd,
    by rw [pk_un (by decide), su_i (by decide)]; exact h.t.lgs⟩ ⟨fun m hm => by show su v 3 9 _ 4 m = -1 ∨ ∃ a, a < T ∧ su v 3 9 _ 4 m = nI a ∧ su v 3 9 _ 13 a = -1; rw [su_cell _ _ (by decide), su_cell _ _ (by decide)]; exact h.ti.own m hm,
    fun m hm => by show su v 3 9 _ 5 m = -1 ∨ (¬ su v 3 9 _ 4 m = -1 ∧ ¬ su v 3 9 _ 5 m = su v 3 9 _ 4 m ∧ ∃ a, a < T ∧ su v 3 9 _ 5 m = nI a ∧ su v 3 9 _ 13 a = -1); rw [su_cell _ _ (by decide), su_cell _ _ (by decide), su_cell _ _ (by decide)]; exact h.ti.sub m hm,
    fun a ha => by show su v 3 9 _ 8 a = ctI (fun m => decide (su v 3 9 _ 4 m = nI a)) 168; rw [su_cell _ _ (by decide), su_cell _ _ (by decide)]; exact h.ti.cnt a ha,
    by rw [su_i (by decide)]; exact h.ti.ln,
    by rw [su_i (by decide)]; exact h.ti.lc,
    by rw [su_i (by decide)]; exact h.ti.now,
    fun a h1 h2 => by show su v 3 9 _ 7 a = 0; rw [su_cell _ _ (by decide)]; exact h.ti.zer a h1 h2⟩ ?_
  exact LG_c h.lg (by rw [su_i (by decide)]) (by rw [su_i (by decide)]) (su_cell _ _ (by decide)) (lc_80 h.ti) (fun j h1 h2 => pk_un (by omega))
theorem J_now {v : Sto} {g : Nat → Int32} {T W : Nat} (h : J v g T W) (n : Nat) (hn : n < 168) : J (su v 3 10 (nI n)) (upd g 5 (nI n)) T W := by
  refine J_mk h (fun k a b => su_cell _ _ (by omega)) (fun j hj => pk_un (fun q => by rw [q] at hj; exact absurd hj (by decide))) ⟨fun m hm => by rw [pk_un (by omega)]; exact (h.t.own m hm).trans (by show v 4 m = su v 3 10 _ 4 m; rw [su_cell _ _ (by decide)]),
    fun m hm => by rw [pk_un (by omega)]; exact (h.t.liv m hm).trans (by unfold lvT; show (if v 5 m = -1 then v 4 m else v 5 m) = if su v 3 10 _ 5 m = -1 then su v 3 10 _ 4 m else su v 3 10 _ 5 m; rw [su_cell _ _ (by decide), su_cell _ _ (by decide)]),
    fun m hm => by rw [pk_un (by omega)]; exact (h.t.gds m hm).trans (by show v 6 m = su v 3 10 _ 6 m; rw [su_cell _ _ (by decide)]),
    fun a ha => by rw [pk_un (by omega)]; exact (h.t.con a ha).trans (by show v 7 a = su v 3 10 _ 7 a; rw [su_cell _ _ (by decide)]),
    by rw [pk_un (by decide), su_i (by decide)]; exact h.t.wk,
    by rw [pk_us, su_k],
    by rw [pk_un (by decide), su_i (by decide)]; exact h.t.tl,
    by rw [pk_un (by decide), su_i (by decide)]; exact h.t.sd,
    by rw [pk_un (by decide), su_i (by decide)]; exact h.t.lgs⟩ ⟨fun m hm => by show su v 3 10 _ 4 m = -1 ∨ ∃ a, a < T ∧ su v 3 10 _ 4 m = nI a ∧ su v 3 10 _ 13 a = -1; rw [su_cell _ _ (by decide), su_cell _ _ (by decide)]; exact h.ti.own m hm,
    fun m hm => by show su v 3 10 _ 5 m = -1 ∨ (¬ su v 3 10 _ 4 m = -1 ∧ ¬ su v 3 10 _ 5 m = su v 3 10 _ 4 m ∧ ∃ a, a < T ∧ su v 3 10 _ 5 m = nI a ∧ su v 3 10 _ 13 a = -1); rw [su_cell _ _ (by decide), su_cell _ _ (by decide), su_cell _ _ (by decide)]; exact h.ti.sub m hm,
    fun a ha => by show su v 3 10 _ 8 a = ctI (fun m => decide (su v 3 10 _ 4 m = nI a)) 168; rw [su_cell _ _ (by decide), su_cell _ _ (by decide)]; exact h.ti.cnt a ha,
    by rw [su_i (by decide)]; exact h.ti.ln,
    by rw [su_i (by decide)]; exact h.ti.lc,
    ⟨n, hn, su_k⟩,
    fun a h1 h2 => by show su v 3 10 _ 7 a = 0; rw [su_cell _ _ (by decide)]; exact h.ti.zer a h1 h2⟩ ?_
  exact LG_c h.lg (by rw [su_i (by decide)]) (by rw [su_i (by decide)]) (su_cell _ _ (by decide)) (lc_80 h.ti) (fun j h1 h2 => pk_un (by omega))
theorem J_seed {v : Sto} {g : Nat → Int32} {T W : Nat} (h : J v g T W) (x : Int32) : J (su v 3 11 x) (upd g 11 x) T W := by
  refine J_mk h (fun k a b => su_cell _ _ (by omega)) (fun j hj => pk_un (fun q => by rw [q] at hj; exact absurd hj (by decide))) ⟨fun m hm => by rw [pk_un (by omega)]; exact (h.t.own m hm).trans (by show v 4 m = su v 3 11 _ 4 m; rw [su_cell _ _ (by decide)]),
    fun m hm => by rw [pk_un (by omega)]; exact (h.t.liv m hm).trans (by unfold lvT; show (if v 5 m = -1 then v 4 m else v 5 m) = if su v 3 11 _ 5 m = -1 then su v 3 11 _ 4 m else su v 3 11 _ 5 m; rw [su_cell _ _ (by decide), su_cell _ _ (by decide)]),
    fun m hm => by rw [pk_un (by omega)]; exact (h.t.gds m hm).trans (by show v 6 m = su v 3 11 _ 6 m; rw [su_cell _ _ (by decide)]),
    fun a ha => by rw [pk_un (by omega)]; exact (h.t.con a ha).trans (by show v 7 a = su v 3 11 _ 7 a; rw [su_cell _ _ (by decide)]),
    by rw [pk_un (by decide), su_i (by decide)]; exact h.t.wk,
    by rw [pk_un (by decide), su_i (by decide)]; exact h.t.nw,
    by rw [pk_un (by decide), su_i (by decide)]; exact h.t.tl,
    by rw [pk_us, su_k],
    by rw [pk_un (by decide), su_i (by decide)]; exact h.t.lgs⟩ ⟨fun m hm => by show su v 3 11 _ 4 m = -1 ∨ ∃ a, a < T ∧ su v 3 11 _ 4 m = nI a ∧ su v 3 11 _ 13 a = -1; rw [su_cell _ _ (by decide), su_cell _ _ (by decide)]; exact h.ti.own m hm,
    fun m hm => by show su v 3 11 _ 5 m = -1 ∨ (¬ su v 3 11 _ 4 m = -1 ∧ ¬ su v 3 11 _ 5 m = su v 3 11 _ 4 m ∧ ∃ a, a < T ∧ su v 3 11 _ 5 m = nI a ∧ su v 3 11 _ 13 a = -1); rw [su_cell _ _ (by decide), su_cell _ _ (by decide), su_cell _ _ (by decide)]; exact h.ti.sub m hm,
    fun a ha => by show su v 3 11 _ 8 a = ctI (fun m => decide (su v 3 11 _ 4 m = nI a)) 168; rw [su_cell _ _ (by decide), su_cell _ _ (by decide)]; exact h.ti.cnt a ha,
    by rw [su_i (by decide)]; exact h.ti.ln,
    by rw [su_i (by decide)]; exact h.ti.lc,
    by rw [su_i (by decide)]; exact h.ti.now,
    fun a h1 h2 => by show su v 3 11 _ 7 a = 0; rw [su_cell _ _ (by decide)]; exact h.ti.zer a h1 h2⟩ ?_
  exact LG_c h.lg (by rw [su_i (by decide)]) (by rw [su_i (by decide)]) (su_cell _ _ (by decide)) (lc_80 h.ti) (fun j h1 h2 => pk_un (by omega))
theorem J_coin {v : Sto} {g : Nat → Int32} {T W : Nat} (h : J v g T W) (a : Nat) (ha : a < T) (x : Int32) : J (su v 7 a x) (upd g (16 + 4 * a) x) T W := by
  have hT := h.r.hT
  refine J_mk h (fun k h1 h2 => su_cell _ _ (by omega)) (fun j hj => pk_un (fun q => by rw [q] at hj; exact absurd hj (by rw [Bool.not_eq_false]; exact decide_eq_true (by omega)))) ⟨fun m hm => by rw [pk_un (by omega)]; exact (h.t.own m hm).trans (by show v 4 m = su v 7 a x 4 m; rw [su_cell _ _ (by decide)]),
    fun m hm => by rw [pk_un (by omega)]; exact (h.t.liv m hm).trans (by unfold lvT; show (if v 5 m = -1 then v 4 m else v 5 m) = if su v 7 a x 5 m = -1 then su v 7 a x 4 m else su v 7 a x 5 m; rw [su_cell _ _ (by decide), su_cell _ _ (by decide)]),
    fun m hm => by rw [pk_un (by omega)]; exact (h.t.gds m hm).trans (by show v 6 m = su v 7 a x 6 m; rw [su_cell _ _ (by decide)]),
    fun m hm => by
      show _ = su v 7 a x 7 m
      rw [su_at]
      by_cases e : m = a
      · subst e; rw [pk_us, pk_us]
      · rw [pk_un (by omega), pk_un e]; exact h.t.con m hm,
    by rw [pk_un (by omega), su_cell _ _ (by decide)]; exact h.t.wk,
    by rw [pk_un (by omega), su_cell _ _ (by decide)]; exact h.t.nw,
    by rw [pk_un (by omega), su_cell _ _ (by decide)]; exact h.t.tl,
    by rw [pk_un (by omega), su_cell _ _ (by decide)]; exact h.t.sd,
    by rw [pk_un (by omega), su_cell _ _ (by decide)]; exact h.t.lgs⟩ ⟨fun m hm => by show su v 7 a x 4 m = -1 ∨ ∃ b, b < T ∧ su v 7 a x 4 m = nI b ∧ su v 7 a x 13 b = -1; rw [su_cell _ _ (by decide), su_cell _ _ (by decide)]; exact h.ti.own m hm,
    fun m hm => by show su v 7 a x 5 m = -1 ∨ (¬ su v 7 a x 4 m = -1 ∧ ¬ su v 7 a x 5 m = su v 7 a x 4 m ∧ ∃ b, b < T ∧ su v 7 a x 5 m = nI b ∧ su v 7 a x 13 b = -1); rw [su_cell _ _ (by decide), su_cell _ _ (by decide), su_cell _ _ (by decide)]; exact h.ti.sub m hm,
    fun b hb => by show su v 7 a x 8 b = ctI (fun m => decide (su v 7 a x 4 m = nI b)) 168; rw [su_cell _ _ (by decide), su_cell _ _ (by decide)]; exact h.ti.cnt b hb,
    by rw [su_cell _ _ (by decide)]; exact h.ti.ln,
    by rw [su_cell _ _ (by decide)]; exact h.ti.lc,
    by rw [su_cell _ _ (by decide)]; exact h.ti.now,
    fun b h1 h2 => by show su v 7 a x 7 b = 0; rw [su_i (by omega)]; exact h.ti.zer b h1 h2⟩ ?_
  exact LG_c h.lg (by rw [su_cell _ _ (by decide)]) (by rw [su_cell _ _ (by decide)]) (su_cell _ _ (by decide)) (lc_80 h.ti) (fun j h1 h2 => pk_un (by omega))
theorem J_good {v : Sto} {g : Nat → Int32} {T W : Nat} (h : J v g T W) (a : Nat) (ha : a < 168) (x : Int32) : J (su v 6 a x) (upd g (90 + 4 * a) x) T W := by
  have hT := h.r.hT
  refine J_mk h (fun k h1 h2 => su_cell _ _ (by omega)) (fun j hj => pk_un (fun q => by rw [q] at hj; exact absurd hj (by rw [Bool.not_eq_false]; exact decide_eq_true (by omega)))) ⟨fun m hm => by rw [pk_un (by omega)]; exact (h.t.own m hm).trans (by show v 4 m = su v 6 a x 4 m; rw [su_cell _ _ (by decide)]),
    fun m hm => by rw [pk_un (by omega)]; exact (h.t.liv m hm).trans (by unfold lvT; show (if v 5 m = -1 then v 4 m else v 5 m) = if su v 6 a x 5 m = -1 then su v 6 a x 4 m else su v 6 a x 5 m; rw [su_cell _ _ (by decide), su_cell _ _ (by decide)]),
    fun m hm => by
      show _ = su v 6 a x 6 m
      rw [su_at]
      by_cases e : m = a
      · subst e; rw [pk_us, pk_us]
      · rw [pk_un (by omega), pk_un e]; exact h.t.gds m hm,
    fun m hm => by rw [pk_un (by omega)]; exact (h.t.con m hm).trans (by show v 7 m = su v 6 a x 7 m; rw [su_cell _ _ (by decide)]),
    by rw [pk_un (by omega), su_cell _ _ (by decide)]; exact h.t.wk,
    by rw [pk_un (by omega), su_cell _ _ (by decide)]; exact h.t.nw,
    by rw [pk_un (by omega), su_cell _ _ (by decide)]; exact h.t.tl,
    by rw [pk_un (by omega), su_cell _ _ (by decide)]; exact h.t.sd,
    by rw [pk_un (by omega), su_cell _ _ (by decide)]; exact h.t.lgs⟩ ⟨fun m hm => by show su v 6 a x 4 m = -1 ∨ ∃ b, b < T ∧ su v 6 a x 4 m = nI b ∧ su v 6 a x 13 b = -1; rw [su_cell _ _ (by decide), su_cell _ _ (by decide)]; exact h.ti.own m hm,
    fun m hm => by show su v 6 a x 5 m = -1 ∨ (¬ su v 6 a x 4 m = -1 ∧ ¬ su v 6 a x 5 m = su v 6 a x 4 m ∧ ∃ b, b < T ∧ su v 6 a x 5 m = nI b ∧ su v 6 a x 13 b = -1); rw [su_cell _ _ (by decide), su_cell _ _ (by decide), su_cell _ _ (by decide)]; exact h.ti.sub m hm,
    fun b hb => by show su v 6 a x 8 b = ctI (fun m => decide (su v 6 a x 4 m = nI b)) 168; rw [su_cell _ _ (by decide), su_cell _ _ (by decide)]; exact h.ti.cnt b hb,
    by rw [su_cell _ _ (by decide)]; exact h.ti.ln,
    by rw [su_cell _ _ (by decide)]; exact h.ti.lc,
    by rw [su_cell _ _ (by decide)]; exact h.ti.now,
    fun b h1 h2 => by show su v 6 a x 7 b = 0; rw [su_cell _ _ (by decide)]; exact h.ti.zer b h1 h2⟩ ?_
  exact LG_c h.lg (by rw [su_cell _ _ (by decide)]) (by rw [su_cell _ _ (by decide)]) (su_cell _ _ (by decide)) (lc_80 h.ti) (fun j h1 h2 => pk_un (by omega))
