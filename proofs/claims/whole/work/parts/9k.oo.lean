-- after: 9j.on
/-! a law's text: only its bytes count -/
theorem rn_cg {q : Int32 → Bool} {f g : Nat → Int32} {L : Nat} (h : ∀ k, k < L → f k = g k) : ∀ j p, runN q f L j p = runN q g L j p
  | 0, _ => rfl
  | j + 1, p => by
    rw [runN, runN, rn_cg h j (p + 1)]
    by_cases c : p < L
    · rw [h p c]
    · rw [if_neg (fun z => c z.1), if_neg (fun z => c z.1)]
theorem ru_cg {q : Int32 → Bool} {f g : Nat → Int32} {L : Nat} (h : ∀ k, k < L → f k = g k) (p : Nat) : run q f L p = run q g L p := rn_cg h _ _
theorem kd_cg {f g : Nat → Int32} {L : Nat} (h : ∀ k, k < L → f k = g k) (b : Nat) : kdN f L b = kdN g L b := by
  unfold kdN
  by_cases c : L ≤ b
  · rw [if_pos c, if_pos c]
  · rw [if_neg c, if_neg c, h b (by omega)]
theorem en_cg {f g : Nat → Int32} {L : Nat} (h : ∀ k, k < L → f k = g k) (b : Nat) : enN f L b = enN g L b := by
  unfold enN
  by_cases c : L ≤ b
  · rw [if_pos c, if_pos c]
  · rw [if_neg c, if_neg c, h b (by omega), ru_cg h, ru_cg h]
theorem nx_cg {f g : Nat → Int32} {L : Nat} (h : ∀ k, k < L → f k = g k) (b : Nat) : nx f L b = nx g L b := by
  unfold nx skp
  rw [en_cg h, ru_cg h]
theorem nu_cg {f g : Nat → Int32} {L b : Nat} (h : ∀ k, k < L → f k = g k) : ∀ n, b + n ≤ L → nuF f b n = nuF g b n
  | 0, _ => rfl
  | n + 1, hn => by rw [nuF, nuF, nu_cg h n (by omega), h (b + n) (by omega)]
theorem nm_cg {f g : Nat → Int32} {L : Nat} (h : ∀ k, k < L → f k = g k) (b : Nat) : nmI f L b = nmI g L b := by
  unfold nmI
  rw [kd_cg h, en_cg h]
  by_cases c : kdN g L b = 2
  · have hb := kd_lt (f := g) (L := L) (b := b) (by omega)
    have := enN_b (f := g) (Nat.le_of_lt hb)
    rw [if_pos c, if_pos c, nu_cg h _ (by omega)]
  · rw [if_neg c, if_neg c]
theorem al_cg {p q : Nat → Bool} : ∀ n, (∀ k, k < n → p k = q k) → allB p n = allB q n
  | 0, _ => rfl
  | n + 1, h => by rw [allB, allB, al_cg n (fun k hk => h k (by omega)), h n (by omega)]
theorem wd_cg {f g : Nat → Int32} {L : Nat} (h : ∀ k, k < L → f k = g k) (b i : Nat) : wdB f L b i = wdB g L b i := by
  unfold wdB
  rw [kd_cg h, en_cg h]
  by_cases c : kdN g L b = 1 ∧ enN g L b - b = strLen.getD i 0
  · have hb := kd_lt (f := g) (L := L) (b := b) (by omega)
    have := enN_b (f := g) (Nat.le_of_lt hb)
    rw [al_cg _ (fun k hk => by rw [h (b + k) (by omega)])]
  · rw [decide_eq_false c, Bool.false_and, Bool.false_and]
theorem sg_cg {f g : Nat → Int32} {L : Nat} (h : ∀ k, k < L → f k = g k) (b : Nat) (c : Int32) : (sgP f L b c) = (sgP g L b c) := by
  apply propext
  unfold sgP
  rw [kd_cg h]
  constructor
  · rintro ⟨a, e⟩
    have hb := kd_lt (f := g) (L := L) (b := b) (by omega)
    exact ⟨a, by rw [← h b hb]; exact e⟩
  · rintro ⟨a, e⟩
    have hb := kd_lt (f := g) (L := L) (b := b) (by omega)
    exact ⟨a, by rw [h b hb]; exact e⟩
theorem np_cg {f g : Nat → Int32} {L : Nat} (h : ∀ k, k < L → f k = g k) (b d : Nat) (lo hi : Int32) : (nuP f L b d lo hi) = (nuP g L b d lo hi) := by
  unfold nuP
  rw [kd_cg h, en_cg h, nm_cg h]
theorem pw_cg {f g : Nat → Int32} {L : Nat} (h : ∀ k, k < L → f k = g k) (p : Nat) : partW f L p = partW g L p := by
  unfold partW
  simp only [kd_cg h, np_cg h, nm_cg h, wd_cg h]
theorem su_cg {f g : Nat → Int32} {L : Nat} (h : ∀ k, k < L → f k = g k) : ∀ n b p, sumN f L n b p = sumN g L n b p
  | 0, _, _ => rfl
  | n + 1, b, p => by
    unfold sumN
    simp only [pw_cg h, sg_cg h, nx_cg h, su_cg h n]
theorem pl_cg {f g : Nat → Int32} {L : Nat} (h : ∀ k, k < L → f k = g k) (p : Nat) : plnF f L p = plnF g L p := by
  unfold plnF
  simp only [wd_cg h, nx_cg h, sg_cg h, su_cg h]
theorem lp_cg {f g : Nat → Int32} {L : Nat} (h : ∀ k, k < L → f k = g k) {st : Nat → PW} {i : Nat} {wd : Int32} : ∀ n w p, lpF f L st i wd n w p = lpF g L st i wd n w p
  | 0, _, _ => rfl
  | n + 1, w, p => by
    unfold lpF
    simp only [wd_cg h, nx_cg h, lp_cg h n]
theorem ev_cg {f g : Nat → Int32} {L : Nat} (h : ∀ k, k < L → f k = g k) {st : Nat → PW} : pEv f L st = pEv g L st := by
  funext p
  unfold pEv
  simp only [lp_cg h]
theorem so_cg {f g : Nat → Int32} {L : Nat} (h : ∀ k, k < L → f k = g k) {st : Nat → PW} (p : Nat) : pSo f L st p = pSo g L st p := by
  unfold pSo
  simp only [ev_cg h, lp_cg h]
theorem at_cg {f g : Nat → Int32} {L : Nat} (h : ∀ k, k < L → f k = g k) : ∀ k, pAt f L k = pAt g L k
  | 0 => by
    funext p
    unfold pAt
    simp only [wd_cg h, sg_cg h, pl_cg h]
  | k + 1 => by
    have ih := at_cg h k
    funext p
    unfold pAt
    simp only [wd_cg h, sg_cg h, pl_cg h, nx_cg h, ih, so_cg h]
theorem lh_cg {f g : Nat → Int32} {L : Nat} (h : ∀ k, k < L → f k = g k) (p : Nat) : lwH f L p = lwH g L p := by
  unfold lwH
  simp only [wd_cg h, np_cg h, nm_cg h, nx_cg h]
theorem lw_cg {f g : Nat → Int32} {L : Nat} (h : ∀ k, k < L → f k = g k) (p : Nat) : lwP f L p = lwP g L p := by
  unfold lwP
  simp only [lh_cg h, wd_cg h, nx_cg h, so_cg h, at_cg h]
theorem ls_cg {f g : Nat → Int32} {L : Nat} (h : ∀ k, k < L → f k = g k) : ∀ n p, lnsP f L n p = lnsP g L n p
  | 0, _ => rfl
  | n + 1, p => by
    unfold lnsP
    simp only [lw_cg h, kd_cg h, sg_cg h, nx_cg h, ls_cg h n]
theorem law_cg {f g : Nat → Int32} {L : Nat} (h : ∀ k, k < L → f k = g k) : lawP f L = lawP g L := by
  have e : ∀ p, skp f L p = skp g L p := fun p => ru_cg h p
  unfold lawP
  simp only [kd_cg h, ls_cg h, e]
theorem bg_eq {u : Sto} {x : Int32} : su (su (su (su (su (su u 178 12 (-1)) 178 9 (-1)) 178 10 x) 178 8 (nI 0)) 178 11 (nI 0)) 178 13 (nI 0) = mrS (su (su u 178 8 (nI 0)) 178 13 (nI 0)) (-1) x (nI 0) (-1) := by
  funext a b
  unfold su mrS
  by_cases h : a = 178
  · subst h
    by_cases e : b = 13
    · subst e; simp
    · by_cases e1 : b = 11
      · subst e1; simp
      · by_cases e2 : b = 8
        · subst e2; simp
        · by_cases e3 : b = 10
          · subst e3; simp
          · by_cases e4 : b = 9
            · subst e4; simp
            · by_cases e5 : b = 12
              · subst e5; simp
              · simp [e, e1, e2, e3, e4, e5]
  · simp [h]
set_option maxHeartbeats 1000000 in
theorem c_X11_begins {E : EE} (L : Nat) (u : Sto) (hx : u 178 8 = nI L) : Ct E 1 0 yX11_begins cX11_begins 1 none [.ref (E.ad 178)] u (.inl none) (MR (su (su u 178 8 (nI 0)) 178 13 (nI 0)) (-1) L 0 (-1)) := by
  refine ct_of (by decide) (Nat.le_of_ble_eq_true rfl) (fun X h hR hrt htab hargs hini => ?_)
  refine g_aload_n h dX11_begins_0 rfl rfl ?_
  refine g_iconst (v := -1) h dX11_begins_1 (by decide) ?_
  refine g_putI h pfl_X11_25_10 sh_178 (by decide) rfl dX11_begins_2 ?_
  refine g_aload_n h dX11_begins_5 rfl rfl ?_
  refine g_iconst (v := -1) h dX11_begins_6 (by decide) ?_
  refine g_putI h pfl_X11_94_10 sh_178 (by decide) rfl dX11_begins_7 ?_
  refine g_aload_n h dX11_begins_10 rfl rfl ?_
  refine g_aload_n h dX11_begins_11 rfl rfl ?_
  refine g_getI h fl_X11_91_10 sh_178 (by decide) rfl dX11_begins_12 ?_
  refine g_top (y := nI L) ((su_i (by decide)).trans ((su_i (by decide)).trans hx)) ?_
  refine g_putI h pfl_X11_100_10 sh_178 (by decide) rfl dX11_begins_15 ?_
  refine g_aload_n h dX11_begins_18 rfl rfl ?_
  refine g_iconst (v := nI 0) h dX11_begins_19 (by decide) ?_
  refine g_putI h pfl_X11_91_10 sh_178 (by decide) rfl dX11_begins_20 ?_
  refine g_aload_n h dX11_begins_23 rfl rfl ?_
  refine g_iconst (v := nI 0) h dX11_begins_24 (by decide) ?_
  refine g_putI h pfl_X11_97_10 sh_178 (by decide) rfl dX11_begins_25 ?_
  refine g_aload_n h dX11_begins_28 rfl rfl ?_
  refine g_iconst (v := nI 0) h dX11_begins_29 (by decide) ?_
  refine g_putI h pfl_X11_184_10 sh_178 (by decide) rfl dX11_begins_30 ?_
  exact g_vret h hrt dX11_begins_33 (by omega) rfl bg_eq.symm
