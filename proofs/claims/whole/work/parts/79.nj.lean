-- after: 38.r 39.s 40.t 47.str 48.tx 49.ty 50.tt 51.tu 52.tv 53.lw 54.lx 59.mc 62.mf 70.na 71.nb 72.nc 73.nd 74.ne 75.nf 76.ng 77.nh 78.ni
def SB (L : Nat) (st : Nat → PW) : Prop := ∀ p, p ≤ L → (∀ e, st p = .error e → e ≤ L) ∧ ∀ y, st p = .ok y → p ≤ y.2 ∧ y.2 ≤ L
theorem lp_b {f : Nat → Int32} {L : Nat} {st : Nat → PW} {i : Nat} {wd : Int32} (h : SB L st) : ∀ (n : Nat) (w : List Int32) (p : Nat), p ≤ L → (∀ e, lpF f L st i wd n w p = .error e → e ≤ L) ∧ ∀ y, lpF f L st i wd n w p = .ok y → p ≤ y.2 ∧ y.2 ≤ L
  | 0, w, p, hp => ⟨fun e q => by cases q; exact hp, fun y q => nomatch q⟩
  | n + 1, w, p, hp => by
    unfold lpF
    split
    · have h1 := nx_b (f := f) hp
      split
      · rename_i e he
        exact ⟨fun e q => by cases q; exact (h _ h1.2).1 _ he, fun y q => nomatch q⟩
      · rename_i q hq
        have h2 := (h _ h1.2).2 _ hq
        have ih := lp_b (f := f) (i := i) (wd := wd) h n (w ++ q.1 ++ [wd]) q.2 h2.2
        exact ⟨ih.1, fun y hy => ⟨by have := (ih.2 y hy).1; omega, (ih.2 y hy).2⟩⟩
    · exact ⟨fun e q => (nomatch q), fun y q => by cases q; exact ⟨Nat.le_refl _, hp⟩⟩
theorem ev_b {f : Nat → Int32} {L : Nat} {st : Nat → PW} (h : SB L st) : SB L (pEv f L st) := fun p hp => by
  unfold pEv
  split
  · rename_i e he
    exact ⟨fun e q => by cases q; exact (h _ hp).1 _ he, fun y q => nomatch q⟩
  · rename_i q hq
    have h2 := (h _ hp).2 _ hq
    have ih := lp_b (f := f) (i := 25) (wd := -13) h 401 q.1 q.2 h2.2
    exact ⟨ih.1, fun y hy => ⟨by have := (ih.2 y hy).1; omega, (ih.2 y hy).2⟩⟩
theorem so_b {f : Nat → Int32} {L : Nat} {st : Nat → PW} (h : SB L st) : SB L (pSo f L st) := fun p hp => by
  unfold pSo
  split
  · rename_i e he
    exact ⟨fun e q => by cases q; exact (ev_b h _ hp).1 _ he, fun y q => nomatch q⟩
  · rename_i q hq
    have h2 := (ev_b h _ hp).2 _ hq
    have ih := lp_b (f := f) (i := 26) (wd := -14) (ev_b (f := f) h) 401 q.1 q.2 h2.2
    exact ⟨ih.1, fun y hy => ⟨by have := (ih.2 y hy).1; omega, (ih.2 y hy).2⟩⟩
theorem at_b {f : Nat → Int32} {L : Nat} : ∀ k, SB L (pAt f L k)
  | 0, p, hp => by
    unfold pAt
    split
    · exact ⟨fun e q => by cases q; exact hp, fun y q => nomatch q⟩
    · exact ⟨fun e q => pln_er hp q, fun y q => ⟨Nat.le_of_lt (pln_b hp q).2.2, (pln_b hp q).2.1⟩⟩
  | k + 1, p, hp => by
    have h1 := nx_b (f := f) hp
    unfold pAt
    split
    · split
      · rename_i e he
        exact ⟨fun e q => by cases q; exact (at_b k _ h1.2).1 _ he, fun y q => nomatch q⟩
      · rename_i q hq
        have h2 := (at_b k _ h1.2).2 _ hq
        exact ⟨fun e q => (nomatch q), fun y hy => by cases hy; exact ⟨by show p ≤ q.2; omega, h2.2⟩⟩
    · split
      · split
        · rename_i e he
          exact ⟨fun e q => by cases q; exact (so_b (at_b k) _ h1.2).1 _ he, fun y q => nomatch q⟩
        · rename_i q hq
          have h2 := (so_b (f := f) (at_b k) _ h1.2).2 _ hq
          have h3 := nx_b (f := f) h2.2
          split
          · exact ⟨fun e q => (nomatch q), fun y hy => by cases hy; exact ⟨by show p ≤ nx f L q.2; omega, h3.2⟩⟩
          · exact ⟨fun e q => by cases q; exact h2.2, fun y q => nomatch q⟩
      · exact ⟨fun e q => pln_er hp q, fun y q => ⟨Nat.le_of_lt (pln_b hp q).2.2, (pln_b hp q).2.1⟩⟩
abbrev AtC (E : EE) (k : Nat) : Prop := ∀ (B : Int32) (f : Nat → Int32) (L p s : Nat) (_ : skp f L p = s) (fa : Nat → Int32) (u : Sto) (_ : LF u B f) (_ : L ≤ 400) (_ : p ≤ L) (_ : FA u fa) (_ : u 178 13 = nI (6 - k)), CtP E (9 + 3 * k) 0 yX11_atom cX11_atom 4 (some .boolean) [.ref (E.ad 178)] (MR u B L p (-1)) (QB u B f L fa (3 + 2 * k) k (pAt f L k s))
theorem an_b {v w : Int32} (hv : v = nI 0 ∨ v = nI 1) (hw : w = nI 0 ∨ w = nI 1) : jn (-13) v w = if v = 0 ∨ w = 0 then nI 0 else nI 1 := by
  rcases hv with rfl | rfl <;> rcases hw with rfl | rfl <;> decide
theorem or_b {v w : Int32} (hv : v = nI 0 ∨ v = nI 1) (hw : w = nI 0 ∨ w = nI 1) : jn (-14) v w = if v = 0 ∧ w = 0 then nI 0 else nI 1 := by
  rcases hv with rfl | rfl <;> rcases hw with rfl | rfl <;> decide
theorem no_b {v : Int32} (hv : v = nI 0 ∨ v = nI 1) : nI 1 - v = if v = 0 then nI 1 else nI 0 := by
  rcases hv with rfl | rfl <;> decide
theorem lp_s {f : Nat → Int32} {L : Nat} {st : Nat → PW} {i : Nat} {wd : Int32} {n : Nat} {w : List Int32} {p : Nat} (h : ¬ wdB f L p i = true) : lpF f L st i wd (n + 1) w p = .ok (w, p) := by rw [lpF, if_neg h]
theorem lp_e {f : Nat → Int32} {L : Nat} {st : Nat → PW} {i : Nat} {wd : Int32} {n : Nat} {w : List Int32} {p e : Nat} (h : wdB f L p i = true) (h2 : st (nx f L p) = .error e) : lpF f L st i wd (n + 1) w p = .error e := by rw [lpF, if_pos h, h2]
theorem lp_k {f : Nat → Int32} {L : Nat} {st : Nat → PW} {i : Nat} {wd : Int32} {n : Nat} {w : List Int32} {p : Nat} {q : List Int32 × Nat} (h : wdB f L p i = true) (h2 : st (nx f L p) = .ok q) : lpF f L st i wd (n + 1) w p = lpF f L st i wd n (w ++ q.1 ++ [wd]) q.2 := by rw [lpF, if_pos h, h2]
set_option maxHeartbeats 1000000 in
theorem c_X11_every_k {E : EE} (k : Nat) (hk6 : k ≤ 6) (hA : AtC E k) (B : Int32) (f : Nat → Int32) (L p s : Nat) (hs : skp f L p = s) (fa : Nat → Int32) (u : Sto) (hf : LF u B f) (hL : L ≤ 400) (hp : p ≤ L) (hF : FA u fa) (hdp : u 178 13 = nI (6 - k)) : CtP E (10 + 3 * k) 0 yX11_every cX11_every 3 (some .boolean) [.ref (E.ad 178)] (MR u B L p (-1)) (QB u B f L fa (4 + 2 * k) k (pEv f L (pAt f L k) s)) := by
  have q0 := (skp_b (f := f) hp).2
  rw [hs] at q0
  have hss : skp f L s = s := by rw [← hs]; exact sk_sk (Nat.le_refl _)
  have e0 := (enN_b (f := f) q0).2
  have hB : SB L (pAt f L k) := at_b k
  refine ctp_of (by decide) (Nat.le_of_ble_eq_true rfl) (fun X h hR hrt htab hargs => ?_)
  have XN : ∀ (y : Int32) (q9 e9 : Nat), (y = nI 0 ∨ y = nI 1) → q9 ≤ L + k → ¬ nI e9 = -1 → pEv f L (pAt f L k) s = .error e9 → G E X (QMP E X (QB u B f L fa (4 + 2 * k) k (pEv f L (pAt f L k) s)) 0) 3 0 5 [(0, .ref (E.ad 178)), (1, .int y)] [] (MR u B L q9 (nI e9)) := by
    intro y q9 e9 hy hq9 hw9 hr
    refine g_aload_n h dX11_every_5 rfl rfl ?_
    refine g_getI h fl_X11_25_10 sh_178 (by decide) rfl dX11_every_6 ?_
    refine g_top mr_r12 ?_
    refine g_iconst (v := -1) h dX11_every_9 (by decide) ?_
    refine g_icmp_ne (tgt := 44) h dX11_every_10 (by decide) (fun c10 => ?_) (fun c10 => ?_)
    · refine g_iload_n h dX11_every_44 rfl rfl ?_
      exact g_zretP h hrt dX11_every_45 (by omega) (by first | exact Or.inl rfl | exact Or.inr rfl | exact b2_01 _ | exact hF.2.2.2.1 | exact hF.2.2.2.2 | exact hy | exact hv | simp) (qb_e hr hy hq9)
    · exact absurd c10 hw9
  have LP : ∀ (m n a s1 : Nat) (v : Int32) (ws : List Int32), L - s1 ≤ m → a ≤ L → s1 ≤ L → skp f L a = s1 → L < n + s1 → (v = nI 0 ∨ v = nI 1) → EV fa ws v (4 + 2 * k) → pEv f L (pAt f L k) s = lpF f L (pAt f L k) 25 (-13) n ws s1 → G E X (QMP E X (QB u B f L fa (4 + 2 * k) k (pEv f L (pAt f L k) s)) 0) 3 0 5 [(0, .ref (E.ad 178)), (1, .int v)] [] (MR u B L a (-1)) := by
    intro m
    induction m with
    | zero =>
      intro n a s1 v ws hm ha h1 hsa hn hv hE hr
      obtain ⟨n2, rfl⟩ : ∃ n2, n = n2 + 1 := ⟨n - 1, by omega⟩
      refine g_aload_n h dX11_every_5 rfl rfl ?_
      refine g_getI h fl_X11_25_10 sh_178 (by decide) rfl dX11_every_6 ?_
      refine g_top mr_r12 ?_
      refine g_iconst (v := -1) h dX11_every_9 (by decide) ?_
      refine g_icmp_ne (tgt := 44) h dX11_every_10 (by decide) (fun c10 => ?_) (fun c10 => ?_)
      · exact absurd rfl c10
      · refine g_aload_n h dX11_every_13 rfl rfl ?_
        refine g_ldcS (tx := "and") (k := 25) h (by decide) dX11_every_14 ?_
        refine g_V h lv_X11_119_X11 sh_178 (by decide) rfl (c_X11_hass B f L a s1 hsa (-1) 25 (by decide) (by decide) u hf hL ha) (fitR hR (by first | decide | omega) (by decide) (by omega)) rfl rfl (Nat.le_of_ble_eq_true rfl) dX11_every_16 ?_
        by_cases n16 : wdB f L s1 25 = true
        · refine g_top (b2_t n16) ?_
          refine g_sto (mr_pv (congrArg nI (if_pos n16))) ?_
          have hl1 := wd_lt n16
          have hl2 := nx_lt (f := f) hl1
          have hl3 := (nx_b (f := f) h1).2
          have hl4 := (enN_b (f := f) h1).2
          refine g_if_eq (tgt := 44) h dX11_every_19 (by decide) (fun q => absurd q (by decide)) (fun _ => ?_)
          refine g_aload_n h dX11_every_22 rfl rfl ?_
          refine g_VP h lv_X11_236_X11 sh_178 (by decide) rfl (hA B f L (enN f L s1) (nx f L s1) rfl fa u hf hL hl4 hF hdp) qb_nx (fitR hR (by first | decide | omega) (by decide) (by omega)) rfl rfl (Nat.le_of_ble_eq_true rfl) dX11_every_23 (fun v23 u23 hs23 => ?_)
          cases h23 : (pAt f L k) (nx f L s1)
          · rename_i e23
            rw [h23] at hs23
            obtain ⟨x23, q9, hx23, hq9, hv23, rfl⟩ := hs23
            cases hv23
            refine g_istore_n (ls' := [(0, _), (1, _), (2, _)]) h dX11_every_26 rfl (by decide) rfl rfl ?_
            refine g_iload_n h dX11_every_27 rfl rfl ?_
            refine g_if_eq (tgt := 39) h dX11_every_28 (by decide) (fun c28 => ?_) (fun c28 => ?_)
            · refine g_iconst (v := nI 0) h dX11_every_39 (by decide) ?_
              refine g_istore_n (ls' := [(0, _), (1, _), (2, _)]) h dX11_every_40 rfl (by decide) rfl rfl ?_
              refine g_goto (tgt := 5) h dX11_every_41 (by decide) ?_
              refine g_del 2 (ls' := [(0, _), (1, _)]) rfl ?_
              exact absurd hl1 (by omega)
            · refine g_iload_n h dX11_every_31 rfl rfl ?_
              refine g_if_eq (tgt := 39) h dX11_every_32 (by decide) (fun c32 => ?_) (fun c32 => ?_)
              · refine g_iconst (v := nI 0) h dX11_every_39 (by decide) ?_
                refine g_istore_n (ls' := [(0, _), (1, _), (2, _)]) h dX11_every_40 rfl (by decide) rfl rfl ?_
                refine g_goto (tgt := 5) h dX11_every_41 (by decide) ?_
                refine g_del 2 (ls' := [(0, _), (1, _)]) rfl ?_
                exact absurd hl1 (by omega)
              · refine g_iconst (v := nI 1) h dX11_every_35 (by decide) ?_
                refine g_goto (tgt := 40) h dX11_every_36 (by decide) ?_
                refine g_istore_n (ls' := [(0, _), (1, _), (2, _)]) h dX11_every_40 rfl (by decide) rfl rfl ?_
                refine g_goto (tgt := 5) h dX11_every_41 (by decide) ?_
                refine g_del 2 (ls' := [(0, _), (1, _)]) rfl ?_
                exact absurd hl1 (by omega)
          · rename_i y23
            rw [h23] at hs23
            obtain ⟨v23, a23, hb23, hE23, ha23, hsa23, hv23, rfl⟩ := hs23
            cases hv23
            have b23 := (hB _ hl3).2 _ h23
            refine g_istore_n (ls' := [(0, _), (1, _), (2, _)]) h dX11_every_26 rfl (by decide) rfl rfl ?_
            refine g_iload_n h dX11_every_27 rfl rfl ?_
            refine g_if_eq (tgt := 39) h dX11_every_28 (by decide) (fun c28 => ?_) (fun c28 => ?_)
            · refine g_iconst (v := nI 0) h dX11_every_39 (by decide) ?_
              refine g_istore_n (ls' := [(0, _), (1, _), (2, _)]) h dX11_every_40 rfl (by decide) rfl rfl ?_
              refine g_goto (tgt := 5) h dX11_every_41 (by decide) ?_
              refine g_del 2 (ls' := [(0, _), (1, _)]) rfl ?_
              exact absurd hl1 (by omega)
            · refine g_iload_n h dX11_every_31 rfl rfl ?_
              refine g_if_eq (tgt := 39) h dX11_every_32 (by decide) (fun c32 => ?_) (fun c32 => ?_)
              · refine g_iconst (v := nI 0) h dX11_every_39 (by decide) ?_
                refine g_istore_n (ls' := [(0, _), (1, _), (2, _)]) h dX11_every_40 rfl (by decide) rfl rfl ?_
                refine g_goto (tgt := 5) h dX11_every_41 (by decide) ?_
                refine g_del 2 (ls' := [(0, _), (1, _)]) rfl ?_
                exact absurd hl1 (by omega)
              · refine g_iconst (v := nI 1) h dX11_every_35 (by decide) ?_
                refine g_goto (tgt := 40) h dX11_every_36 (by decide) ?_
                refine g_istore_n (ls' := [(0, _), (1, _), (2, _)]) h dX11_every_40 rfl (by decide) rfl rfl ?_
                refine g_goto (tgt := 5) h dX11_every_41 (by decide) ?_
                refine g_del 2 (ls' := [(0, _), (1, _)]) rfl ?_
                exact absurd hl1 (by omega)
        · refine g_top (b2_f n16) ?_
          refine g_sto (mr_pv (congrArg nI (if_neg n16))) ?_
          refine g_if_eq (tgt := 44) h dX11_every_19 (by decide) (fun _ => ?_) (fun q => absurd q (by decide))
          refine g_iload_n h dX11_every_44 rfl rfl ?_
          exact g_zretP h hrt dX11_every_45 (by omega) (by first | exact Or.inl rfl | exact Or.inr rfl | exact b2_01 _ | exact hF.2.2.2.1 | exact hF.2.2.2.2 | exact hy | exact hv | simp) (qb_k (by rw [hr]; exact lp_s n16) hv hE h1 (by rw [← hsa]; exact sk_sk (Nat.le_refl _)))
    | succ m ih =>
      intro n a s1 v ws hm ha h1 hsa hn hv hE hr
      obtain ⟨n2, rfl⟩ : ∃ n2, n = n2 + 1 := ⟨n - 1, by omega⟩
      refine g_aload_n h dX11_every_5 rfl rfl ?_
      refine g_getI h fl_X11_25_10 sh_178 (by decide) rfl dX11_every_6 ?_
      refine g_top mr_r12 ?_
      refine g_iconst (v := -1) h dX11_every_9 (by decide) ?_
      refine g_icmp_ne (tgt := 44) h dX11_every_10 (by decide) (fun c10 => ?_) (fun c10 => ?_)
      · exact absurd rfl c10
      · refine g_aload_n h dX11_every_13 rfl rfl ?_
        refine g_ldcS (tx := "and") (k := 25) h (by decide) dX11_every_14 ?_
        refine g_V h lv_X11_119_X11 sh_178 (by decide) rfl (c_X11_hass B f L a s1 hsa (-1) 25 (by decide) (by decide) u hf hL ha) (fitR hR (by first | decide | omega) (by decide) (by omega)) rfl rfl (Nat.le_of_ble_eq_true rfl) dX11_every_16 ?_
        by_cases n16 : wdB f L s1 25 = true
        · refine g_top (b2_t n16) ?_
          refine g_sto (mr_pv (congrArg nI (if_pos n16))) ?_
          have hl1 := wd_lt n16
          have hl2 := nx_lt (f := f) hl1
          have hl3 := (nx_b (f := f) h1).2
          have hl4 := (enN_b (f := f) h1).2
          refine g_if_eq (tgt := 44) h dX11_every_19 (by decide) (fun q => absurd q (by decide)) (fun _ => ?_)
          refine g_aload_n h dX11_every_22 rfl rfl ?_
          refine g_VP h lv_X11_236_X11 sh_178 (by decide) rfl (hA B f L (enN f L s1) (nx f L s1) rfl fa u hf hL hl4 hF hdp) qb_nx (fitR hR (by first | decide | omega) (by decide) (by omega)) rfl rfl (Nat.le_of_ble_eq_true rfl) dX11_every_23 (fun v23 u23 hs23 => ?_)
          cases h23 : (pAt f L k) (nx f L s1)
          · rename_i e23
            rw [h23] at hs23
            obtain ⟨x23, q9, hx23, hq9, hv23, rfl⟩ := hs23
            cases hv23
            refine g_istore_n (ls' := [(0, _), (1, _), (2, _)]) h dX11_every_26 rfl (by decide) rfl rfl ?_
            refine g_iload_n h dX11_every_27 rfl rfl ?_
            refine g_if_eq (tgt := 39) h dX11_every_28 (by decide) (fun c28 => ?_) (fun c28 => ?_)
            · refine g_iconst (v := nI 0) h dX11_every_39 (by decide) ?_
              refine g_istore_n (ls' := [(0, _), (1, _), (2, _)]) h dX11_every_40 rfl (by decide) rfl rfl ?_
              refine g_goto (tgt := 5) h dX11_every_41 (by decide) ?_
              refine g_del 2 (ls' := [(0, _), (1, _)]) rfl ?_
              exact XN _ _ _ (by first | exact Or.inl rfl | exact Or.inr rfl) hq9 (nw ((hB _ hl3).1 _ h23) hL) (by rw [hr]; exact lp_e n16 h23)
            · refine g_iload_n h dX11_every_31 rfl rfl ?_
              refine g_if_eq (tgt := 39) h dX11_every_32 (by decide) (fun c32 => ?_) (fun c32 => ?_)
              · refine g_iconst (v := nI 0) h dX11_every_39 (by decide) ?_
                refine g_istore_n (ls' := [(0, _), (1, _), (2, _)]) h dX11_every_40 rfl (by decide) rfl rfl ?_
                refine g_goto (tgt := 5) h dX11_every_41 (by decide) ?_
                refine g_del 2 (ls' := [(0, _), (1, _)]) rfl ?_
                exact XN _ _ _ (by first | exact Or.inl rfl | exact Or.inr rfl) hq9 (nw ((hB _ hl3).1 _ h23) hL) (by rw [hr]; exact lp_e n16 h23)
              · refine g_iconst (v := nI 1) h dX11_every_35 (by decide) ?_
                refine g_goto (tgt := 40) h dX11_every_36 (by decide) ?_
                refine g_istore_n (ls' := [(0, _), (1, _), (2, _)]) h dX11_every_40 rfl (by decide) rfl rfl ?_
                refine g_goto (tgt := 5) h dX11_every_41 (by decide) ?_
                refine g_del 2 (ls' := [(0, _), (1, _)]) rfl ?_
                exact XN _ _ _ (by first | exact Or.inl rfl | exact Or.inr rfl) hq9 (nw ((hB _ hl3).1 _ h23) hL) (by rw [hr]; exact lp_e n16 h23)
          · rename_i y23
            rw [h23] at hs23
            obtain ⟨v23, a23, hb23, hE23, ha23, hsa23, hv23, rfl⟩ := hs23
            cases hv23
            have b23 := (hB _ hl3).2 _ h23
            refine g_istore_n (ls' := [(0, _), (1, _), (2, _)]) h dX11_every_26 rfl (by decide) rfl rfl ?_
            refine g_iload_n h dX11_every_27 rfl rfl ?_
            refine g_if_eq (tgt := 39) h dX11_every_28 (by decide) (fun c28 => ?_) (fun c28 => ?_)
            · refine g_iconst (v := nI 0) h dX11_every_39 (by decide) ?_
              refine g_istore_n (ls' := [(0, _), (1, _), (2, _)]) h dX11_every_40 rfl (by decide) rfl rfl ?_
              refine g_goto (tgt := 5) h dX11_every_41 (by decide) ?_
              refine g_del 2 (ls' := [(0, _), (1, _)]) rfl ?_
              exact ih n2 _ y23.2 _ (ws ++ y23.1 ++ [-13]) (by omega) ha23 b23.2 hsa23 (by omega) (by first | exact Or.inl rfl | exact Or.inr rfl) (by have := EV_bin hE hE23 (w := -13) (by decide) (by decide) (4 + 2 * k) (Nat.le_refl _) (by omega); rw [an_b hv hb23, if_pos (Or.inl c28)] at this; exact this) (by rw [hr]; exact lp_k n16 h23)
            · refine g_iload_n h dX11_every_31 rfl rfl ?_
              refine g_if_eq (tgt := 39) h dX11_every_32 (by decide) (fun c32 => ?_) (fun c32 => ?_)
              · refine g_iconst (v := nI 0) h dX11_every_39 (by decide) ?_
                refine g_istore_n (ls' := [(0, _), (1, _), (2, _)]) h dX11_every_40 rfl (by decide) rfl rfl ?_
                refine g_goto (tgt := 5) h dX11_every_41 (by decide) ?_
                refine g_del 2 (ls' := [(0, _), (1, _)]) rfl ?_
                exact ih n2 _ y23.2 _ (ws ++ y23.1 ++ [-13]) (by omega) ha23 b23.2 hsa23 (by omega) (by first | exact Or.inl rfl | exact Or.inr rfl) (by have := EV_bin hE hE23 (w := -13) (by decide) (by decide) (4 + 2 * k) (Nat.le_refl _) (by omega); rw [an_b hv hb23, if_pos (Or.inr c32)] at this; exact this) (by rw [hr]; exact lp_k n16 h23)
              · refine g_iconst (v := nI 1) h dX11_every_35 (by decide) ?_
                refine g_goto (tgt := 40) h dX11_every_36 (by decide) ?_
                refine g_istore_n (ls' := [(0, _), (1, _), (2, _)]) h dX11_every_40 rfl (by decide) rfl rfl ?_
                refine g_goto (tgt := 5) h dX11_every_41 (by decide) ?_
                refine g_del 2 (ls' := [(0, _), (1, _)]) rfl ?_
                exact ih n2 _ y23.2 _ (ws ++ y23.1 ++ [-13]) (by omega) ha23 b23.2 hsa23 (by omega) (by first | exact Or.inl rfl | exact Or.inr rfl) (by have := EV_bin hE hE23 (w := -13) (by decide) (by decide) (4 + 2 * k) (Nat.le_refl _) (by omega); rw [an_b hv hb23, if_neg (fun z => z.elim c28 c32)] at this; exact this) (by rw [hr]; exact lp_k n16 h23)
        · refine g_top (b2_f n16) ?_
          refine g_sto (mr_pv (congrArg nI (if_neg n16))) ?_
          refine g_if_eq (tgt := 44) h dX11_every_19 (by decide) (fun _ => ?_) (fun q => absurd q (by decide))
          refine g_iload_n h dX11_every_44 rfl rfl ?_
          exact g_zretP h hrt dX11_every_45 (by omega) (by first | exact Or.inl rfl | exact Or.inr rfl | exact b2_01 _ | exact hF.2.2.2.1 | exact hF.2.2.2.2 | exact hy | exact hv | simp) (qb_k (by rw [hr]; exact lp_s n16) hv hE h1 (by rw [← hsa]; exact sk_sk (Nat.le_refl _)))
  refine g_aload_n h dX11_every_0 rfl rfl ?_
  refine g_VP h lv_X11_236_X11 sh_178 (by decide) rfl (hA B f L p s hs fa u hf hL hp hF hdp) qb_nx (fitR hR (by first | decide | omega) (by decide) (by omega)) rfl rfl (Nat.le_of_ble_eq_true rfl) dX11_every_1 (fun v1 u1 hs1 => ?_)
  cases h1 : (pAt f L k) s
  · rename_i e1
    rw [h1] at hs1
    obtain ⟨x1, q9, hx1, hq9, hv1, rfl⟩ := hs1
    cases hv1
    refine g_istore_n (ls' := [(0, _), (1, _)]) h dX11_every_4 rfl (by decide) rfl rfl ?_
    exact XN _ _ _ hx1 hq9 (nw ((hB _ q0).1 _ h1) hL) (by rw [pEv, h1])
  · rename_i y1
    rw [h1] at hs1
    obtain ⟨v1, a1, hb1, hE1, ha1, hsa1, hv1, rfl⟩ := hs1
    cases hv1
    have b1 := (hB _ q0).2 _ h1
    refine g_istore_n (ls' := [(0, _), (1, _)]) h dX11_every_4 rfl (by decide) rfl rfl ?_
    exact LP L 401 _ y1.2 _ y1.1 (by omega) ha1 b1.2 hsa1 (by omega) hb1 (EV_mono hE1 (by omega)) (by rw [pEv, h1])
set_option maxHeartbeats 1000000 in
theorem c_X11_some_k {E : EE} (k : Nat) (hk6 : k ≤ 6) (hA : AtC E k) (B : Int32) (f : Nat → Int32) (L p s : Nat) (hs : skp f L p = s) (fa : Nat → Int32) (u : Sto) (hf : LF u B f) (hL : L ≤ 400) (hp : p ≤ L) (hF : FA u fa) (hdp : u 178 13 = nI (6 - k)) : CtP E (11 + 3 * k) 0 yX11_some cX11_some 3 (some .boolean) [.ref (E.ad 178)] (MR u B L p (-1)) (QB u B f L fa (5 + 2 * k) k (pSo f L (pAt f L k) s)) := by
  have q0 := (skp_b (f := f) hp).2
  rw [hs] at q0
  have hss : skp f L s = s := by rw [← hs]; exact sk_sk (Nat.le_refl _)
  have e0 := (enN_b (f := f) q0).2
  have hB : SB L (pEv f L (pAt f L k)) := ev_b (at_b k)
  refine ctp_of (by decide) (Nat.le_of_ble_eq_true rfl) (fun X h hR hrt htab hargs => ?_)
  have XN : ∀ (y : Int32) (q9 e9 : Nat), (y = nI 0 ∨ y = nI 1) → q9 ≤ L + k → ¬ nI e9 = -1 → pSo f L (pAt f L k) s = .error e9 → G E X (QMP E X (QB u B f L fa (5 + 2 * k) k (pSo f L (pAt f L k) s)) 0) 3 0 5 [(0, .ref (E.ad 178)), (1, .int y)] [] (MR u B L q9 (nI e9)) := by
    intro y q9 e9 hy hq9 hw9 hr
    refine g_aload_n h dX11_some_5 rfl rfl ?_
    refine g_getI h fl_X11_25_10 sh_178 (by decide) rfl dX11_some_6 ?_
    refine g_top mr_r12 ?_
    refine g_iconst (v := -1) h dX11_some_9 (by decide) ?_
    refine g_icmp_ne (tgt := 44) h dX11_some_10 (by decide) (fun c10 => ?_) (fun c10 => ?_)
    · refine g_iload_n h dX11_some_44 rfl rfl ?_
      exact g_zretP h hrt dX11_some_45 (by omega) (by first | exact Or.inl rfl | exact Or.inr rfl | exact b2_01 _ | exact hF.2.2.2.1 | exact hF.2.2.2.2 | exact hy | exact hv | simp) (qb_e hr hy hq9)
    · exact absurd c10 hw9
  have LP : ∀ (m n a s1 : Nat) (v : Int32) (ws : List Int32), L - s1 ≤ m → a ≤ L → s1 ≤ L → skp f L a = s1 → L < n + s1 → (v = nI 0 ∨ v = nI 1) → EV fa ws v (5 + 2 * k) → pSo f L (pAt f L k) s = lpF f L (pEv f L (pAt f L k)) 26 (-14) n ws s1 → G E X (QMP E X (QB u B f L fa (5 + 2 * k) k (pSo f L (pAt f L k) s)) 0) 3 0 5 [(0, .ref (E.ad 178)), (1, .int v)] [] (MR u B L a (-1)) := by
    intro m
    induction m with
    | zero =>
      intro n a s1 v ws hm ha h1 hsa hn hv hE hr
      obtain ⟨n2, rfl⟩ : ∃ n2, n = n2 + 1 := ⟨n - 1, by omega⟩
      refine g_aload_n h dX11_some_5 rfl rfl ?_
      refine g_getI h fl_X11_25_10 sh_178 (by decide) rfl dX11_some_6 ?_
      refine g_top mr_r12 ?_
      refine g_iconst (v := -1) h dX11_some_9 (by decide) ?_
      refine g_icmp_ne (tgt := 44) h dX11_some_10 (by decide) (fun c10 => ?_) (fun c10 => ?_)
      · exact absurd rfl c10
      · refine g_aload_n h dX11_some_13 rfl rfl ?_
        refine g_ldcS (tx := "or") (k := 26) h (by decide) dX11_some_14 ?_
        refine g_V h lv_X11_119_X11 sh_178 (by decide) rfl (c_X11_hass B f L a s1 hsa (-1) 26 (by decide) (by decide) u hf hL ha) (fitR hR (by first | decide | omega) (by decide) (by omega)) rfl rfl (Nat.le_of_ble_eq_true rfl) dX11_some_16 ?_
        by_cases n16 : wdB f L s1 26 = true
        · refine g_top (b2_t n16) ?_
          refine g_sto (mr_pv (congrArg nI (if_pos n16))) ?_
          have hl1 := wd_lt n16
          have hl2 := nx_lt (f := f) hl1
          have hl3 := (nx_b (f := f) h1).2
          have hl4 := (enN_b (f := f) h1).2
          refine g_if_eq (tgt := 44) h dX11_some_19 (by decide) (fun q => absurd q (by decide)) (fun _ => ?_)
          refine g_aload_n h dX11_some_22 rfl rfl ?_
          refine g_VP h lv_X11_244_X11 sh_178 (by decide) rfl (c_X11_every_k k hk6 hA B f L (enN f L s1) (nx f L s1) rfl fa u hf hL hl4 hF hdp) qb_nx (fitR hR (by first | decide | omega) (by decide) (by omega)) rfl rfl (Nat.le_of_ble_eq_true rfl) dX11_some_23 (fun v23 u23 hs23 => ?_)
          cases h23 : (pEv f L (pAt f L k)) (nx f L s1)
          · rename_i e23
            rw [h23] at hs23
            obtain ⟨x23, q9, hx23, hq9, hv23, rfl⟩ := hs23
            cases hv23
            refine g_istore_n (ls' := [(0, _), (1, _), (2, _)]) h dX11_some_26 rfl (by decide) rfl rfl ?_
            refine g_iload_n h dX11_some_27 rfl rfl ?_
            refine g_if_ne (tgt := 35) h dX11_some_28 (by decide) (fun c28 => ?_) (fun c28 => ?_)
            · refine g_iconst (v := nI 1) h dX11_some_35 (by decide) ?_
              refine g_goto (tgt := 40) h dX11_some_36 (by decide) ?_
              refine g_istore_n (ls' := [(0, _), (1, _), (2, _)]) h dX11_some_40 rfl (by decide) rfl rfl ?_
              refine g_goto (tgt := 5) h dX11_some_41 (by decide) ?_
              refine g_del 2 (ls' := [(0, _), (1, _)]) rfl ?_
              exact absurd hl1 (by omega)
            · refine g_iload_n h dX11_some_31 rfl rfl ?_
              refine g_if_eq (tgt := 39) h dX11_some_32 (by decide) (fun c32 => ?_) (fun c32 => ?_)
              · refine g_iconst (v := nI 0) h dX11_some_39 (by decide) ?_
                refine g_istore_n (ls' := [(0, _), (1, _), (2, _)]) h dX11_some_40 rfl (by decide) rfl rfl ?_
                refine g_goto (tgt := 5) h dX11_some_41 (by decide) ?_
                refine g_del 2 (ls' := [(0, _), (1, _)]) rfl ?_
                exact absurd hl1 (by omega)
              · refine g_iconst (v := nI 1) h dX11_some_35 (by decide) ?_
                refine g_goto (tgt := 40) h dX11_some_36 (by decide) ?_
                refine g_istore_n (ls' := [(0, _), (1, _), (2, _)]) h dX11_some_40 rfl (by decide) rfl rfl ?_
                refine g_goto (tgt := 5) h dX11_some_41 (by decide) ?_
                refine g_del 2 (ls' := [(0, _), (1, _)]) rfl ?_
                exact absurd hl1 (by omega)
          · rename_i y23
            rw [h23] at hs23
            obtain ⟨v23, a23, hb23, hE23, ha23, hsa23, hv23, rfl⟩ := hs23
            cases hv23
            have b23 := (hB _ hl3).2 _ h23
            refine g_istore_n (ls' := [(0, _), (1, _), (2, _)]) h dX11_some_26 rfl (by decide) rfl rfl ?_
            refine g_iload_n h dX11_some_27 rfl rfl ?_
            refine g_if_ne (tgt := 35) h dX11_some_28 (by decide) (fun c28 => ?_) (fun c28 => ?_)
            · refine g_iconst (v := nI 1) h dX11_some_35 (by decide) ?_
              refine g_goto (tgt := 40) h dX11_some_36 (by decide) ?_
              refine g_istore_n (ls' := [(0, _), (1, _), (2, _)]) h dX11_some_40 rfl (by decide) rfl rfl ?_
              refine g_goto (tgt := 5) h dX11_some_41 (by decide) ?_
              refine g_del 2 (ls' := [(0, _), (1, _)]) rfl ?_
              exact absurd hl1 (by omega)
            · refine g_iload_n h dX11_some_31 rfl rfl ?_
              refine g_if_eq (tgt := 39) h dX11_some_32 (by decide) (fun c32 => ?_) (fun c32 => ?_)
              · refine g_iconst (v := nI 0) h dX11_some_39 (by decide) ?_
                refine g_istore_n (ls' := [(0, _), (1, _), (2, _)]) h dX11_some_40 rfl (by decide) rfl rfl ?_
                refine g_goto (tgt := 5) h dX11_some_41 (by decide) ?_
                refine g_del 2 (ls' := [(0, _), (1, _)]) rfl ?_
                exact absurd hl1 (by omega)
              · refine g_iconst (v := nI 1) h dX11_some_35 (by decide) ?_
                refine g_goto (tgt := 40) h dX11_some_36 (by decide) ?_
                refine g_istore_n (ls' := [(0, _), (1, _), (2, _)]) h dX11_some_40 rfl (by decide) rfl rfl ?_
                refine g_goto (tgt := 5) h dX11_some_41 (by decide) ?_
                refine g_del 2 (ls' := [(0, _), (1, _)]) rfl ?_
                exact absurd hl1 (by omega)
        · refine g_top (b2_f n16) ?_
          refine g_sto (mr_pv (congrArg nI (if_neg n16))) ?_
          refine g_if_eq (tgt := 44) h dX11_some_19 (by decide) (fun _ => ?_) (fun q => absurd q (by decide))
          refine g_iload_n h dX11_some_44 rfl rfl ?_
          exact g_zretP h hrt dX11_some_45 (by omega) (by first | exact Or.inl rfl | exact Or.inr rfl | exact b2_01 _ | exact hF.2.2.2.1 | exact hF.2.2.2.2 | exact hy | exact hv | simp) (qb_k (by rw [hr]; exact lp_s n16) hv hE h1 (by rw [← hsa]; exact sk_sk (Nat.le_refl _)))
    | succ m ih =>
      intro n a s1 v ws hm ha h1 hsa hn hv hE hr
      obtain ⟨n2, rfl⟩ : ∃ n2, n = n2 + 1 := ⟨n - 1, by omega⟩
      refine g_aload_n h dX11_some_5 rfl rfl ?_
      refine g_getI h fl_X11_25_10 sh_178 (by decide) rfl dX11_some_6 ?_
      refine g_top mr_r12 ?_
      refine g_iconst (v := -1) h dX11_some_9 (by decide) ?_
      refine g_icmp_ne (tgt := 44) h dX11_some_10 (by decide) (fun c10 => ?_) (fun c10 => ?_)
      · exact absurd rfl c10
      · refine g_aload_n h dX11_some_13 rfl rfl ?_
        refine g_ldcS (tx := "or") (k := 26) h (by decide) dX11_some_14 ?_
        refine g_V h lv_X11_119_X11 sh_178 (by decide) rfl (c_X11_hass B f L a s1 hsa (-1) 26 (by decide) (by decide) u hf hL ha) (fitR hR (by first | decide | omega) (by decide) (by omega)) rfl rfl (Nat.le_of_ble_eq_true rfl) dX11_some_16 ?_
        by_cases n16 : wdB f L s1 26 = true
        · refine g_top (b2_t n16) ?_
          refine g_sto (mr_pv (congrArg nI (if_pos n16))) ?_
          have hl1 := wd_lt n16
          have hl2 := nx_lt (f := f) hl1
          have hl3 := (nx_b (f := f) h1).2
          have hl4 := (enN_b (f := f) h1).2
          refine g_if_eq (tgt := 44) h dX11_some_19 (by decide) (fun q => absurd q (by decide)) (fun _ => ?_)
          refine g_aload_n h dX11_some_22 rfl rfl ?_
          refine g_VP h lv_X11_244_X11 sh_178 (by decide) rfl (c_X11_every_k k hk6 hA B f L (enN f L s1) (nx f L s1) rfl fa u hf hL hl4 hF hdp) qb_nx (fitR hR (by first | decide | omega) (by decide) (by omega)) rfl rfl (Nat.le_of_ble_eq_true rfl) dX11_some_23 (fun v23 u23 hs23 => ?_)
          cases h23 : (pEv f L (pAt f L k)) (nx f L s1)
          · rename_i e23
            rw [h23] at hs23
            obtain ⟨x23, q9, hx23, hq9, hv23, rfl⟩ := hs23
            cases hv23
            refine g_istore_n (ls' := [(0, _), (1, _), (2, _)]) h dX11_some_26 rfl (by decide) rfl rfl ?_
            refine g_iload_n h dX11_some_27 rfl rfl ?_
            refine g_if_ne (tgt := 35) h dX11_some_28 (by decide) (fun c28 => ?_) (fun c28 => ?_)
            · refine g_iconst (v := nI 1) h dX11_some_35 (by decide) ?_
              refine g_goto (tgt := 40) h dX11_some_36 (by decide) ?_
              refine g_istore_n (ls' := [(0, _), (1, _), (2, _)]) h dX11_some_40 rfl (by decide) rfl rfl ?_
              refine g_goto (tgt := 5) h dX11_some_41 (by decide) ?_
              refine g_del 2 (ls' := [(0, _), (1, _)]) rfl ?_
              exact XN _ _ _ (by first | exact Or.inl rfl | exact Or.inr rfl) hq9 (nw ((hB _ hl3).1 _ h23) hL) (by rw [hr]; exact lp_e n16 h23)
            · refine g_iload_n h dX11_some_31 rfl rfl ?_
              refine g_if_eq (tgt := 39) h dX11_some_32 (by decide) (fun c32 => ?_) (fun c32 => ?_)
              · refine g_iconst (v := nI 0) h dX11_some_39 (by decide) ?_
                refine g_istore_n (ls' := [(0, _), (1, _), (2, _)]) h dX11_some_40 rfl (by decide) rfl rfl ?_
                refine g_goto (tgt := 5) h dX11_some_41 (by decide) ?_
                refine g_del 2 (ls' := [(0, _), (1, _)]) rfl ?_
                exact XN _ _ _ (by first | exact Or.inl rfl | exact Or.inr rfl) hq9 (nw ((hB _ hl3).1 _ h23) hL) (by rw [hr]; exact lp_e n16 h23)
              · refine g_iconst (v := nI 1) h dX11_some_35 (by decide) ?_
                refine g_goto (tgt := 40) h dX11_some_36 (by decide) ?_
                refine g_istore_n (ls' := [(0, _), (1, _), (2, _)]) h dX11_some_40 rfl (by decide) rfl rfl ?_
                refine g_goto (tgt := 5) h dX11_some_41 (by decide) ?_
                refine g_del 2 (ls' := [(0, _), (1, _)]) rfl ?_
                exact XN _ _ _ (by first | exact Or.inl rfl | exact Or.inr rfl) hq9 (nw ((hB _ hl3).1 _ h23) hL) (by rw [hr]; exact lp_e n16 h23)
          · rename_i y23
            rw [h23] at hs23
            obtain ⟨v23, a23, hb23, hE23, ha23, hsa23, hv23, rfl⟩ := hs23
            cases hv23
            have b23 := (hB _ hl3).2 _ h23
            refine g_istore_n (ls' := [(0, _), (1, _), (2, _)]) h dX11_some_26 rfl (by decide) rfl rfl ?_
            refine g_iload_n h dX11_some_27 rfl rfl ?_
            refine g_if_ne (tgt := 35) h dX11_some_28 (by decide) (fun c28 => ?_) (fun c28 => ?_)
            · refine g_iconst (v := nI 1) h dX11_some_35 (by decide) ?_
              refine g_goto (tgt := 40) h dX11_some_36 (by decide) ?_
              refine g_istore_n (ls' := [(0, _), (1, _), (2, _)]) h dX11_some_40 rfl (by decide) rfl rfl ?_
              refine g_goto (tgt := 5) h dX11_some_41 (by decide) ?_
              refine g_del 2 (ls' := [(0, _), (1, _)]) rfl ?_
              exact ih n2 _ y23.2 _ (ws ++ y23.1 ++ [-14]) (by omega) ha23 b23.2 hsa23 (by omega) (by first | exact Or.inl rfl | exact Or.inr rfl) (by have := EV_bin hE hE23 (w := -14) (by decide) (by decide) (5 + 2 * k) (Nat.le_refl _) (by omega); rw [or_b hv hb23, if_neg (fun z => c28 z.1)] at this; exact this) (by rw [hr]; exact lp_k n16 h23)
            · refine g_iload_n h dX11_some_31 rfl rfl ?_
              refine g_if_eq (tgt := 39) h dX11_some_32 (by decide) (fun c32 => ?_) (fun c32 => ?_)
              · refine g_iconst (v := nI 0) h dX11_some_39 (by decide) ?_
                refine g_istore_n (ls' := [(0, _), (1, _), (2, _)]) h dX11_some_40 rfl (by decide) rfl rfl ?_
                refine g_goto (tgt := 5) h dX11_some_41 (by decide) ?_
                refine g_del 2 (ls' := [(0, _), (1, _)]) rfl ?_
                exact ih n2 _ y23.2 _ (ws ++ y23.1 ++ [-14]) (by omega) ha23 b23.2 hsa23 (by omega) (by first | exact Or.inl rfl | exact Or.inr rfl) (by have := EV_bin hE hE23 (w := -14) (by decide) (by decide) (5 + 2 * k) (Nat.le_refl _) (by omega); rw [or_b hv hb23, if_pos ⟨c28, c32⟩] at this; exact this) (by rw [hr]; exact lp_k n16 h23)
              · refine g_iconst (v := nI 1) h dX11_some_35 (by decide) ?_
                refine g_goto (tgt := 40) h dX11_some_36 (by decide) ?_
                refine g_istore_n (ls' := [(0, _), (1, _), (2, _)]) h dX11_some_40 rfl (by decide) rfl rfl ?_
                refine g_goto (tgt := 5) h dX11_some_41 (by decide) ?_
                refine g_del 2 (ls' := [(0, _), (1, _)]) rfl ?_
                exact ih n2 _ y23.2 _ (ws ++ y23.1 ++ [-14]) (by omega) ha23 b23.2 hsa23 (by omega) (by first | exact Or.inl rfl | exact Or.inr rfl) (by have := EV_bin hE hE23 (w := -14) (by decide) (by decide) (5 + 2 * k) (Nat.le_refl _) (by omega); rw [or_b hv hb23, if_neg (fun z => c32 z.2)] at this; exact this) (by rw [hr]; exact lp_k n16 h23)
        · refine g_top (b2_f n16) ?_
          refine g_sto (mr_pv (congrArg nI (if_neg n16))) ?_
          refine g_if_eq (tgt := 44) h dX11_some_19 (by decide) (fun _ => ?_) (fun q => absurd q (by decide))
          refine g_iload_n h dX11_some_44 rfl rfl ?_
          exact g_zretP h hrt dX11_some_45 (by omega) (by first | exact Or.inl rfl | exact Or.inr rfl | exact b2_01 _ | exact hF.2.2.2.1 | exact hF.2.2.2.2 | exact hy | exact hv | simp) (qb_k (by rw [hr]; exact lp_s n16) hv hE h1 (by rw [← hsa]; exact sk_sk (Nat.le_refl _)))
  refine g_aload_n h dX11_some_0 rfl rfl ?_
  refine g_VP h lv_X11_244_X11 sh_178 (by decide) rfl (c_X11_every_k k hk6 hA B f L p s hs fa u hf hL hp hF hdp) qb_nx (fitR hR (by first | decide | omega) (by decide) (by omega)) rfl rfl (Nat.le_of_ble_eq_true rfl) dX11_some_1 (fun v1 u1 hs1 => ?_)
  cases h1 : (pEv f L (pAt f L k)) s
  · rename_i e1
    rw [h1] at hs1
    obtain ⟨x1, q9, hx1, hq9, hv1, rfl⟩ := hs1
    cases hv1
    refine g_istore_n (ls' := [(0, _), (1, _)]) h dX11_some_4 rfl (by decide) rfl rfl ?_
    exact XN _ _ _ hx1 hq9 (nw ((hB _ q0).1 _ h1) hL) (by rw [pSo, h1])
  · rename_i y1
    rw [h1] at hs1
    obtain ⟨v1, a1, hb1, hE1, ha1, hsa1, hv1, rfl⟩ := hs1
    cases hv1
    have b1 := (hB _ q0).2 _ h1
    refine g_istore_n (ls' := [(0, _), (1, _)]) h dX11_some_4 rfl (by decide) rfl rfl ?_
    exact LP L 401 _ y1.2 _ y1.1 (by omega) ha1 b1.2 hsa1 (by omega) hb1 (EV_mono hE1 (by omega)) (by rw [pSo, h1])
