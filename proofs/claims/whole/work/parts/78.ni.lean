-- after: 38.r 39.s 40.t 47.str 48.tx 49.ty 50.tt 51.tu 52.tv 53.lw 54.lx 59.mc 62.mf 70.na 71.nb 72.nc 73.nd 74.ne 75.nf 76.ng 77.nh
def restS (f : Nat → Int32) (L j s : Nat) : PW := if sgP f L s (nI 43) then sumN f L j false (nx f L s) else .ok ([], s)
theorem sum_r {f : Nat → Int32} {L j p : Nat} {fst : Bool} {w : Int32} (h : partW f L p = some w) : sumN f L (j + 1) fst p = pre (if fst = true then [w] else [w, -9]) (restS f L j (nx f L p)) := by
  unfold restS
  by_cases hs : sgP f L (nx f L p) (nI 43)
  · rw [if_pos hs, sum_m h hs]
  · rw [if_neg hs, sum_o h hs]
    simp [pre]
def QS (u : Sto) (B : Int32) (f : Nat → Int32) (L : Nat) (fa : Nat → Int32) (d : Nat) (r : PW) : Res → Sto → Prop := fun o t => match r with
  | .error e => ∃ x q, q ≤ L ∧ o = .inl (some (.int x)) ∧ t = MR u B L q (nI e)
  | .ok y => ∃ v a, EV fa y.1 v d ∧ a ≤ L ∧ skp f L a = y.2 ∧ o = .inl (some (.int v)) ∧ t = MR u B L a (-1)
theorem qs_nx {u : Sto} {B : Int32} {f : Nat → Int32} {L : Nat} {fa : Nat → Int32} {d : Nat} {r : PW} : ∀ Ex s, ¬ QS u B f L fa d r (.inr Ex) s := by
  intro Ex s h
  cases r with
  | error e => obtain ⟨_, _, _, h, _⟩ := h; exact nomatch h
  | ok q => obtain ⟨_, _, _, _, _, h, _⟩ := h; exact nomatch h
theorem qs_e {u : Sto} {B : Int32} {f : Nat → Int32} {L : Nat} {fa : Nat → Int32} {d : Nat} {r : PW} {e q : Nat} {x : Int32} (h : r = .error e) (hq : q ≤ L) : QS u B f L fa d r (.inl (some (.int x))) (MR u B L q (nI e)) := by
  rw [h]; exact ⟨x, q, hq, rfl, rfl⟩
theorem qs_k {u : Sto} {B : Int32} {f : Nat → Int32} {L : Nat} {fa : Nat → Int32} {d : Nat} {r : PW} {y : List Int32 × Nat} {a : Nat} {v : Int32} (h : r = .ok y) (hv : EV fa y.1 v d) (ha : a ≤ L) (hs : skp f L a = y.2) : QS u B f L fa d r (.inl (some (.int v))) (MR u B L a (-1)) := by
  rw [h]; exact ⟨v, a, hv, ha, hs, rfl, rfl⟩
theorem jn_9 {x y : Int32} : jn (-9) x y = x + y := by
  unfold jn
  rw [if_neg (by decide), if_neg (by decide), if_neg (by decide), if_neg (by decide), if_pos rfl]
set_option maxHeartbeats 1000000 in
theorem c_X11_sum {E : EE} (B : Int32) (f : Nat → Int32) (L p : Nat) (s : Nat) (hs : skp f L p = s) (fa : Nat → Int32) (u : Sto) (hf : LF u B f) (hL : L ≤ 400) (hp : p ≤ L) (hF : FA u fa) : CtP E 7 0 yX11_sum cX11_sum 2 (some .int) [.ref (E.ad 178)] (MR u B L p (-1)) (QS u B f L fa 2 (sumN f L 400 true s)) := by
  have q0 := (skp_b (f := f) hp).2
  rw [hs] at q0
  have hss : skp f L s = s := by rw [← hs]; exact sk_sk (Nat.le_refl _)
  have e0 := (enN_b (f := f) q0).2
  refine ctp_of (by decide) (Nat.le_of_ble_eq_true rfl) (fun X h hR hrt htab hargs => ?_)
  have XN : ∀ (y : Int32) (q9 e9 : Nat), q9 ≤ L → ¬ nI e9 = -1 → sumN f L 400 true s = .error e9 → G E X (QMP E X (QS u B f L fa 2 (sumN f L 400 true s)) 0) 2 0 5 [(0, .ref (E.ad 178)), (1, .int y)] [] (MR u B L q9 (nI e9)) := by
    intro y q9 e9 hq9 hw9 hr
    refine g_aload_n h dX11_sum_5 rfl rfl ?_
    refine g_getI h fl_X11_25_10 sh_178 (by decide) rfl dX11_sum_6 ?_
    refine g_top mr_r12 ?_
    refine g_iconst (v := -1) h dX11_sum_9 (by decide) ?_
    refine g_icmp_ne (tgt := 42) h dX11_sum_10 (by decide) (fun c10 => ?_) (fun c10 => ?_)
    · refine g_iload_n h dX11_sum_42 rfl rfl ?_
      exact g_iretP h hrt dX11_sum_43 (by omega) (qs_e hr hq9)
    · exact absurd c10 hw9
  have LP : ∀ (k j a s1 : Nat) (n : Int32) (ws : List Int32), L - s1 ≤ k → a ≤ L → s1 ≤ L → skp f L a = s1 → L ≤ j + s1 → EV fa ws n 2 → sumN f L 400 true s = pre ws (restS f L j s1) → G E X (QMP E X (QS u B f L fa 2 (sumN f L 400 true s)) 0) 2 0 5 [(0, .ref (E.ad 178)), (1, .int n)] [] (MR u B L a (-1)) := by
    intro k
    induction k with
    | zero =>
      intro j a s1 n ws hk ha h1 hsa hj hE hr
      have hss : skp f L s1 = s1 := by rw [← hsa]; exact sk_sk (Nat.le_refl _)
      refine g_aload_n h dX11_sum_5 rfl rfl ?_
      refine g_getI h fl_X11_25_10 sh_178 (by decide) rfl dX11_sum_6 ?_
      refine g_top mr_r12 ?_
      refine g_iconst (v := -1) h dX11_sum_9 (by decide) ?_
      refine g_icmp_ne (tgt := 42) h dX11_sum_10 (by decide) (fun c10 => ?_) (fun c10 => ?_)
      · exact absurd rfl c10
      · refine g_aload_n h dX11_sum_13 rfl rfl ?_
        refine g_bipush (v := nI 43) h dX11_sum_14 (by decide) ?_
        refine g_V h lv_X11_193_X11 sh_178 (by decide) rfl (c_X11_signs B f L a s1 hsa (-1) (nI 43) (by decide) (by decide) u hf hL ha) (fitR hR (by first | decide | omega) (by decide) (by omega)) rfl rfl (Nat.le_of_ble_eq_true rfl) dX11_sum_16 ?_
        by_cases n16 : sgP f L s1 (nI 43)
        · refine g_top (b2_t n16) ?_
          refine g_if_eq (tgt := 42) h dX11_sum_19 (by decide) (fun q => absurd q (by decide)) (fun _ => ?_)
          refine g_aload_n h dX11_sum_22 rfl rfl ?_
          refine g_dup h dX11_sum_23 rfl ?_
          refine g_getI h fl_X11_97_10 sh_178 (by decide) rfl dX11_sum_24 ?_
          refine g_top mr_r11 ?_
          refine g_iconst (v := nI 1) h dX11_sum_27 (by decide) ?_
          refine g_iadd h dX11_sum_28 ?_
          refine g_top (nI_1 s1) ?_
          refine g_putI h pfl_X11_97_10 sh_178 (by decide) rfl dX11_sum_29 ?_
          refine g_sto mr_w11 ?_
          refine g_iload_n h dX11_sum_32 rfl rfl ?_
          refine g_aload_n h dX11_sum_33 rfl rfl ?_
          refine g_VP h lv_X11_215_X11 sh_178 (by decide) rfl (c_X11_part B f L (s1 + 1) (nx f L s1) (by rw [← sg_en n16]; rfl) fa u hf hL (by have := sg_lt n16; omega) hF) (by rintro Ex s (⟨_, _, _, h, _⟩ | ⟨_, _, _, _, h, _⟩) <;> exact nomatch h) (fitR hR (by first | decide | omega) (by decide) (by omega)) rfl rfl (Nat.le_of_ble_eq_true rfl) dX11_sum_34 (fun v34 u34 hs34 => ?_)
          rcases hs34 with ⟨w34, n34, h8, hv34, rfl⟩ | ⟨n34, x34, q9, hq9, hv34, rfl⟩
          · cases hv34
            refine g_iadd h dX11_sum_37 ?_
            refine g_istore_n (ls' := [(0, _), (1, _)]) h dX11_sum_38 rfl (by decide) rfl rfl ?_
            refine g_goto (tgt := 5) h dX11_sum_39 (by decide) ?_
            exact absurd (sg_lt n16) (by omega)
          · cases hv34
            refine g_iadd h dX11_sum_37 ?_
            refine g_istore_n (ls' := [(0, _), (1, _)]) h dX11_sum_38 rfl (by decide) rfl rfl ?_
            refine g_goto (tgt := 5) h dX11_sum_39 (by decide) ?_
            exact absurd (sg_lt n16) (by omega)
        · refine g_top (b2_f n16) ?_
          refine g_if_eq (tgt := 42) h dX11_sum_19 (by decide) (fun _ => ?_) (fun q => absurd q (by decide))
          refine g_iload_n h dX11_sum_42 rfl rfl ?_
          exact g_iretP h hrt dX11_sum_43 (by omega) (qs_k (by rw [hr, restS, if_neg n16]; rfl) (by rw [List.append_nil]; exact hE) h1 hss)
    | succ k ih =>
      intro j a s1 n ws hk ha h1 hsa hj hE hr
      have hss : skp f L s1 = s1 := by rw [← hsa]; exact sk_sk (Nat.le_refl _)
      refine g_aload_n h dX11_sum_5 rfl rfl ?_
      refine g_getI h fl_X11_25_10 sh_178 (by decide) rfl dX11_sum_6 ?_
      refine g_top mr_r12 ?_
      refine g_iconst (v := -1) h dX11_sum_9 (by decide) ?_
      refine g_icmp_ne (tgt := 42) h dX11_sum_10 (by decide) (fun c10 => ?_) (fun c10 => ?_)
      · exact absurd rfl c10
      · refine g_aload_n h dX11_sum_13 rfl rfl ?_
        refine g_bipush (v := nI 43) h dX11_sum_14 (by decide) ?_
        refine g_V h lv_X11_193_X11 sh_178 (by decide) rfl (c_X11_signs B f L a s1 hsa (-1) (nI 43) (by decide) (by decide) u hf hL ha) (fitR hR (by first | decide | omega) (by decide) (by omega)) rfl rfl (Nat.le_of_ble_eq_true rfl) dX11_sum_16 ?_
        by_cases n16 : sgP f L s1 (nI 43)
        · refine g_top (b2_t n16) ?_
          refine g_if_eq (tgt := 42) h dX11_sum_19 (by decide) (fun q => absurd q (by decide)) (fun _ => ?_)
          refine g_aload_n h dX11_sum_22 rfl rfl ?_
          refine g_dup h dX11_sum_23 rfl ?_
          refine g_getI h fl_X11_97_10 sh_178 (by decide) rfl dX11_sum_24 ?_
          refine g_top mr_r11 ?_
          refine g_iconst (v := nI 1) h dX11_sum_27 (by decide) ?_
          refine g_iadd h dX11_sum_28 ?_
          refine g_top (nI_1 s1) ?_
          refine g_putI h pfl_X11_97_10 sh_178 (by decide) rfl dX11_sum_29 ?_
          refine g_sto mr_w11 ?_
          refine g_iload_n h dX11_sum_32 rfl rfl ?_
          refine g_aload_n h dX11_sum_33 rfl rfl ?_
          refine g_VP h lv_X11_215_X11 sh_178 (by decide) rfl (c_X11_part B f L (s1 + 1) (nx f L s1) (by rw [← sg_en n16]; rfl) fa u hf hL (by have := sg_lt n16; omega) hF) (by rintro Ex s (⟨_, _, _, h, _⟩ | ⟨_, _, _, _, h, _⟩) <;> exact nomatch h) (fitR hR (by first | decide | omega) (by decide) (by omega)) rfl rfl (Nat.le_of_ble_eq_true rfl) dX11_sum_34 (fun v34 u34 hs34 => ?_)
          rcases hs34 with ⟨w34, n34, h8, hv34, rfl⟩ | ⟨n34, x34, q9, hq9, hv34, rfl⟩
          · cases hv34
            refine g_iadd h dX11_sum_37 ?_
            refine g_istore_n (ls' := [(0, _), (1, _)]) h dX11_sum_38 rfl (by decide) rfl rfl ?_
            refine g_goto (tgt := 5) h dX11_sum_39 (by decide) ?_
            have hl1 := sg_lt n16
            have hl2 := nx_lt (f := f) hl1
            have hl3 := (nx_b (f := f) h1).2
            obtain ⟨j2, rfl⟩ : ∃ j2, j = j2 + 1 := ⟨j - 1, by omega⟩
            have hl4 := part_lt n34
            have hl5 := nx_lt (f := f) hl4
            have hl6 := (nx_b (f := f) hl3).2
            exact ih j2 _ (nx f L (nx f L s1)) _ (ws ++ [w34, -9]) (by omega) (enN_b hl3).2 hl6 rfl (by omega) (by have := EV_bin hE (EV_1 (fa := fa) h8) (w := -9) (by decide) (by decide) 2 (Nat.le_refl _) (by decide); rw [jn_9] at this; rw [List.append_assoc] at this; exact this) (by rw [hr, restS, if_pos n16, sum_r n34, pre_pre]; rfl)
          · cases hv34
            refine g_iadd h dX11_sum_37 ?_
            refine g_istore_n (ls' := [(0, _), (1, _)]) h dX11_sum_38 rfl (by decide) rfl rfl ?_
            refine g_goto (tgt := 5) h dX11_sum_39 (by decide) ?_
            have hl1 := sg_lt n16
            have hl2 := nx_lt (f := f) hl1
            have hl3 := (nx_b (f := f) h1).2
            obtain ⟨j2, rfl⟩ : ∃ j2, j = j2 + 1 := ⟨j - 1, by omega⟩
            exact XN _ _ _ hq9 (nw hl3 hL) (by rw [hr, restS, if_pos n16, sum_e n34]; rfl)
        · refine g_top (b2_f n16) ?_
          refine g_if_eq (tgt := 42) h dX11_sum_19 (by decide) (fun _ => ?_) (fun q => absurd q (by decide))
          refine g_iload_n h dX11_sum_42 rfl rfl ?_
          exact g_iretP h hrt dX11_sum_43 (by omega) (qs_k (by rw [hr, restS, if_neg n16]; rfl) (by rw [List.append_nil]; exact hE) h1 hss)
  refine g_aload_n h dX11_sum_0 rfl rfl ?_
  refine g_VP h lv_X11_215_X11 sh_178 (by decide) rfl (c_X11_part B f L p s hs fa u hf hL hp hF) (by rintro Ex s (⟨_, _, _, h, _⟩ | ⟨_, _, _, _, h, _⟩) <;> exact nomatch h) (fitR hR (by first | decide | omega) (by decide) (by omega)) rfl rfl (Nat.le_of_ble_eq_true rfl) dX11_sum_1 (fun v1 u1 hs1 => ?_)
  rcases hs1 with ⟨w1, n1, h8, hv1, rfl⟩ | ⟨n1, x1, q9, hq9, hv1, rfl⟩
  · cases hv1
    refine g_istore_n (ls' := [(0, _), (1, _)]) h dX11_sum_4 rfl (by decide) rfl rfl ?_
    have hl4 := part_lt n1
    have hl5 := nx_lt (f := f) hl4
    exact LP L 399 _ (nx f L s) _ [w1] (by omega) e0 (nx_b q0).2 rfl (by omega) (EV_mono (EV_1 h8) (by decide)) (by rw [sum_r n1]; rfl)
  · cases hv1
    refine g_istore_n (ls' := [(0, _), (1, _)]) h dX11_sum_4 rfl (by decide) rfl rfl ?_
    exact XN _ _ _ hq9 (nw q0 hL) (sum_e n1)
def QB (u : Sto) (B : Int32) (f : Nat → Int32) (L : Nat) (fa : Nat → Int32) (d c : Nat) (r : PW) : Res → Sto → Prop := fun o t => match r with
  | .error e => ∃ x q, (x = nI 0 ∨ x = nI 1) ∧ q ≤ L + c ∧ o = .inl (some (.int x)) ∧ t = MR u B L q (nI e)
  | .ok y => ∃ v a, (v = nI 0 ∨ v = nI 1) ∧ EV fa y.1 v d ∧ a ≤ L ∧ skp f L a = y.2 ∧ o = .inl (some (.int v)) ∧ t = MR u B L a (-1)
theorem qb_nx {u : Sto} {B : Int32} {f : Nat → Int32} {L : Nat} {fa : Nat → Int32} {d c : Nat} {r : PW} : ∀ Ex s, ¬ QB u B f L fa d c r (.inr Ex) s := by
  intro Ex s h
  cases r with
  | error e => obtain ⟨_, _, _, _, h, _⟩ := h; exact nomatch h
  | ok q => obtain ⟨_, _, _, _, _, _, h, _⟩ := h; exact nomatch h
theorem qb_e {u : Sto} {B : Int32} {f : Nat → Int32} {L : Nat} {fa : Nat → Int32} {d c : Nat} {r : PW} {e q : Nat} {x : Int32} (h : r = .error e) (hx : x = nI 0 ∨ x = nI 1) (hq : q ≤ L + c) : QB u B f L fa d c r (.inl (some (.int x))) (MR u B L q (nI e)) := by
  rw [h]; exact ⟨x, q, hx, hq, rfl, rfl⟩
theorem qb_k {u : Sto} {B : Int32} {f : Nat → Int32} {L : Nat} {fa : Nat → Int32} {d c : Nat} {r : PW} {y : List Int32 × Nat} {a : Nat} {v : Int32} (h : r = .ok y) (hx : v = nI 0 ∨ v = nI 1) (hv : EV fa y.1 v d) (ha : a ≤ L) (hs : skp f L a = y.2) : QB u B f L fa d c r (.inl (some (.int v))) (MR u B L a (-1)) := by
  rw [h]; exact ⟨v, a, hx, hv, ha, hs, rfl, rfl⟩
theorem b2_0n {p : Prop} [Decidable p] : b2 p = nI 0 ∨ b2 p = nI 1 := b2_01 p
theorem jn_10 {x y : Int32} : jn (-10) x y = b2 (¬ y ≤ x) := by
  unfold jn
  rw [if_neg (by decide), if_neg (by decide), if_neg (by decide), if_pos rfl]
theorem jn_11 {x y : Int32} : jn (-11) x y = b2 (¬ x ≤ y) := by
  unfold jn
  rw [if_neg (by decide), if_neg (by decide), if_pos rfl]
theorem pl_1 {f : Nat → Int32} {L s : Nat} (h : wdB f L s 1 = true) : plnF f L s = .ok ([-7], nx f L s) := by rw [plnF, if_pos h]
theorem pl_2 {f : Nat → Int32} {L s : Nat} (h : ¬ wdB f L s 1 = true) (h2 : wdB f L s 19 = true) : plnF f L s = .ok ([-8], nx f L s) := by rw [plnF, if_neg h, if_pos h2]
theorem pl_e1 {f : Nat → Int32} {L s e : Nat} (h : ¬ wdB f L s 1 = true) (h2 : ¬ wdB f L s 19 = true) (h3 : sumN f L 400 true s = .error e) : plnF f L s = .error e := by rw [plnF, if_neg h, if_neg h2, h3]
theorem pl_e2 {f : Nat → Int32} {L s : Nat} {q : List Int32 × Nat} (h : ¬ wdB f L s 1 = true) (h2 : ¬ wdB f L s 19 = true) (h3 : sumN f L 400 true s = .ok q) (h4 : ¬ (sgP f L q.2 (nI 60) ∨ sgP f L q.2 (nI 62))) : plnF f L s = .error q.2 := by rw [plnF, if_neg h, if_neg h2, h3]; exact if_neg h4
theorem pl_e3 {f : Nat → Int32} {L s e : Nat} {q : List Int32 × Nat} (h : ¬ wdB f L s 1 = true) (h2 : ¬ wdB f L s 19 = true) (h3 : sumN f L 400 true s = .ok q) (h4 : sgP f L q.2 (nI 60) ∨ sgP f L q.2 (nI 62)) (h5 : sumN f L 400 true (nx f L q.2) = .error e) : plnF f L s = .error e := by rw [plnF, if_neg h, if_neg h2, h3]; exact (if_pos h4).trans (by rw [h5])
theorem pl_k {f : Nat → Int32} {L s : Nat} {q r : List Int32 × Nat} {w : Int32} (h : ¬ wdB f L s 1 = true) (h2 : ¬ wdB f L s 19 = true) (h3 : sumN f L 400 true s = .ok q) (h4 : sgP f L q.2 (nI 60) ∨ sgP f L q.2 (nI 62)) (h5 : sumN f L 400 true (nx f L q.2) = .ok r) (h6 : w = if sgP f L q.2 (nI 60) then -10 else -11) : plnF f L s = .ok (q.1 ++ r.1 ++ [w], r.2) := by rw [plnF, if_neg h, if_neg h2, h3]; exact (if_pos h4).trans (by rw [h5, h6])
set_option maxHeartbeats 1000000 in
theorem c_X11_plain {E : EE} (B : Int32) (f : Nat → Int32) (L p : Nat) (s : Nat) (hs : skp f L p = s) (fa : Nat → Int32) (u : Sto) (hf : LF u B f) (hL : L ≤ 400) (hp : p ≤ L) (hF : FA u fa) : CtP E 8 0 yX11_plain cX11_plain 4 (some .boolean) [.ref (E.ad 178)] (MR u B L p (-1)) (QB u B f L fa 3 0 (plnF f L s)) := by
  have q0 := (skp_b (f := f) hp).2
  rw [hs] at q0
  have hss : skp f L s = s := by rw [← hs]; exact sk_sk (Nat.le_refl _)
  have e0 := (enN_b (f := f) q0).2
  refine ctp_of (by decide) (Nat.le_of_ble_eq_true rfl) (fun X h hR hrt htab hargs => ?_)
  refine g_aload_n h dX11_plain_0 rfl rfl ?_
  refine g_ldcS (tx := "likes") (k := 1) h (by decide) dX11_plain_1 ?_
  refine g_V h lv_X11_119_X11 sh_178 (by decide) rfl (c_X11_hass B f L p s hs (-1) 1 (by decide) (by decide) u hf hL hp) (fitR hR (by first | decide | omega) (by decide) (by omega)) rfl rfl (Nat.le_of_ble_eq_true rfl) dX11_plain_3 ?_
  by_cases n3 : wdB f L s 1 = true
  · refine g_top (b2_t n3) ?_
    refine g_sto (mr_pv (congrArg nI (if_pos n3))) ?_
    refine g_if_eq (tgt := 14) h dX11_plain_6 (by decide) (fun q => absurd q (by decide)) (fun _ => ?_)
    refine g_aload_n h dX11_plain_9 rfl rfl ?_
    refine g_getI h fl_X11_218_10 sh_178 (by decide) rfl dX11_plain_10 ?_
    refine g_top (mr_s (by decide)) ?_
    exact g_zbitP h hrt dX11_plain_13 (by omega) hF.2.1 (qb_k (pl_1 n3) hF.2.2.2.1 (EV_mono (EV_1 (fa := fa) (w := -7) (by decide)) (by decide)) e0 rfl)
  · refine g_top (b2_f n3) ?_
    refine g_sto (mr_pv (congrArg nI (if_neg n3))) ?_
    refine g_if_eq (tgt := 14) h dX11_plain_6 (by decide) (fun _ => ?_) (fun q => absurd q (by decide))
    refine g_aload_n h dX11_plain_14 rfl rfl ?_
    refine g_ldcS (tx := "beside") (k := 19) h (by decide) dX11_plain_15 ?_
    refine g_V h lv_X11_119_X11 sh_178 (by decide) rfl (c_X11_hass B f L s s hss (-1) 19 (by decide) (by decide) u hf hL q0) (fitR hR (by first | decide | omega) (by decide) (by omega)) rfl rfl (Nat.le_of_ble_eq_true rfl) dX11_plain_17 ?_
    by_cases n17 : wdB f L s 19 = true
    · refine g_top (b2_t n17) ?_
      refine g_sto (mr_pv (congrArg nI (if_pos n17))) ?_
      refine g_if_eq (tgt := 28) h dX11_plain_20 (by decide) (fun q => absurd q (by decide)) (fun _ => ?_)
      refine g_aload_n h dX11_plain_23 rfl rfl ?_
      refine g_getI h fl_X11_224_10 sh_178 (by decide) rfl dX11_plain_24 ?_
      refine g_top (mr_s (by decide)) ?_
      exact g_zbitP h hrt dX11_plain_27 (by omega) hF.2.2.1 (qb_k (pl_2 n3 n17) hF.2.2.2.2 (EV_mono (EV_1 (fa := fa) (w := -8) (by decide)) (by decide)) e0 rfl)
    · refine g_top (b2_f n17) ?_
      refine g_sto (mr_pv (congrArg nI (if_neg n17))) ?_
      refine g_if_eq (tgt := 28) h dX11_plain_20 (by decide) (fun _ => ?_) (fun q => absurd q (by decide))
      refine g_aload_n h dX11_plain_28 rfl rfl ?_
      refine g_VP h lv_X11_227_X11 sh_178 (by decide) rfl (c_X11_sum B f L s s hss fa u hf hL q0 hF) qs_nx (fitR hR (by first | decide | omega) (by decide) (by omega)) rfl rfl (Nat.le_of_ble_eq_true rfl) dX11_plain_29 (fun v29 u29 hs29 => ?_)
      cases h29 : sumN f L 400 true s
      · rename_i e29
        rw [h29] at hs29
        obtain ⟨x29, q9, hq9, hv29, rfl⟩ := hs29
        cases hv29
        have hw9 := nw (sum_er q0 h29) hL
        refine g_istore_n (ls' := [(0, _), (1, _)]) h dX11_plain_32 rfl (by decide) rfl rfl ?_
        refine g_aload_n h dX11_plain_33 rfl rfl ?_
        refine g_getI h fl_X11_25_10 sh_178 (by decide) rfl dX11_plain_34 ?_
        refine g_top mr_r12 ?_
        refine g_iconst (v := -1) h dX11_plain_37 (by decide) ?_
        refine g_icmp_eq (tgt := 43) h dX11_plain_38 (by decide) (fun c38 => ?_) (fun c38 => ?_)
        · exact absurd c38 hw9
        · refine g_iconst (v := nI 0) h dX11_plain_41 (by decide) ?_
          exact g_zretP h hrt dX11_plain_42 (by omega) (by first | exact Or.inl rfl | exact Or.inr rfl | exact b2_01 _ | exact hF.2.2.2.1 | exact hF.2.2.2.2 | exact hy | exact hv | simp) (qb_e (pl_e1 n3 n17 h29) (Or.inl rfl) hq9)
      · rename_i y29
        rw [h29] at hs29
        obtain ⟨v29, a29, hE29, ha29, hsa29, hv29, rfl⟩ := hs29
        cases hv29
        have b29 := (sum_b q0 h29).2.1
        refine g_istore_n (ls' := [(0, _), (1, _)]) h dX11_plain_32 rfl (by decide) rfl rfl ?_
        refine g_aload_n h dX11_plain_33 rfl rfl ?_
        refine g_getI h fl_X11_25_10 sh_178 (by decide) rfl dX11_plain_34 ?_
        refine g_top mr_r12 ?_
        refine g_iconst (v := -1) h dX11_plain_37 (by decide) ?_
        refine g_icmp_eq (tgt := 43) h dX11_plain_38 (by decide) (fun c38 => ?_) (fun c38 => ?_)
        · refine g_aload_n h dX11_plain_43 rfl rfl ?_
          refine g_bipush (v := nI 60) h dX11_plain_44 (by decide) ?_
          refine g_V h lv_X11_193_X11 sh_178 (by decide) rfl (c_X11_signs B f L a29 y29.2 hsa29 (-1) (nI 60) (by decide) (by decide) u hf hL ha29) (fitR hR (by first | decide | omega) (by decide) (by omega)) rfl rfl (Nat.le_of_ble_eq_true rfl) dX11_plain_46 ?_
          by_cases n46 : sgP f L y29.2 (nI 60)
          · refine g_top (b2_t n46) ?_
            refine g_istore_n (ls' := [(0, _), (1, _), (2, _)]) h dX11_plain_49 rfl (by decide) rfl rfl ?_
            refine g_iload_n h dX11_plain_50 rfl rfl ?_
            refine g_if_ne (tgt := 73) h dX11_plain_51 (by decide) (fun _ => ?_) (fun q => absurd q (by decide))
            refine g_aload_n h dX11_plain_73 rfl rfl ?_
            refine g_dup h dX11_plain_74 rfl ?_
            refine g_getI h fl_X11_97_10 sh_178 (by decide) rfl dX11_plain_75 ?_
            refine g_top mr_r11 ?_
            refine g_iconst (v := nI 1) h dX11_plain_78 (by decide) ?_
            refine g_iadd h dX11_plain_79 ?_
            refine g_top (nI_1 y29.2) ?_
            refine g_putI h pfl_X11_97_10 sh_178 (by decide) rfl dX11_plain_80 ?_
            refine g_sto mr_w11 ?_
            refine g_aload_n h dX11_plain_83 rfl rfl ?_
            refine g_VP h lv_X11_227_X11 sh_178 (by decide) rfl (c_X11_sum B f L (y29.2 + 1) (nx f L y29.2) (by rw [← sg_en n46]; rfl) fa u hf hL (by have := sg_lt n46; omega) hF) qs_nx (fitR hR (by first | decide | omega) (by decide) (by omega)) rfl rfl (Nat.le_of_ble_eq_true rfl) dX11_plain_84 (fun v84 u84 hs84 => ?_)
            have q29 := (nx_b (f := f) b29).2
            cases h84 : sumN f L 400 true (nx f L y29.2)
            · rename_i e84
              rw [h84] at hs84
              obtain ⟨x84, q9, hq9, hv84, rfl⟩ := hs84
              cases hv84
              refine g_istore_n (ls' := [(0, _), (1, _), (2, _), (3, _)]) h dX11_plain_87 rfl (by decide) rfl rfl ?_
              refine g_iload_n h dX11_plain_88 rfl rfl ?_
              refine g_if_eq (tgt := 105) h dX11_plain_89 (by decide) (fun q => absurd q (by decide)) (fun _ => ?_)
              refine g_iload_n h dX11_plain_92 rfl rfl ?_
              refine g_iload_n h dX11_plain_93 rfl rfl ?_
              refine g_icmp_ge (tgt := 101) h dX11_plain_94 (by decide) (fun c94 => ?_) (fun c94 => ?_)
              · refine g_iconst (v := nI 0) h dX11_plain_101 (by decide) ?_
                refine g_goto (tgt := 115) h dX11_plain_102 (by decide) ?_
                exact g_zretP h hrt dX11_plain_115 (by omega) (by first | exact Or.inl rfl | exact Or.inr rfl | exact b2_01 _ | exact hF.2.2.2.1 | exact hF.2.2.2.2 | exact hy | exact hv | simp) (qb_e (pl_e3 n3 n17 h29 (Or.inl n46) h84) (by first | exact Or.inl rfl | exact Or.inr rfl) hq9)
              · refine g_iconst (v := nI 1) h dX11_plain_97 (by decide) ?_
                refine g_goto (tgt := 115) h dX11_plain_98 (by decide) ?_
                exact g_zretP h hrt dX11_plain_115 (by omega) (by first | exact Or.inl rfl | exact Or.inr rfl | exact b2_01 _ | exact hF.2.2.2.1 | exact hF.2.2.2.2 | exact hy | exact hv | simp) (qb_e (pl_e3 n3 n17 h29 (Or.inl n46) h84) (by first | exact Or.inl rfl | exact Or.inr rfl) hq9)
            · rename_i y84
              rw [h84] at hs84
              obtain ⟨v84, a84, hE84, ha84, hsa84, hv84, rfl⟩ := hs84
              cases hv84
              refine g_istore_n (ls' := [(0, _), (1, _), (2, _), (3, _)]) h dX11_plain_87 rfl (by decide) rfl rfl ?_
              refine g_iload_n h dX11_plain_88 rfl rfl ?_
              refine g_if_eq (tgt := 105) h dX11_plain_89 (by decide) (fun q => absurd q (by decide)) (fun _ => ?_)
              refine g_iload_n h dX11_plain_92 rfl rfl ?_
              refine g_iload_n h dX11_plain_93 rfl rfl ?_
              refine g_icmp_ge (tgt := 101) h dX11_plain_94 (by decide) (fun c94 => ?_) (fun c94 => ?_)
              · refine g_iconst (v := nI 0) h dX11_plain_101 (by decide) ?_
                refine g_goto (tgt := 115) h dX11_plain_102 (by decide) ?_
                exact g_zretP h hrt dX11_plain_115 (by omega) (by first | exact Or.inl rfl | exact Or.inr rfl | exact b2_01 _ | exact hF.2.2.2.1 | exact hF.2.2.2.2 | exact hy | exact hv | simp) (qb_k (pl_k n3 n17 h29 (Or.inl n46) h84 (if_pos n46).symm) (by first | exact Or.inl rfl | exact Or.inr rfl) (by have := EV_bin hE29 hE84 (w := -10) (by decide) (by decide) 3 (by decide) (by decide); rw [jn_10, b2_f (fun z => z c94)] at this; exact this) ha84 hsa84)
              · refine g_iconst (v := nI 1) h dX11_plain_97 (by decide) ?_
                refine g_goto (tgt := 115) h dX11_plain_98 (by decide) ?_
                exact g_zretP h hrt dX11_plain_115 (by omega) (by first | exact Or.inl rfl | exact Or.inr rfl | exact b2_01 _ | exact hF.2.2.2.1 | exact hF.2.2.2.2 | exact hy | exact hv | simp) (qb_k (pl_k n3 n17 h29 (Or.inl n46) h84 (if_pos n46).symm) (by first | exact Or.inl rfl | exact Or.inr rfl) (by have := EV_bin hE29 hE84 (w := -10) (by decide) (by decide) 3 (by decide) (by decide); rw [jn_10, b2_t c94] at this; exact this) ha84 hsa84)
          · refine g_top (b2_f n46) ?_
            refine g_istore_n (ls' := [(0, _), (1, _), (2, _)]) h dX11_plain_49 rfl (by decide) rfl rfl ?_
            refine g_iload_n h dX11_plain_50 rfl rfl ?_
            refine g_if_ne (tgt := 73) h dX11_plain_51 (by decide) (fun q => absurd q (by decide)) (fun _ => ?_)
            refine g_aload_n h dX11_plain_54 rfl rfl ?_
            refine g_bipush (v := nI 62) h dX11_plain_55 (by decide) ?_
            refine g_V h lv_X11_193_X11 sh_178 (by decide) rfl (c_X11_signs B f L y29.2 y29.2 (by rw [← hsa29]; exact sk_sk (Nat.le_refl _)) (-1) (nI 62) (by decide) (by decide) u hf hL b29) (fitR hR (by first | decide | omega) (by decide) (by omega)) rfl rfl (Nat.le_of_ble_eq_true rfl) dX11_plain_57 ?_
            by_cases n57 : sgP f L y29.2 (nI 62)
            · refine g_top (b2_t n57) ?_
              refine g_if_ne (tgt := 73) h dX11_plain_60 (by decide) (fun _ => ?_) (fun q => absurd q (by decide))
              refine g_aload_n h dX11_plain_73 rfl rfl ?_
              refine g_dup h dX11_plain_74 rfl ?_
              refine g_getI h fl_X11_97_10 sh_178 (by decide) rfl dX11_plain_75 ?_
              refine g_top mr_r11 ?_
              refine g_iconst (v := nI 1) h dX11_plain_78 (by decide) ?_
              refine g_iadd h dX11_plain_79 ?_
              refine g_top (nI_1 y29.2) ?_
              refine g_putI h pfl_X11_97_10 sh_178 (by decide) rfl dX11_plain_80 ?_
              refine g_sto mr_w11 ?_
              refine g_aload_n h dX11_plain_83 rfl rfl ?_
              refine g_VP h lv_X11_227_X11 sh_178 (by decide) rfl (c_X11_sum B f L (y29.2 + 1) (nx f L y29.2) (by rw [← sg_en n57]; rfl) fa u hf hL (by have := sg_lt n57; omega) hF) qs_nx (fitR hR (by first | decide | omega) (by decide) (by omega)) rfl rfl (Nat.le_of_ble_eq_true rfl) dX11_plain_84 (fun v84 u84 hs84 => ?_)
              have q29 := (nx_b (f := f) b29).2
              cases h84 : sumN f L 400 true (nx f L y29.2)
              · rename_i e84
                rw [h84] at hs84
                obtain ⟨x84, q9, hq9, hv84, rfl⟩ := hs84
                cases hv84
                refine g_istore_n (ls' := [(0, _), (1, _), (2, _), (3, _)]) h dX11_plain_87 rfl (by decide) rfl rfl ?_
                refine g_iload_n h dX11_plain_88 rfl rfl ?_
                refine g_if_eq (tgt := 105) h dX11_plain_89 (by decide) (fun _ => ?_) (fun q => absurd q (by decide))
                refine g_iload_n h dX11_plain_105 rfl rfl ?_
                refine g_iload_n h dX11_plain_106 rfl rfl ?_
                refine g_icmp_le (tgt := 114) h dX11_plain_107 (by decide) (fun c107 => ?_) (fun c107 => ?_)
                · refine g_iconst (v := nI 0) h dX11_plain_114 (by decide) ?_
                  exact g_zretP h hrt dX11_plain_115 (by omega) (by first | exact Or.inl rfl | exact Or.inr rfl | exact b2_01 _ | exact hF.2.2.2.1 | exact hF.2.2.2.2 | exact hy | exact hv | simp) (qb_e (pl_e3 n3 n17 h29 (Or.inr n57) h84) (by first | exact Or.inl rfl | exact Or.inr rfl) hq9)
                · refine g_iconst (v := nI 1) h dX11_plain_110 (by decide) ?_
                  refine g_goto (tgt := 115) h dX11_plain_111 (by decide) ?_
                  exact g_zretP h hrt dX11_plain_115 (by omega) (by first | exact Or.inl rfl | exact Or.inr rfl | exact b2_01 _ | exact hF.2.2.2.1 | exact hF.2.2.2.2 | exact hy | exact hv | simp) (qb_e (pl_e3 n3 n17 h29 (Or.inr n57) h84) (by first | exact Or.inl rfl | exact Or.inr rfl) hq9)
              · rename_i y84
                rw [h84] at hs84
                obtain ⟨v84, a84, hE84, ha84, hsa84, hv84, rfl⟩ := hs84
                cases hv84
                refine g_istore_n (ls' := [(0, _), (1, _), (2, _), (3, _)]) h dX11_plain_87 rfl (by decide) rfl rfl ?_
                refine g_iload_n h dX11_plain_88 rfl rfl ?_
                refine g_if_eq (tgt := 105) h dX11_plain_89 (by decide) (fun _ => ?_) (fun q => absurd q (by decide))
                refine g_iload_n h dX11_plain_105 rfl rfl ?_
                refine g_iload_n h dX11_plain_106 rfl rfl ?_
                refine g_icmp_le (tgt := 114) h dX11_plain_107 (by decide) (fun c107 => ?_) (fun c107 => ?_)
                · refine g_iconst (v := nI 0) h dX11_plain_114 (by decide) ?_
                  exact g_zretP h hrt dX11_plain_115 (by omega) (by first | exact Or.inl rfl | exact Or.inr rfl | exact b2_01 _ | exact hF.2.2.2.1 | exact hF.2.2.2.2 | exact hy | exact hv | simp) (qb_k (pl_k n3 n17 h29 (Or.inr n57) h84 (if_neg n46).symm) (by first | exact Or.inl rfl | exact Or.inr rfl) (by have := EV_bin hE29 hE84 (w := -11) (by decide) (by decide) 3 (by decide) (by decide); rw [jn_11, b2_f (fun z => z c107)] at this; exact this) ha84 hsa84)
                · refine g_iconst (v := nI 1) h dX11_plain_110 (by decide) ?_
                  refine g_goto (tgt := 115) h dX11_plain_111 (by decide) ?_
                  exact g_zretP h hrt dX11_plain_115 (by omega) (by first | exact Or.inl rfl | exact Or.inr rfl | exact b2_01 _ | exact hF.2.2.2.1 | exact hF.2.2.2.2 | exact hy | exact hv | simp) (qb_k (pl_k n3 n17 h29 (Or.inr n57) h84 (if_neg n46).symm) (by first | exact Or.inl rfl | exact Or.inr rfl) (by have := EV_bin hE29 hE84 (w := -11) (by decide) (by decide) 3 (by decide) (by decide); rw [jn_11, b2_t c107] at this; exact this) ha84 hsa84)
            · refine g_top (b2_f n57) ?_
              refine g_if_ne (tgt := 73) h dX11_plain_60 (by decide) (fun q => absurd q (by decide)) (fun _ => ?_)
              refine g_aload_n h dX11_plain_63 rfl rfl ?_
              refine g_aload_n h dX11_plain_64 rfl rfl ?_
              refine g_getI h fl_X11_97_10 sh_178 (by decide) rfl dX11_plain_65 ?_
              refine g_top mr_r11 ?_
              refine g_V h lv_X11_123_X11 sh_178 (by decide) rfl (c_X11_wrong B f L y29.2 (-1) (nI y29.2) u hf hL b29) (fitR hR (by first | decide | omega) (by decide) (by omega)) rfl rfl (Nat.le_of_ble_eq_true rfl) dX11_plain_68 ?_
              refine g_sto (mr_wv (if_pos rfl)) ?_
              refine g_iconst (v := nI 0) h dX11_plain_71 (by decide) ?_
              exact g_zretP h hrt dX11_plain_72 (by omega) (by first | exact Or.inl rfl | exact Or.inr rfl | exact b2_01 _ | exact hF.2.2.2.1 | exact hF.2.2.2.2 | exact hy | exact hv | simp) (qb_e (pl_e2 n3 n17 h29 (fun z => z.elim n46 n57)) (Or.inl rfl) b29)
        · exact absurd rfl c38
