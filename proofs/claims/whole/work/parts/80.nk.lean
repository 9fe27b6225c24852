-- after: 38.r 39.s 40.t 47.str 48.tx 49.ty 50.tt 51.tu 52.tv 53.lw 54.lx 59.mc 62.mf 70.na 71.nb 72.nc 73.nd 74.ne 75.nf 76.ng 77.nh 78.ni 79.nj
theorem su_back {u : Sto} {k j : Nat} {x y : Int32} (h : u k j = y) : su (su u k j x) k j y = u := by
  funext a b
  unfold su
  by_cases e : a = k ∧ b = j
  · rw [if_pos e, e.1, e.2, h]
  · rw [if_neg e, if_neg e]
theorem FA_13 {u : Sto} {fa : Nat → Int32} (h : FA u fa) {x : Int32} : FA (su u 178 13 x) fa := ⟨fun i hi => by rw [su_cell _ _ (by decide)]; exact h.1 i hi, by rw [su_i (by decide)]; exact h.2.1, by rw [su_i (by decide)]; exact h.2.2.1, h.2.2.2⟩
theorem at_0e {f : Nat → Int32} {L s : Nat} (h : wdB f L s 18 = true ∨ sgP f L s (nI 40)) : pAt f L 0 s = .error s := by rw [pAt, if_pos h]
theorem at_0p {f : Nat → Int32} {L s : Nat} (h : ¬ wdB f L s 18 = true) (h2 : ¬ sgP f L s (nI 40)) : pAt f L 0 s = plnF f L s := by rw [pAt, if_neg (fun z => z.elim h h2)]
theorem at_sp {f : Nat → Int32} {L k s : Nat} (h : ¬ wdB f L s 18 = true) (h2 : ¬ sgP f L s (nI 40)) : pAt f L (k + 1) s = plnF f L s := by rw [pAt, if_neg h, if_neg h2]
theorem at_ne {f : Nat → Int32} {L k s e : Nat} (h : wdB f L s 18 = true) (h2 : pAt f L k (nx f L s) = .error e) : pAt f L (k + 1) s = .error e := by rw [pAt, if_pos h, h2]
theorem at_nk {f : Nat → Int32} {L k s : Nat} {q : List Int32 × Nat} (h : wdB f L s 18 = true) (h2 : pAt f L k (nx f L s) = .ok q) : pAt f L (k + 1) s = .ok (q.1 ++ [-12], q.2) := by rw [pAt, if_pos h, h2]
theorem at_pe {f : Nat → Int32} {L k s e : Nat} (h : ¬ wdB f L s 18 = true) (h1 : sgP f L s (nI 40)) (h2 : pSo f L (pAt f L k) (nx f L s) = .error e) : pAt f L (k + 1) s = .error e := by rw [pAt, if_neg h, if_pos h1, h2]
theorem at_pc {f : Nat → Int32} {L k s : Nat} {q : List Int32 × Nat} (h : ¬ wdB f L s 18 = true) (h1 : sgP f L s (nI 40)) (h2 : pSo f L (pAt f L k) (nx f L s) = .ok q) (h3 : ¬ sgP f L q.2 (nI 41)) : pAt f L (k + 1) s = .error q.2 := by rw [pAt, if_neg h, if_pos h1, h2]; exact if_neg h3
theorem at_pk {f : Nat → Int32} {L k s : Nat} {q : List Int32 × Nat} (h : ¬ wdB f L s 18 = true) (h1 : sgP f L s (nI 40)) (h2 : pSo f L (pAt f L k) (nx f L s) = .ok q) (h3 : sgP f L q.2 (nI 41)) : pAt f L (k + 1) s = .ok (q.1, nx f L q.2) := by rw [pAt, if_neg h, if_pos h1, h2]; exact if_pos h3
theorem QB_mono {u : Sto} {B : Int32} {f : Nat → Int32} {L : Nat} {fa : Nat → Int32} {d e c b : Nat} {r : PW} {o : Res} {t : Sto} (h : QB u B f L fa d c r o t) (hd : d ≤ e) (hc : c ≤ b) : QB u B f L fa e b r o t := by
  cases r with
  | error x =>
    obtain ⟨y, q, h1, h2, h3⟩ := h
    exact ⟨y, q, h1, by omega, h3⟩
  | ok y =>
    obtain ⟨v, a, h1, h2, h3⟩ := h
    exact ⟨v, a, h1, EV_mono h2 hd, h3⟩
theorem QB_01 {u : Sto} {B : Int32} {f : Nat → Int32} {L : Nat} {fa : Nat → Int32} {d c : Nat} {r : PW} {v : Option Value} {t : Sto} (h : QB u B f L fa d c r (.inl v) t) : ∃ x, v = some (.int x) ∧ (x = 0 ∨ x = 1) := by
  cases r with
  | error e => obtain ⟨x, _, h1, _, h2, _⟩ := h; cases h2; exact ⟨x, rfl, h1⟩
  | ok y => obtain ⟨x, _, h1, _, _, _, h2, _⟩ := h; cases h2; exact ⟨x, rfl, h1⟩
set_option maxHeartbeats 1000000 in
theorem c_X11_atom_0 {E : EE} (B : Int32) (f : Nat → Int32) (L p s : Nat) (hs : skp f L p = s) (fa : Nat → Int32) (u : Sto) (hf : LF u B f) (hL : L ≤ 400) (hp : p ≤ L) (hF : FA u fa) (hdp : u 178 13 = nI (6 - 0)) : CtP E (9 + 3 * 0) 0 yX11_atom cX11_atom 4 (some .boolean) [.ref (E.ad 178)] (MR u B L p (-1)) (QB u B f L fa (3 + 2 * 0) (0) (pAt f L 0 s)) := by
  have q0 := (skp_b (f := f) hp).2
  rw [hs] at q0
  have hss : skp f L s = s := by rw [← hs]; exact sk_sk (Nat.le_refl _)
  have e0 := (enN_b (f := f) q0).2
  have q1 := (nx_b (f := f) q0).2
  refine ctp_of (by decide) (Nat.le_of_ble_eq_true rfl) (fun X h hR hrt htab hargs => ?_)
  refine g_aload_n h dX11_atom_0 rfl rfl ?_
  refine g_getI h fl_X11_25_10 sh_178 (by decide) rfl dX11_atom_1 ?_
  refine g_top mr_r12 ?_
  refine g_iconst (v := -1) h dX11_atom_4 (by decide) ?_
  refine g_icmp_eq (tgt := 10) h dX11_atom_5 (by decide) (fun c5 => ?_) (fun c5 => ?_)
  · refine g_aload_n h dX11_atom_10 rfl rfl ?_
    refine g_V h lv_X11_127_X11 sh_178 (by decide) rfl (c_X11_place B f L p (-1) u hf hL hp) (fitR hR (by first | decide | omega) (by decide) (by omega)) rfl rfl (Nat.le_of_ble_eq_true rfl) dX11_atom_11 ?_
    refine g_top (congrArg nI hs) ?_
    refine g_sto (mr_pv (congrArg nI hs)) ?_
    refine g_istore_n (ls' := [(0, _), (1, _)]) h dX11_atom_14 rfl (by decide) rfl rfl ?_
    refine g_aload_n h dX11_atom_15 rfl rfl ?_
    refine g_ldcS (tx := "not") (k := 18) h (by decide) dX11_atom_16 ?_
    refine g_V h lv_X11_119_X11 sh_178 (by decide) rfl (c_X11_hass B f L s s hss (-1) 18 (by decide) (by decide) u hf hL q0) (fitR hR (by first | decide | omega) (by decide) (by omega)) rfl rfl (Nat.le_of_ble_eq_true rfl) dX11_atom_18 ?_
    by_cases n18 : wdB f L s 18 = true
    · refine g_top (b2_t n18) ?_
      refine g_sto (mr_pv (congrArg nI (if_pos n18))) ?_
      refine g_istore_n (ls' := [(0, _), (1, _), (2, _)]) h dX11_atom_21 rfl (by decide) rfl rfl ?_
      refine g_iload_n h dX11_atom_22 rfl rfl ?_
      refine g_if_ne (tgt := 40) h dX11_atom_23 (by decide) (fun _ => ?_) (fun q => absurd q (by decide))
      refine g_aload_n h dX11_atom_40 rfl rfl ?_
      refine g_getI h fl_X11_184_10 sh_178 (by decide) rfl dX11_atom_41 ?_
      refine g_top (mr_s (by decide)) ?_
      refine g_top hdp ?_
      refine g_bipush (v := nI 6) h dX11_atom_44 (by decide) ?_
      refine g_icmp_ne (tgt := 56) h dX11_atom_46 (by decide) (fun c46 => ?_) (fun c46 => ?_)
      · exact absurd rfl c46
      · refine g_aload_n h dX11_atom_49 rfl rfl ?_
        refine g_iload_n h dX11_atom_50 rfl rfl ?_
        refine g_V h lv_X11_123_X11 sh_178 (by decide) rfl (c_X11_wrong B f L (enN f L s) (-1) (nI s) u hf hL e0) (fitR hR (by first | decide | omega) (by decide) (by omega)) rfl rfl (Nat.le_of_ble_eq_true rfl) dX11_atom_51 ?_
        refine g_sto (mr_wv (if_pos rfl)) ?_
        refine g_iconst (v := nI 0) h dX11_atom_54 (by decide) ?_
        exact g_zretP h hrt dX11_atom_55 (by omega) (by first | exact Or.inl rfl | exact Or.inr rfl | exact b2_01 _ | exact hF.2.2.2.1 | exact hF.2.2.2.2 | exact hy | exact hv | exact h01 | exact hx99 | exact hb99 | simp) (qb_e (at_0e (Or.inl n18)) (Or.inl rfl) e0)
    · refine g_top (b2_f n18) ?_
      refine g_sto (mr_pv (congrArg nI (if_neg n18))) ?_
      refine g_istore_n (ls' := [(0, _), (1, _), (2, _)]) h dX11_atom_21 rfl (by decide) rfl rfl ?_
      refine g_iload_n h dX11_atom_22 rfl rfl ?_
      refine g_if_ne (tgt := 40) h dX11_atom_23 (by decide) (fun q => absurd q (by decide)) (fun _ => ?_)
      refine g_aload_n h dX11_atom_26 rfl rfl ?_
      refine g_bipush (v := nI 40) h dX11_atom_27 (by decide) ?_
      refine g_V h lv_X11_193_X11 sh_178 (by decide) rfl (c_X11_signs B f L s s hss (-1) (nI 40) (by decide) (by decide) u hf hL q0) (fitR hR (by first | decide | omega) (by decide) (by omega)) rfl rfl (Nat.le_of_ble_eq_true rfl) dX11_atom_29 ?_
      by_cases n29 : sgP f L s (nI 40)
      · refine g_top (b2_t n29) ?_
        refine g_if_ne (tgt := 40) h dX11_atom_32 (by decide) (fun _ => ?_) (fun q => absurd q (by decide))
        refine g_aload_n h dX11_atom_40 rfl rfl ?_
        refine g_getI h fl_X11_184_10 sh_178 (by decide) rfl dX11_atom_41 ?_
        refine g_top (mr_s (by decide)) ?_
        refine g_top hdp ?_
        refine g_bipush (v := nI 6) h dX11_atom_44 (by decide) ?_
        refine g_icmp_ne (tgt := 56) h dX11_atom_46 (by decide) (fun c46 => ?_) (fun c46 => ?_)
        · exact absurd rfl c46
        · refine g_aload_n h dX11_atom_49 rfl rfl ?_
          refine g_iload_n h dX11_atom_50 rfl rfl ?_
          refine g_V h lv_X11_123_X11 sh_178 (by decide) rfl (c_X11_wrong B f L s (-1) (nI s) u hf hL q0) (fitR hR (by first | decide | omega) (by decide) (by omega)) rfl rfl (Nat.le_of_ble_eq_true rfl) dX11_atom_51 ?_
          refine g_sto (mr_wv (if_pos rfl)) ?_
          refine g_iconst (v := nI 0) h dX11_atom_54 (by decide) ?_
          exact g_zretP h hrt dX11_atom_55 (by omega) (by first | exact Or.inl rfl | exact Or.inr rfl | exact b2_01 _ | exact hF.2.2.2.1 | exact hF.2.2.2.2 | exact hy | exact hv | exact h01 | exact hx99 | exact hb99 | simp) (qb_e (at_0e (Or.inr n29)) (Or.inl rfl) q0)
      · refine g_top (b2_f n29) ?_
        refine g_if_ne (tgt := 40) h dX11_atom_32 (by decide) (fun q => absurd q (by decide)) (fun _ => ?_)
        refine g_aload_n h dX11_atom_35 rfl rfl ?_
        refine g_VP h lv_X11_232_X11 sh_178 (by decide) rfl (c_X11_plain B f L s s hss fa u hf hL q0 hF) qb_nx (fitR hR (by first | decide | omega) (by decide) (by omega)) rfl rfl (Nat.le_of_ble_eq_true rfl) dX11_atom_36 (fun v36 u36 hs36 => ?_)
        obtain ⟨x36, rfl, h01⟩ := QB_01 hs36
        · skip
          exact g_zretP h hrt dX11_atom_39 (by omega) (by first | exact Or.inl rfl | exact Or.inr rfl | exact b2_01 _ | exact hF.2.2.2.1 | exact hF.2.2.2.2 | exact hy | exact hv | exact h01 | exact hx99 | exact hb99 | simp) (QB_mono (by rw [at_0p n18 n29]; exact hs36) (by omega) (by omega))
  · exact absurd rfl c5
set_option maxHeartbeats 1000000 in
theorem c_X11_atom_s {E : EE} (k : Nat) (hk6 : k + 1 ≤ 6) (hA : AtC E k) (B : Int32) (f : Nat → Int32) (L p s : Nat) (hs : skp f L p = s) (fa : Nat → Int32) (u : Sto) (hf : LF u B f) (hL : L ≤ 400) (hp : p ≤ L) (hF : FA u fa) (hdp : u 178 13 = nI (6 - (k + 1))) : CtP E (9 + 3 * (k + 1)) 0 yX11_atom cX11_atom 4 (some .boolean) [.ref (E.ad 178)] (MR u B L p (-1)) (QB u B f L fa (3 + 2 * (k + 1)) (k + 1) (pAt f L (k + 1) s)) := by
  have q0 := (skp_b (f := f) hp).2
  rw [hs] at q0
  have hss : skp f L s = s := by rw [← hs]; exact sk_sk (Nat.le_refl _)
  have e0 := (enN_b (f := f) q0).2
  have q1 := (nx_b (f := f) q0).2
  refine ctp_of (by decide) (Nat.le_of_ble_eq_true rfl) (fun X h hR hrt htab hargs => ?_)
  refine g_aload_n h dX11_atom_0 rfl rfl ?_
  refine g_getI h fl_X11_25_10 sh_178 (by decide) rfl dX11_atom_1 ?_
  refine g_top mr_r12 ?_
  refine g_iconst (v := -1) h dX11_atom_4 (by decide) ?_
  refine g_icmp_eq (tgt := 10) h dX11_atom_5 (by decide) (fun c5 => ?_) (fun c5 => ?_)
  · refine g_aload_n h dX11_atom_10 rfl rfl ?_
    refine g_V h lv_X11_127_X11 sh_178 (by decide) rfl (c_X11_place B f L p (-1) u hf hL hp) (fitR hR (by first | decide | omega) (by decide) (by omega)) rfl rfl (Nat.le_of_ble_eq_true rfl) dX11_atom_11 ?_
    refine g_top (congrArg nI hs) ?_
    refine g_sto (mr_pv (congrArg nI hs)) ?_
    refine g_istore_n (ls' := [(0, _), (1, _)]) h dX11_atom_14 rfl (by decide) rfl rfl ?_
    refine g_aload_n h dX11_atom_15 rfl rfl ?_
    refine g_ldcS (tx := "not") (k := 18) h (by decide) dX11_atom_16 ?_
    refine g_V h lv_X11_119_X11 sh_178 (by decide) rfl (c_X11_hass B f L s s hss (-1) 18 (by decide) (by decide) u hf hL q0) (fitR hR (by first | decide | omega) (by decide) (by omega)) rfl rfl (Nat.le_of_ble_eq_true rfl) dX11_atom_18 ?_
    by_cases n18 : wdB f L s 18 = true
    · refine g_top (b2_t n18) ?_
      refine g_sto (mr_pv (congrArg nI (if_pos n18))) ?_
      refine g_istore_n (ls' := [(0, _), (1, _), (2, _)]) h dX11_atom_21 rfl (by decide) rfl rfl ?_
      refine g_iload_n h dX11_atom_22 rfl rfl ?_
      refine g_if_ne (tgt := 40) h dX11_atom_23 (by decide) (fun _ => ?_) (fun q => absurd q (by decide))
      refine g_aload_n h dX11_atom_40 rfl rfl ?_
      refine g_getI h fl_X11_184_10 sh_178 (by decide) rfl dX11_atom_41 ?_
      refine g_top (mr_s (by decide)) ?_
      refine g_top hdp ?_
      refine g_bipush (v := nI 6) h dX11_atom_44 (by decide) ?_
      refine g_icmp_ne (tgt := 56) h dX11_atom_46 (by decide) (fun c46 => ?_) (fun c46 => ?_)
      · refine g_aload_n h dX11_atom_56 rfl rfl ?_
        refine g_dup h dX11_atom_57 rfl ?_
        refine g_getI h fl_X11_184_10 sh_178 (by decide) rfl dX11_atom_58 ?_
        refine g_top (mr_s (by decide)) ?_
        refine g_top hdp ?_
        refine g_iconst (v := nI 1) h dX11_atom_61 (by decide) ?_
        refine g_iadd h dX11_atom_62 ?_
        refine g_top (y := nI (6 - k)) ((nI_1 (6 - (k + 1))).trans (congrArg nI (by omega))) ?_
        refine g_putI h pfl_X11_184_10 sh_178 (by decide) rfl dX11_atom_63 ?_
        refine g_sto (mr_ss (by decide)) ?_
        refine g_iconst (v := nI 0) h dX11_atom_66 (by decide) ?_
        refine g_istore_n (ls' := [(0, _), (1, _), (2, _), (3, _)]) h dX11_atom_67 rfl (by decide) rfl rfl ?_
        refine g_iload_n h dX11_atom_68 rfl rfl ?_
        refine g_if_eq (tgt := 88) h dX11_atom_69 (by decide) (fun q => absurd q (by decide)) (fun _ => ?_)
        refine g_aload_n h dX11_atom_72 rfl rfl ?_
        refine g_VP h lv_X11_236_X11 sh_178 (by decide) rfl (hA B f L (enN f L s) (nx f L s) rfl fa (su u 178 13 (nI (6 - k))) (LF_su hf (by decide) (Or.inl (by decide))) hL e0 (FA_13 hF) su_k) qb_nx (fitR hR (by first | decide | omega) (by decide) (by omega)) rfl rfl (Nat.le_of_ble_eq_true rfl) dX11_atom_73 (fun v73 u73 hs73 => ?_)
        cases h73 : pAt f L k (nx f L s)
        · rename_i e73
          rw [h73] at hs73
          obtain ⟨x73, q9, hx73, hq9, hv73, rfl⟩ := hs73
          cases hv73
          refine g_if_ne (tgt := 83) h dX11_atom_76 (by decide) (fun c76 => ?_) (fun c76 => ?_)
          · refine g_iconst (v := nI 0) h dX11_atom_83 (by decide) ?_
            refine g_istore_n (ls' := [(0, _), (1, _), (2, _), (3, _)]) h dX11_atom_84 rfl (by decide) rfl rfl ?_
            refine g_goto (tgt := 138) h dX11_atom_85 (by decide) ?_
            refine g_aload_n h dX11_atom_138 rfl rfl ?_
            refine g_dup h dX11_atom_139 rfl ?_
            refine g_getI h fl_X11_184_10 sh_178 (by decide) rfl dX11_atom_140 ?_
            refine g_top (mr_s (by decide)) ?_
            refine g_top su_k ?_
            refine g_iconst (v := nI 1) h dX11_atom_143 (by decide) ?_
            refine g_isub h dX11_atom_144 ?_
            refine g_top (y := nI (6 - (k + 1))) ((pk_sub (by omega)).trans (congrArg nI (by omega))) ?_
            refine g_putI h pfl_X11_184_10 sh_178 (by decide) rfl dX11_atom_145 ?_
            refine g_sto (mr_ss (by decide)) ?_
            refine g_sto (mr_in (su_back hdp)) ?_
            refine g_iload_n h dX11_atom_148 rfl rfl ?_
            exact g_zretP h hrt dX11_atom_149 (by omega) (by first | exact Or.inl rfl | exact Or.inr rfl | exact b2_01 _ | exact hF.2.2.2.1 | exact hF.2.2.2.2 | exact hy | exact hv | exact h01 | exact hx99 | exact hb99 | simp) (qb_e (at_ne n18 h73) (by first | exact Or.inl rfl | exact Or.inr rfl) (by omega))
          · refine g_iconst (v := nI 1) h dX11_atom_79 (by decide) ?_
            refine g_goto (tgt := 84) h dX11_atom_80 (by decide) ?_
            refine g_istore_n (ls' := [(0, _), (1, _), (2, _), (3, _)]) h dX11_atom_84 rfl (by decide) rfl rfl ?_
            refine g_goto (tgt := 138) h dX11_atom_85 (by decide) ?_
            refine g_aload_n h dX11_atom_138 rfl rfl ?_
            refine g_dup h dX11_atom_139 rfl ?_
            refine g_getI h fl_X11_184_10 sh_178 (by decide) rfl dX11_atom_140 ?_
            refine g_top (mr_s (by decide)) ?_
            refine g_top su_k ?_
            refine g_iconst (v := nI 1) h dX11_atom_143 (by decide) ?_
            refine g_isub h dX11_atom_144 ?_
            refine g_top (y := nI (6 - (k + 1))) ((pk_sub (by omega)).trans (congrArg nI (by omega))) ?_
            refine g_putI h pfl_X11_184_10 sh_178 (by decide) rfl dX11_atom_145 ?_
            refine g_sto (mr_ss (by decide)) ?_
            refine g_sto (mr_in (su_back hdp)) ?_
            refine g_iload_n h dX11_atom_148 rfl rfl ?_
            exact g_zretP h hrt dX11_atom_149 (by omega) (by first | exact Or.inl rfl | exact Or.inr rfl | exact b2_01 _ | exact hF.2.2.2.1 | exact hF.2.2.2.2 | exact hy | exact hv | exact h01 | exact hx99 | exact hb99 | simp) (qb_e (at_ne n18 h73) (by first | exact Or.inl rfl | exact Or.inr rfl) (by omega))
        · rename_i y73
          rw [h73] at hs73
          obtain ⟨v73, a73, hb73, hE73, ha73, hsa73, hv73, rfl⟩ := hs73
          cases hv73
          refine g_if_ne (tgt := 83) h dX11_atom_76 (by decide) (fun c76 => ?_) (fun c76 => ?_)
          · refine g_iconst (v := nI 0) h dX11_atom_83 (by decide) ?_
            refine g_istore_n (ls' := [(0, _), (1, _), (2, _), (3, _)]) h dX11_atom_84 rfl (by decide) rfl rfl ?_
            refine g_goto (tgt := 138) h dX11_atom_85 (by decide) ?_
            refine g_aload_n h dX11_atom_138 rfl rfl ?_
            refine g_dup h dX11_atom_139 rfl ?_
            refine g_getI h fl_X11_184_10 sh_178 (by decide) rfl dX11_atom_140 ?_
            refine g_top (mr_s (by decide)) ?_
            refine g_top su_k ?_
            refine g_iconst (v := nI 1) h dX11_atom_143 (by decide) ?_
            refine g_isub h dX11_atom_144 ?_
            refine g_top (y := nI (6 - (k + 1))) ((pk_sub (by omega)).trans (congrArg nI (by omega))) ?_
            refine g_putI h pfl_X11_184_10 sh_178 (by decide) rfl dX11_atom_145 ?_
            refine g_sto (mr_ss (by decide)) ?_
            refine g_sto (mr_in (su_back hdp)) ?_
            refine g_iload_n h dX11_atom_148 rfl rfl ?_
            exact g_zretP h hrt dX11_atom_149 (by omega) (by first | exact Or.inl rfl | exact Or.inr rfl | exact b2_01 _ | exact hF.2.2.2.1 | exact hF.2.2.2.2 | exact hy | exact hv | exact h01 | exact hx99 | exact hb99 | simp) (qb_k (at_nk n18 h73) (by first | exact Or.inl rfl | exact Or.inr rfl) (by have := EV_mono (EV_not hE73) (show 3 + 2 * k ≤ 3 + 2 * (k + 1) by omega); rw [no_b hb73, if_neg c76] at this; exact this) ha73 hsa73)
          · refine g_iconst (v := nI 1) h dX11_atom_79 (by decide) ?_
            refine g_goto (tgt := 84) h dX11_atom_80 (by decide) ?_
            refine g_istore_n (ls' := [(0, _), (1, _), (2, _), (3, _)]) h dX11_atom_84 rfl (by decide) rfl rfl ?_
            refine g_goto (tgt := 138) h dX11_atom_85 (by decide) ?_
            refine g_aload_n h dX11_atom_138 rfl rfl ?_
            refine g_dup h dX11_atom_139 rfl ?_
            refine g_getI h fl_X11_184_10 sh_178 (by decide) rfl dX11_atom_140 ?_
            refine g_top (mr_s (by decide)) ?_
            refine g_top su_k ?_
            refine g_iconst (v := nI 1) h dX11_atom_143 (by decide) ?_
            refine g_isub h dX11_atom_144 ?_
            refine g_top (y := nI (6 - (k + 1))) ((pk_sub (by omega)).trans (congrArg nI (by omega))) ?_
            refine g_putI h pfl_X11_184_10 sh_178 (by decide) rfl dX11_atom_145 ?_
            refine g_sto (mr_ss (by decide)) ?_
            refine g_sto (mr_in (su_back hdp)) ?_
            refine g_iload_n h dX11_atom_148 rfl rfl ?_
            exact g_zretP h hrt dX11_atom_149 (by omega) (by first | exact Or.inl rfl | exact Or.inr rfl | exact b2_01 _ | exact hF.2.2.2.1 | exact hF.2.2.2.2 | exact hy | exact hv | exact h01 | exact hx99 | exact hb99 | simp) (qb_k (at_nk n18 h73) (by first | exact Or.inl rfl | exact Or.inr rfl) (by have := EV_mono (EV_not hE73) (show 3 + 2 * k ≤ 3 + 2 * (k + 1) by omega); rw [no_b hb73, if_pos c76] at this; exact this) ha73 hsa73)
      · exact absurd (eq_n (by omega) (by omega) (show nI (6 - (k + 1)) = nI 6 from c46)) (by omega)
    · refine g_top (b2_f n18) ?_
      refine g_sto (mr_pv (congrArg nI (if_neg n18))) ?_
      refine g_istore_n (ls' := [(0, _), (1, _), (2, _)]) h dX11_atom_21 rfl (by decide) rfl rfl ?_
      refine g_iload_n h dX11_atom_22 rfl rfl ?_
      refine g_if_ne (tgt := 40) h dX11_atom_23 (by decide) (fun q => absurd q (by decide)) (fun _ => ?_)
      refine g_aload_n h dX11_atom_26 rfl rfl ?_
      refine g_bipush (v := nI 40) h dX11_atom_27 (by decide) ?_
      refine g_V h lv_X11_193_X11 sh_178 (by decide) rfl (c_X11_signs B f L s s hss (-1) (nI 40) (by decide) (by decide) u hf hL q0) (fitR hR (by first | decide | omega) (by decide) (by omega)) rfl rfl (Nat.le_of_ble_eq_true rfl) dX11_atom_29 ?_
      by_cases n29 : sgP f L s (nI 40)
      · refine g_top (b2_t n29) ?_
        refine g_if_ne (tgt := 40) h dX11_atom_32 (by decide) (fun _ => ?_) (fun q => absurd q (by decide))
        refine g_aload_n h dX11_atom_40 rfl rfl ?_
        refine g_getI h fl_X11_184_10 sh_178 (by decide) rfl dX11_atom_41 ?_
        refine g_top (mr_s (by decide)) ?_
        refine g_top hdp ?_
        refine g_bipush (v := nI 6) h dX11_atom_44 (by decide) ?_
        refine g_icmp_ne (tgt := 56) h dX11_atom_46 (by decide) (fun c46 => ?_) (fun c46 => ?_)
        · refine g_aload_n h dX11_atom_56 rfl rfl ?_
          refine g_dup h dX11_atom_57 rfl ?_
          refine g_getI h fl_X11_184_10 sh_178 (by decide) rfl dX11_atom_58 ?_
          refine g_top (mr_s (by decide)) ?_
          refine g_top hdp ?_
          refine g_iconst (v := nI 1) h dX11_atom_61 (by decide) ?_
          refine g_iadd h dX11_atom_62 ?_
          refine g_top (y := nI (6 - k)) ((nI_1 (6 - (k + 1))).trans (congrArg nI (by omega))) ?_
          refine g_putI h pfl_X11_184_10 sh_178 (by decide) rfl dX11_atom_63 ?_
          refine g_sto (mr_ss (by decide)) ?_
          refine g_iconst (v := nI 0) h dX11_atom_66 (by decide) ?_
          refine g_istore_n (ls' := [(0, _), (1, _), (2, _), (3, _)]) h dX11_atom_67 rfl (by decide) rfl rfl ?_
          refine g_iload_n h dX11_atom_68 rfl rfl ?_
          refine g_if_eq (tgt := 88) h dX11_atom_69 (by decide) (fun _ => ?_) (fun q => absurd q (by decide))
          refine g_aload_n h dX11_atom_88 rfl rfl ?_
          refine g_dup h dX11_atom_89 rfl ?_
          refine g_getI h fl_X11_97_10 sh_178 (by decide) rfl dX11_atom_90 ?_
          refine g_top mr_r11 ?_
          refine g_iconst (v := nI 1) h dX11_atom_93 (by decide) ?_
          refine g_iadd h dX11_atom_94 ?_
          refine g_top (nI_1 s) ?_
          refine g_putI h pfl_X11_97_10 sh_178 (by decide) rfl dX11_atom_95 ?_
          refine g_sto mr_w11 ?_
          refine g_aload_n h dX11_atom_98 rfl rfl ?_
          refine g_VP h lv_X11_239_X11 sh_178 (by decide) rfl (c_X11_some_k k (by omega) hA B f L (s + 1) (nx f L s) (by rw [← sg_en n29]; rfl) fa (su u 178 13 (nI (6 - k))) (LF_su hf (by decide) (Or.inl (by decide))) hL (by have := sg_lt n29; omega) (FA_13 hF) su_k) qb_nx (fitR hR (by first | decide | omega) (by decide) (by omega)) rfl rfl (Nat.le_of_ble_eq_true rfl) dX11_atom_99 (fun v99 u99 hs99 => ?_)
          cases h99 : pSo f L (pAt f L k) (nx f L s)
          · rename_i e99
            rw [h99] at hs99
            obtain ⟨x99, q9, hx99, hq9, hv99, rfl⟩ := hs99
            cases hv99
            have hw9 := nw ((so_b (at_b k) _ q1).1 _ h99) hL
            refine g_istore_n (ls' := [(0, _), (1, _), (2, _), (3, _)]) h dX11_atom_102 rfl (by decide) rfl rfl ?_
            refine g_aload_n h dX11_atom_103 rfl rfl ?_
            refine g_getI h fl_X11_25_10 sh_178 (by decide) rfl dX11_atom_104 ?_
            refine g_top mr_r12 ?_
            refine g_iconst (v := -1) h dX11_atom_107 (by decide) ?_
            refine g_icmp_ne (tgt := 128) h dX11_atom_108 (by decide) (fun c108 => ?_) (fun c108 => ?_)
            · refine g_aload_n h dX11_atom_128 rfl rfl ?_
              refine g_dup h dX11_atom_129 rfl ?_
              refine g_getI h fl_X11_97_10 sh_178 (by decide) rfl dX11_atom_130 ?_
              refine g_top mr_r11 ?_
              refine g_iconst (v := nI 1) h dX11_atom_133 (by decide) ?_
              refine g_iadd h dX11_atom_134 ?_
              refine g_top (nI_1 q9) ?_
              refine g_putI h pfl_X11_97_10 sh_178 (by decide) rfl dX11_atom_135 ?_
              refine g_sto mr_w11 ?_
              refine g_aload_n h dX11_atom_138 rfl rfl ?_
              refine g_dup h dX11_atom_139 rfl ?_
              refine g_getI h fl_X11_184_10 sh_178 (by decide) rfl dX11_atom_140 ?_
              refine g_top (mr_s (by decide)) ?_
              refine g_top su_k ?_
              refine g_iconst (v := nI 1) h dX11_atom_143 (by decide) ?_
              refine g_isub h dX11_atom_144 ?_
              refine g_top (y := nI (6 - (k + 1))) ((pk_sub (by omega)).trans (congrArg nI (by omega))) ?_
              refine g_putI h pfl_X11_184_10 sh_178 (by decide) rfl dX11_atom_145 ?_
              refine g_sto (mr_ss (by decide)) ?_
              refine g_sto (mr_in (su_back hdp)) ?_
              refine g_iload_n h dX11_atom_148 rfl rfl ?_
              exact g_zretP h hrt dX11_atom_149 (by omega) (by first | exact Or.inl rfl | exact Or.inr rfl | exact b2_01 _ | exact hF.2.2.2.1 | exact hF.2.2.2.2 | exact hy | exact hv | exact h01 | exact hx99 | exact hb99 | simp) (qb_e (at_pe n18 n29 h99) hx99 (by omega))
            · exact absurd c108 hw9
          · rename_i y99
            rw [h99] at hs99
            obtain ⟨v99, a99, hb99, hE99, ha99, hsa99, hv99, rfl⟩ := hs99
            cases hv99
            have b99 := (so_b (f := f) (at_b k) _ q1).2 _ h99
            refine g_istore_n (ls' := [(0, _), (1, _), (2, _), (3, _)]) h dX11_atom_102 rfl (by decide) rfl rfl ?_
            refine g_aload_n h dX11_atom_103 rfl rfl ?_
            refine g_getI h fl_X11_25_10 sh_178 (by decide) rfl dX11_atom_104 ?_
            refine g_top mr_r12 ?_
            refine g_iconst (v := -1) h dX11_atom_107 (by decide) ?_
            refine g_icmp_ne (tgt := 128) h dX11_atom_108 (by decide) (fun c108 => ?_) (fun c108 => ?_)
            · exact absurd rfl c108
            · refine g_aload_n h dX11_atom_111 rfl rfl ?_
              refine g_bipush (v := nI 41) h dX11_atom_112 (by decide) ?_
              refine g_V h lv_X11_193_X11 sh_178 (by decide) rfl (c_X11_signs B f L a99 y99.2 hsa99 (-1) (nI 41) (by decide) (by decide) (su u 178 13 (nI (6 - k))) (LF_su hf (by decide) (Or.inl (by decide))) hL ha99) (fitR hR (by first | decide | omega) (by decide) (by omega)) rfl rfl (Nat.le_of_ble_eq_true rfl) dX11_atom_114 ?_
              by_cases n114 : sgP f L y99.2 (nI 41)
              · refine g_top (b2_t n114) ?_
                refine g_if_ne (tgt := 128) h dX11_atom_117 (by decide) (fun _ => ?_) (fun q => absurd q (by decide))
                refine g_aload_n h dX11_atom_128 rfl rfl ?_
                refine g_dup h dX11_atom_129 rfl ?_
                refine g_getI h fl_X11_97_10 sh_178 (by decide) rfl dX11_atom_130 ?_
                refine g_top mr_r11 ?_
                refine g_iconst (v := nI 1) h dX11_atom_133 (by decide) ?_
                refine g_iadd h dX11_atom_134 ?_
                refine g_top (nI_1 y99.2) ?_
                refine g_putI h pfl_X11_97_10 sh_178 (by decide) rfl dX11_atom_135 ?_
                refine g_sto mr_w11 ?_
                refine g_aload_n h dX11_atom_138 rfl rfl ?_
                refine g_dup h dX11_atom_139 rfl ?_
                refine g_getI h fl_X11_184_10 sh_178 (by decide) rfl dX11_atom_140 ?_
                refine g_top (mr_s (by decide)) ?_
                refine g_top su_k ?_
                refine g_iconst (v := nI 1) h dX11_atom_143 (by decide) ?_
                refine g_isub h dX11_atom_144 ?_
                refine g_top (y := nI (6 - (k + 1))) ((pk_sub (by omega)).trans (congrArg nI (by omega))) ?_
                refine g_putI h pfl_X11_184_10 sh_178 (by decide) rfl dX11_atom_145 ?_
                refine g_sto (mr_ss (by decide)) ?_
                refine g_sto (mr_in (su_back hdp)) ?_
                refine g_iload_n h dX11_atom_148 rfl rfl ?_
                exact g_zretP h hrt dX11_atom_149 (by omega) (by first | exact Or.inl rfl | exact Or.inr rfl | exact b2_01 _ | exact hF.2.2.2.1 | exact hF.2.2.2.2 | exact hy | exact hv | exact h01 | exact hx99 | exact hb99 | simp) (qb_k (at_pk n18 n29 h99 n114) hb99 (EV_mono hE99 (by omega)) (by have := sg_lt n114; omega) (show skp f L (y99.2 + 1) = nx f L y99.2 by rw [← sg_en n114]; rfl))
              · refine g_top (b2_f n114) ?_
                refine g_if_ne (tgt := 128) h dX11_atom_117 (by decide) (fun q => absurd q (by decide)) (fun _ => ?_)
                refine g_aload_n h dX11_atom_120 rfl rfl ?_
                refine g_aload_n h dX11_atom_121 rfl rfl ?_
                refine g_getI h fl_X11_97_10 sh_178 (by decide) rfl dX11_atom_122 ?_
                refine g_top mr_r11 ?_
                refine g_V h lv_X11_123_X11 sh_178 (by decide) rfl (c_X11_wrong B f L y99.2 (-1) (nI y99.2) (su u 178 13 (nI (6 - k))) (LF_su hf (by decide) (Or.inl (by decide))) hL b99.2) (fitR hR (by first | decide | omega) (by decide) (by omega)) rfl rfl (Nat.le_of_ble_eq_true rfl) dX11_atom_125 ?_
                refine g_sto (mr_wv (if_pos rfl)) ?_
                refine g_aload_n h dX11_atom_128 rfl rfl ?_
                refine g_dup h dX11_atom_129 rfl ?_
                refine g_getI h fl_X11_97_10 sh_178 (by decide) rfl dX11_atom_130 ?_
                refine g_top mr_r11 ?_
                refine g_iconst (v := nI 1) h dX11_atom_133 (by decide) ?_
                refine g_iadd h dX11_atom_134 ?_
                refine g_top (nI_1 y99.2) ?_
                refine g_putI h pfl_X11_97_10 sh_178 (by decide) rfl dX11_atom_135 ?_
                refine g_sto mr_w11 ?_
                refine g_aload_n h dX11_atom_138 rfl rfl ?_
                refine g_dup h dX11_atom_139 rfl ?_
                refine g_getI h fl_X11_184_10 sh_178 (by decide) rfl dX11_atom_140 ?_
                refine g_top (mr_s (by decide)) ?_
                refine g_top su_k ?_
                refine g_iconst (v := nI 1) h dX11_atom_143 (by decide) ?_
                refine g_isub h dX11_atom_144 ?_
                refine g_top (y := nI (6 - (k + 1))) ((pk_sub (by omega)).trans (congrArg nI (by omega))) ?_
                refine g_putI h pfl_X11_184_10 sh_178 (by decide) rfl dX11_atom_145 ?_
                refine g_sto (mr_ss (by decide)) ?_
                refine g_sto (mr_in (su_back hdp)) ?_
                refine g_iload_n h dX11_atom_148 rfl rfl ?_
                exact g_zretP h hrt dX11_atom_149 (by omega) (by first | exact Or.inl rfl | exact Or.inr rfl | exact b2_01 _ | exact hF.2.2.2.1 | exact hF.2.2.2.2 | exact hy | exact hv | exact h01 | exact hx99 | exact hb99 | simp) (qb_e (at_pc n18 n29 h99 n114) hb99 (by have := b99.2; omega))
        · exact absurd (eq_n (by omega) (by omega) (show nI (6 - (k + 1)) = nI 6 from c46)) (by omega)
      · refine g_top (b2_f n29) ?_
        refine g_if_ne (tgt := 40) h dX11_atom_32 (by decide) (fun q => absurd q (by decide)) (fun _ => ?_)
        refine g_aload_n h dX11_atom_35 rfl rfl ?_
        refine g_VP h lv_X11_232_X11 sh_178 (by decide) rfl (c_X11_plain B f L s s hss fa u hf hL q0 hF) qb_nx (fitR hR (by first | decide | omega) (by decide) (by omega)) rfl rfl (Nat.le_of_ble_eq_true rfl) dX11_atom_36 (fun v36 u36 hs36 => ?_)
        obtain ⟨x36, rfl, h01⟩ := QB_01 hs36
        · skip
          exact g_zretP h hrt dX11_atom_39 (by omega) (by first | exact Or.inl rfl | exact Or.inr rfl | exact b2_01 _ | exact hF.2.2.2.1 | exact hF.2.2.2.2 | exact hy | exact hv | exact h01 | exact hx99 | exact hb99 | simp) (QB_mono (by rw [at_sp n18 n29]; exact hs36) (by omega) (by omega))
  · exact absurd rfl c5
