-- after: 38.r 39.s 40.t 47.str 48.tx 49.ty 50.tt 51.tu 52.tv 53.lw 54.lx 55.ly 56.lz 57.ma
def lnsD (f : Nat → Int32) (L : Nat) : Nat → Nat → Except Nat (List LN)
  | 0, p => .error p
  | k + 1, p => match lwD f L p with
    | .error e => .error e
    | .ok q => if kdN f L q.2 = 0 then .ok [q.1] else if sgP f L q.2 (nI 59) then (match lnsD f L k (nx f L q.2) with
        | .error e => .error e
        | .ok t => .ok (q.1 :: t)) else .error q.2
def lawT (f : Nat → Int32) (L : Nat) : Except Nat (List LN) := if kdN f L (skp f L 0) = 0 then .ok [] else lnsD f L 12 (skp f L 0)
/-- the lines, one behind another, in the draft -/
def lnA (u : Sto) : Nat → Nat → List LN → Sto
  | _, _, [] => u
  | l, n, x :: t => lnA (lnS u l n x) (l + 1) (n + x.2.2.length) t
theorem ls_e {f : Nat → Int32} {L k p e : Nat} (h : lwD f L p = .error e) : lnsD f L (k + 1) p = .error e := by rw [lnsD, h]
theorem ls_1 {f : Nat → Int32} {L k p : Nat} {q : LN × Nat} (h : lwD f L p = .ok q) (h2 : kdN f L q.2 = 0) : lnsD f L (k + 1) p = .ok [q.1] := by rw [lnsD, h]; exact if_pos h2
theorem ls_s {f : Nat → Int32} {L k p : Nat} {q : LN × Nat} (h : lwD f L p = .ok q) (h2 : ¬ kdN f L q.2 = 0) (h3 : ¬ sgP f L q.2 (nI 59)) : lnsD f L (k + 1) p = .error q.2 := by rw [lnsD, h]; exact (if_neg h2).trans (if_neg h3)
theorem ls_re {f : Nat → Int32} {L k p e : Nat} {q : LN × Nat} (h : lwD f L p = .ok q) (h2 : ¬ kdN f L q.2 = 0) (h3 : sgP f L q.2 (nI 59)) (h4 : lnsD f L k (nx f L q.2) = .error e) : lnsD f L (k + 1) p = .error e := by rw [lnsD, h]; exact (if_neg h2).trans ((if_pos h3).trans (by rw [h4]))
theorem ls_rk {f : Nat → Int32} {L k p : Nat} {q : LN × Nat} {t : List LN} (h : lwD f L p = .ok q) (h2 : ¬ kdN f L q.2 = 0) (h3 : sgP f L q.2 (nI 59)) (h4 : lnsD f L k (nx f L q.2) = .ok t) : lnsD f L (k + 1) p = .ok (q.1 :: t) := by rw [lnsD, h]; exact (if_neg h2).trans ((if_pos h3).trans (by rw [h4]))
def QR (u : Sto) (f : Nat → Int32) (L : Nat) (r : Except Nat (List LN)) : Res → Sto → Prop := fun o s => match r with
  | .error e => o = .inl (some (.int (nI e))) ∧ ∃ u' g a b c p w, dl u' u ∧ s = LT u' g a b c f L p w
  | .ok t => o = .inl (some (.int (-1))) ∧ ∃ g a b c p w, s = LT (lnA (clS u) 0 0 t) g a b c f L p w
theorem qr_nx {u : Sto} {f : Nat → Int32} {L : Nat} {r : Except Nat (List LN)} : ∀ Ex s, ¬ QR u f L r (.inr Ex) s := by
  intro Ex s h
  cases r with
  | error e => exact nomatch h.1
  | ok q => exact nomatch h.1
theorem qr_e {u v : Sto} {g : Nat → Int32} {a b c : Int32} {f : Nat → Int32} {L p e : Nat} {w : Int32} {R : Except Nat (List LN)} (h : R = .error e) (hd : dl v u) : QR u f L R (.inl (some (.int (nI e)))) (LT v g a b c f L p w) := by
  rw [h]; exact ⟨rfl, v, g, a, b, c, p, w, hd, rfl⟩
theorem qr_k {u v : Sto} {g : Nat → Int32} {a b c : Int32} {f : Nat → Int32} {L p : Nat} {w : Int32} {R : Except Nat (List LN)} {t : List LN} (h : R = .ok t) (hv : lnA (clS u) 0 0 t = v) : QR u f L R (.inl (some (.int (-1)))) (LT v g a b c f L p w) := by
  rw [h]; exact ⟨rfl, g, a, b, c, p, w, by rw [hv]⟩
theorem clS_c {u : Sto} {k : Nat} (h : k < 43 ∨ 47 < k) : clS u k = u k := by
  unfold clS
  rw [su_cell _ _ (by omega), su_cell _ _ (by omega)]
theorem clS_5 {u : Sto} : clS u 43 5 = nI 0 := by
  unfold clS
  rw [su_cell _ _ (by decide), su_at, pk_us]
theorem clS_n {u : Sto} : clS u 45 0 = nI 0 := by
  unfold clS
  rw [su_at, pk_us]
theorem lnS_c {u : Sto} {l n k : Nat} {x : LN} (h : k < 43 ∨ 47 < k) : lnS u l n x k = u k := (adW_c (by omega) (by omega) _ _ _).trans (alS_c h)
theorem lnS_5 {u : Sto} {l n : Nat} {x : LN} : lnS u l n x 43 5 = nI (l + 1) := by
  unfold lnS
  rw [adW_c (by decide) (by decide)]; exact alS_5
theorem lnS_n {u : Sto} {l n : Nat} {x : LN} (h : u 45 l = nI n) (h4 : n + x.2.2.length ≤ 400) : lnS u l n x 45 (l + 1) = nI (n + x.2.2.length) := adW_n _ _ _ (alS_n.trans h) h4
set_option maxHeartbeats 1000000 in
theorem c_X3_readLaw {E : EE} (f : Nat → Int32) (L : Nat) (u : Sto) (hf : u 1 = f) (hL : L ≤ 400) : CtP E 11 0 yX3_readLaw cX3_readLaw 4 (some .int) [.ref (E.ad 160), .int (nI L)] u (QR u f L (lawT f L)) := by
  refine ctp_of (by decide) (Nat.le_of_ble_eq_true rfl) (fun X h hR hrt htab hargs => ?_)
  have DN : ∀ (k q : Nat) (v : Sto) (g : Nat → Int32) (a b c w : Int32), k ≤ 12 → q ≤ L → v 1 = f → QR u f L (lawT f L) (.inl (some (.int w))) (LT v g a b c f L q w) → G E X (QMP E X (QR u f L (lawT f L)) 0) 4 0 27 [(0, .ref (E.ad 160)), (1, .int (nI L)), (2, .int (nI 0)), (3, .int (nI k))] [] (LT v g a b c f L q w) := by
    intro k q v g a b c w hk hq hf2 hQ
    refine g_iload_n h dX3_readLaw_27 rfl rfl ?_
    refine g_bipush (v := nI 12) h dX3_readLaw_28 (by decide) ?_
    refine g_icmp_ge (tgt := 79) h dX3_readLaw_30 (by decide) (fun c30 => ?_) (fun c30 => ?_)
    · have n30 := le_n (by omega) (by omega) (show nI (12) ≤ nI (k) from c30)
      refine g_iload_n h dX3_readLaw_79 rfl rfl ?_
      refine g_if_eq (tgt := 88) h dX3_readLaw_80 (by decide) (fun _ => ?_) (fun q => absurd q (by decide))
      refine g_aload_n h dX3_readLaw_88 rfl rfl ?_
      refine g_V h lv_X3_46_X3 sh_160 (by decide) rfl (c_X6_firstWrong_160 f L q w (lfS v g a b c) ((lf_oc (by decide) (by decide)).trans hf2) hL hq) (fitR hR (by decide) (by decide) (by omega)) rfl rfl (Nat.le_of_ble_eq_true rfl) dX3_readLaw_89 ?_
      exact g_iretP h hrt dX3_readLaw_92 (by omega) hQ
    · have n30 := nle_n (by omega) (by omega) (show ¬ nI (12) ≤ nI (k) from c30)
      refine g_iload_n h dX3_readLaw_33 rfl rfl ?_
      refine g_if_eq (tgt := 79) h dX3_readLaw_34 (by decide) (fun _ => ?_) (fun q => absurd q (by decide))
      refine g_iload_n h dX3_readLaw_79 rfl rfl ?_
      refine g_if_eq (tgt := 88) h dX3_readLaw_80 (by decide) (fun _ => ?_) (fun q => absurd q (by decide))
      refine g_aload_n h dX3_readLaw_88 rfl rfl ?_
      refine g_V h lv_X3_46_X3 sh_160 (by decide) rfl (c_X6_firstWrong_160 f L q w (lfS v g a b c) ((lf_oc (by decide) (by decide)).trans hf2) hL hq) (fitR hR (by decide) (by decide) (by omega)) rfl rfl (Nat.le_of_ble_eq_true rfl) dX3_readLaw_89 ?_
      exact g_iretP h hrt dX3_readLaw_92 (by omega) hQ
  have LP : ∀ (j l q n2 : Nat) (v : Sto) (g : Nat → Int32) (a b c : Int32), l + j = 12 → q ≤ L → v 1 = f → v 43 5 = nI l → v 45 l = nI n2 → n2 ≤ q → dl v u → (∀ e, lnsD f L j q = .error e → lawT f L = .error e) → (∀ t, lnsD f L j q = .ok t → ∃ t0, lawT f L = .ok t0 ∧ lnA (clS u) 0 0 t0 = lnA v l n2 t) → G E X (QMP E X (QR u f L (lawT f L)) 0) 4 0 27 [(0, .ref (E.ad 160)), (1, .int (nI L)), (2, .int (nI 1)), (3, .int (nI l))] [] (LT v g a b c f L q (-1)) := by
    intro j
    induction j with
    | zero =>
      intro l q n2 v g a b c hlj hq hf2 hxv hnv hnq hd hE hK
      refine g_iload_n h dX3_readLaw_27 rfl rfl ?_
      refine g_bipush (v := nI 12) h dX3_readLaw_28 (by decide) ?_
      refine g_icmp_ge (tgt := 79) h dX3_readLaw_30 (by decide) (fun c30 => ?_) (fun c30 => ?_)
      · have n30 := le_n (by omega) (by omega) (show nI (12) ≤ nI (l) from c30)
        refine g_iload_n h dX3_readLaw_79 rfl rfl ?_
        refine g_if_eq (tgt := 88) h dX3_readLaw_80 (by decide) (fun q => absurd q (by decide)) (fun _ => ?_)
        refine g_aload_n h dX3_readLaw_83 rfl rfl ?_
        refine g_V h lv_X3_43_X3 sh_160 (by decide) rfl (c_X6_fail_160 f L q (-1) (lfS v g a b c) ((lf_oc (by decide) (by decide)).trans hf2) hL hq) (fitR hR (by decide) (by decide) (by omega)) rfl rfl (Nat.le_of_ble_eq_true rfl) dX3_readLaw_84 ?_
        refine g_pop h dX3_readLaw_87 rfl ?_
        refine g_aload_n h dX3_readLaw_88 rfl rfl ?_
        refine g_V h lv_X3_46_X3 sh_160 (by decide) rfl (c_X6_firstWrong_160 f L q (nI q) (lfS v g a b c) ((lf_oc (by decide) (by decide)).trans hf2) hL hq) (fitR hR (by decide) (by decide) (by omega)) rfl rfl (Nat.le_of_ble_eq_true rfl) dX3_readLaw_89 ?_
        exact g_iretP h hrt dX3_readLaw_92 (by omega) (qr_e (hE q rfl) hd)
      · have n30 := nle_n (by omega) (by omega) (show ¬ nI (12) ≤ nI (l) from c30)
        omega
    | succ j ih =>
      intro l q n2 v g a b c hlj hq hf2 hxv hnv hnq hd hE hK
      refine g_iload_n h dX3_readLaw_27 rfl rfl ?_
      refine g_bipush (v := nI 12) h dX3_readLaw_28 (by decide) ?_
      refine g_icmp_ge (tgt := 79) h dX3_readLaw_30 (by decide) (fun c30 => ?_) (fun c30 => ?_)
      · have n30 := le_n (by omega) (by omega) (show nI (12) ≤ nI (l) from c30)
        omega
      · have n30 := nle_n (by omega) (by omega) (show ¬ nI (12) ≤ nI (l) from c30)
        refine g_iload_n h dX3_readLaw_33 rfl rfl ?_
        refine g_if_eq (tgt := 79) h dX3_readLaw_34 (by decide) (fun q => absurd q (by decide)) (fun _ => ?_)
        refine g_aload_n h dX3_readLaw_37 rfl rfl ?_
        refine g_VP h lv_X3_33_X3 sh_160 (by decide) rfl (c_X3_readHead g a b c f L q (-1) l n2 (by omega) v hf2 hL hq hxv hnv hnq) qh_nx (fitR hR (by decide) (by decide) (by omega)) rfl rfl (Nat.le_of_ble_eq_true rfl) dX3_readLaw_38 (fun v38 u38 hs38 => ?_)
        cases h38 : lwH f L q
        · rename_i e38
          rw [h38] at hs38
          obtain ⟨hv38, u38, g38, a38, b38, c38, p38, hd38, hp38, rfl⟩ := hs38
          cases hv38
          refine g_if_eq (tgt := 71) h dX3_readLaw_41 (by decide) (fun _ => ?_) (fun q => absurd q (by decide))
          refine g_iconst (v := nI 0) h dX3_readLaw_71 (by decide) ?_
          refine g_istore_n (ls' := [(0, _), (1, _), (2, _), (3, _)]) h dX3_readLaw_72 rfl (by decide) rfl rfl ?_
          refine g_iinc (v := nI (l + 1)) (ls' := [(0, _), (1, _), (2, _), (3, _)]) h dX3_readLaw_73 rfl (nI_1 l) (by decide) rfl rfl ?_
          refine g_goto (tgt := 27) h dX3_readLaw_76 (by decide) ?_
          exact DN (l + 1) p38 u38 g38 a38 b38 c38 (nI e38) (by omega) hp38 ((hd38 1 (by decide)).trans hf2) (qr_e (hE _ (ls_e (d_he h38))) (hd38.trans hd))
        · rename_i y38
          rw [h38] at hs38
          obtain ⟨hv38, hy38, hm38, g38, a38, b38, c38, rfl⟩ := hs38
          cases hv38
          refine g_if_eq (tgt := 71) h dX3_readLaw_41 (by decide) (fun q => absurd q (by decide)) (fun _ => ?_)
          refine g_aload_n h dX3_readLaw_44 rfl rfl ?_
          refine g_VP h lv_X3_36_X3 sh_160 (by decide) rfl (c_X3_readCondition g38 a38 b38 c38 f L y38.2.2 (-1) (l + 1) n2 (by omega) (by omega) (alS v l y38.1 y38.2.1) ((alS_c (by decide)).trans hf2) hL hy38 alS_5 (alS_n.trans hnv) hm38) qc_nx (fitR hR (by decide) (by decide) (by omega)) rfl rfl (Nat.le_of_ble_eq_true rfl) dX3_readLaw_45 (fun v45 u45 hs45 => ?_)
          cases h45 : cnF f L y38.2.2
          · rename_i e45
            rw [h45] at hs45
            obtain ⟨hv45, u45, g45, a45, b45, c45, p45, hd45, hp45, rfl⟩ := hs45
            cases hv45
            refine g_if_eq (tgt := 71) h dX3_readLaw_48 (by decide) (fun _ => ?_) (fun q => absurd q (by decide))
            refine g_iconst (v := nI 0) h dX3_readLaw_71 (by decide) ?_
            refine g_istore_n (ls' := [(0, _), (1, _), (2, _), (3, _)]) h dX3_readLaw_72 rfl (by decide) rfl rfl ?_
            refine g_iinc (v := nI (l + 1)) (ls' := [(0, _), (1, _), (2, _), (3, _)]) h dX3_readLaw_73 rfl (nI_1 l) (by decide) rfl rfl ?_
            refine g_goto (tgt := 27) h dX3_readLaw_76 (by decide) ?_
            have hdB : dl u45 v := hd45.trans dl_alS
            exact DN (l + 1) p45 u45 g45 a45 b45 c45 (nI e45) (by omega) hp45 ((hdB 1 (by decide)).trans hf2) (qr_e (hE _ (ls_e (d_ce h38 h45))) (hdB.trans hd))
          · rename_i r45
            rw [h45] at hs45
            obtain ⟨hv45, hr45, hn45, g45, a45, b45, c45, rfl⟩ := hs45
            cases hv45
            obtain ⟨q45, hq9, k45⟩ : ∃ x : LN × Nat, x = ((y38.1, y38.2.1, r45.1), r45.2) ∧ lwD f L q = .ok x := ⟨_, rfl, d_ck h38 h45⟩
            refine g_sto (show _ = LT (lnS v l n2 q45.1) g45 a45 b45 c45 f L q45.2 (-1) by rw [hq9]; rfl) ?_
            have hq45 : q45.2 ≤ L := by rw [hq9]; exact hr45
            have hm45 : n2 + q45.1.2.2.length ≤ q45.2 := by rw [hq9]; exact hn45
            have hfA : (lnS v l n2 q45.1) 1 = f := (lnS_c (by decide)).trans hf2
            have hdA : dl (lnS v l n2 q45.1) u := fun k hk => (lnS_c hk).trans (hd k hk)
            refine g_if_eq (tgt := 71) h dX3_readLaw_48 (by decide) (fun q => absurd q (by decide)) (fun _ => ?_)
            refine g_aload_n h dX3_readLaw_51 rfl rfl ?_
            refine g_V h lv_X3_29_X3 sh_160 (by decide) rfl (c_X6_atEnd_160 f L q45.2 (-1) (lfS (lnS v l n2 q45.1) g45 a45 b45 c45) ((lf_oc (by decide) (by decide)).trans hfA) hL hq45) (fitR hR (by decide) (by decide) (by omega)) rfl rfl (Nat.le_of_ble_eq_true rfl) dX3_readLaw_52 ?_
            by_cases n52 : kdN f L q45.2 = 0
            · refine g_top (b2_t n52) ?_
              refine g_if_ne (tgt := 71) h dX3_readLaw_55 (by decide) (fun _ => ?_) (fun q => absurd q (by decide))
              refine g_iconst (v := nI 0) h dX3_readLaw_71 (by decide) ?_
              refine g_istore_n (ls' := [(0, _), (1, _), (2, _), (3, _)]) h dX3_readLaw_72 rfl (by decide) rfl rfl ?_
              refine g_iinc (v := nI (l + 1)) (ls' := [(0, _), (1, _), (2, _), (3, _)]) h dX3_readLaw_73 rfl (nI_1 l) (by decide) rfl rfl ?_
              refine g_goto (tgt := 27) h dX3_readLaw_76 (by decide) ?_
              obtain ⟨t0, ht0, hA0⟩ := hK _ (ls_1 k45 n52)
              exact DN (l + 1) q45.2 (lnS v l n2 q45.1) g45 a45 b45 c45 (-1) (by omega) hq45 hfA (qr_k ht0 hA0)
            · refine g_top (b2_f n52) ?_
              refine g_if_ne (tgt := 71) h dX3_readLaw_55 (by decide) (fun q => absurd q (by decide)) (fun _ => ?_)
              refine g_aload_n h dX3_readLaw_58 rfl rfl ?_
              refine g_bipush (v := nI 59) h dX3_readLaw_59 (by decide) ?_
              refine g_V h lv_X3_39_X3 sh_160 (by decide) rfl (c_X6_passSign_160 f L q45.2 (-1) (nI 59) (lfS (lnS v l n2 q45.1) g45 a45 b45 c45) ((lf_oc (by decide) (by decide)).trans hfA) hL hq45) (fitR hR (by decide) (by decide) (by omega)) rfl rfl (Nat.le_of_ble_eq_true rfl) dX3_readLaw_61 ?_
              by_cases n61 : sgP f L q45.2 (nI 59)
              · refine g_top (b2_t n61) ?_
                refine g_sto (if_pos n61) ?_
                refine g_if_eq (tgt := 71) h dX3_readLaw_64 (by decide) (fun q => absurd q (by decide)) (fun _ => ?_)
                refine g_iconst (v := nI 1) h dX3_readLaw_67 (by decide) ?_
                refine g_goto (tgt := 72) h dX3_readLaw_68 (by decide) ?_
                refine g_istore_n (ls' := [(0, _), (1, _), (2, _), (3, _)]) h dX3_readLaw_72 rfl (by decide) rfl rfl ?_
                refine g_iinc (v := nI (l + 1)) (ls' := [(0, _), (1, _), (2, _), (3, _)]) h dX3_readLaw_73 rfl (nI_1 l) (by decide) rfl rfl ?_
                refine g_goto (tgt := 27) h dX3_readLaw_76 (by decide) ?_
                exact ih (l + 1) (nx f L q45.2) (n2 + q45.1.2.2.length) (lnS v l n2 q45.1) g45 a45 b45 c45 (by omega) (nx_b hq45).2 hfA lnS_5 (lnS_n hnv (by omega)) (by have := (nx_b (f := f) hq45).1; omega) hdA (fun e he => hE e (ls_re k45 n52 n61 he)) (fun t ht => hK _ (ls_rk k45 n52 n61 ht))
              · refine g_top (b2_f n61) ?_
                refine g_sto (if_neg n61) ?_
                refine g_if_eq (tgt := 71) h dX3_readLaw_64 (by decide) (fun _ => ?_) (fun q => absurd q (by decide))
                refine g_iconst (v := nI 0) h dX3_readLaw_71 (by decide) ?_
                refine g_istore_n (ls' := [(0, _), (1, _), (2, _), (3, _)]) h dX3_readLaw_72 rfl (by decide) rfl rfl ?_
                refine g_iinc (v := nI (l + 1)) (ls' := [(0, _), (1, _), (2, _), (3, _)]) h dX3_readLaw_73 rfl (nI_1 l) (by decide) rfl rfl ?_
                refine g_goto (tgt := 27) h dX3_readLaw_76 (by decide) ?_
                exact DN (l + 1) q45.2 (lnS v l n2 q45.1) g45 a45 b45 c45 (nI q45.2) (by omega) hq45 hfA (qr_e (hE _ (ls_s k45 n52 n61)) hdA)
  have hs0 := (skp_b (f := f) (Nat.zero_le L)).2
  refine g_aload_n h dX3_readLaw_0 rfl rfl ?_
  refine g_iload_n h dX3_readLaw_1 rfl rfl ?_
  refine g_V h lv_X3_19_X3 sh_160 (by decide) rfl (c_X6_open_160 f L u hf hL) (fitR hR (by decide) (by decide) (by omega)) rfl rfl (Nat.le_of_ble_eq_true rfl) dX3_readLaw_2 ?_
  refine g_aload_n h dX3_readLaw_5 rfl rfl ?_
  refine g_getR h fl_X3_15_3 sh_160 (by decide) rfl dX3_readLaw_6 ?_
  refine g_V h lv_X3_23_X2 sh_43 (by decide) rfl (c_X2_clearLines _) (fitR hR (by decide) (by decide) (by omega)) rfl rfl (Nat.le_of_ble_eq_true rfl) dX3_readLaw_9 ?_
  have hC : clS (tkS9 u 160 f L (skp f L 0) (-1)) = LT (clS u) (u 161) (u 160 9) (u 160 10) (u 160 11) f L (skp f L 0) (-1) := by
    rw [← clS_LT]
    exact congrArg clS (tx_in lf_eta.symm)
  refine g_sto hC ?_
  refine g_aload_n h dX3_readLaw_12 rfl rfl ?_
  refine g_V h lv_X3_29_X3 sh_160 (by decide) rfl (c_X6_atEnd_160 f L (skp f L 0) (-1) (lfS (clS u) (u 161) (u 160 9) (u 160 10) (u 160 11)) ((lf_oc (by decide) (by decide)).trans ((clS_c (by decide)).trans hf)) hL hs0) (fitR hR (by decide) (by decide) (by omega)) rfl rfl (Nat.le_of_ble_eq_true rfl) dX3_readLaw_13 ?_
  by_cases n13 : kdN f L (skp f L 0) = 0
  · refine g_top (b2_t n13) ?_
    refine g_if_ne (tgt := 23) h dX3_readLaw_16 (by decide) (fun _ => ?_) (fun q => absurd q (by decide))
    refine g_iconst (v := nI 0) h dX3_readLaw_23 (by decide) ?_
    refine g_istore_n (ls' := [(0, _), (1, _), (2, _)]) h dX3_readLaw_24 rfl (by decide) rfl rfl ?_
    refine g_iconst (v := nI 0) h dX3_readLaw_25 (by decide) ?_
    refine g_istore_n (ls' := [(0, _), (1, _), (2, _), (3, _)]) h dX3_readLaw_26 rfl (by decide) rfl rfl ?_
    exact DN 0 _ (clS u) _ _ _ _ (-1) (by omega) hs0 ((clS_c (by decide)).trans hf) (qr_k (by rw [lawT, if_pos n13]) rfl)
  · refine g_top (b2_f n13) ?_
    refine g_if_ne (tgt := 23) h dX3_readLaw_16 (by decide) (fun q => absurd q (by decide)) (fun _ => ?_)
    refine g_iconst (v := nI 1) h dX3_readLaw_19 (by decide) ?_
    refine g_goto (tgt := 24) h dX3_readLaw_20 (by decide) ?_
    refine g_istore_n (ls' := [(0, _), (1, _), (2, _)]) h dX3_readLaw_24 rfl (by decide) rfl rfl ?_
    refine g_iconst (v := nI 0) h dX3_readLaw_25 (by decide) ?_
    refine g_istore_n (ls' := [(0, _), (1, _), (2, _), (3, _)]) h dX3_readLaw_26 rfl (by decide) rfl rfl ?_
    exact LP 12 0 _ 0 (clS u) _ _ _ _ (by omega) hs0 ((clS_c (by decide)).trans hf) clS_5 clS_n (by omega) (fun k hk => clS_c hk) (fun e he => by rw [lawT, if_neg n13]; exact he) (fun t ht => ⟨t, by rw [lawT, if_neg n13]; exact ht, rfl⟩)
