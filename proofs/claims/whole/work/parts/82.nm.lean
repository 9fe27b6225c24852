-- after: 38.r 39.s 40.t 47.str 48.tx 49.ty 50.tt 51.tu 52.tv 53.lw 54.lx 55.ly 56.lz 57.ma 58.mb 59.mc 62.mf 70.na 71.nb 72.nc 73.nd 74.ne 75.nf 76.ng 77.nh 78.ni 79.nj 80.nk 81.nl
def lnsP (f : Nat → Int32) (L : Nat) : Nat → Nat → Except Nat (List LN)
  | 0, p => .error p
  | k + 1, p => match lwP f L p with
    | .error e => .error e
    | .ok q => if kdN f L q.2 = 0 then .ok [q.1] else if sgP f L q.2 (nI 59) then (match lnsP f L k (nx f L q.2) with
        | .error e => .error e
        | .ok t => .ok (q.1 :: t)) else .error q.2
def lawP (f : Nat → Int32) (L : Nat) : Except Nat (List LN) := if kdN f L (skp f L 0) = 0 then .ok [] else lnsP f L 12 (skp f L 0)
theorem lq_e {f : Nat → Int32} {L k p e : Nat} (h : lwP f L p = .error e) : lnsP f L (k + 1) p = .error e := by rw [lnsP, h]
theorem lq_1 {f : Nat → Int32} {L k p : Nat} {q : LN × Nat} (h : lwP f L p = .ok q) (h2 : kdN f L q.2 = 0) : lnsP f L (k + 1) p = .ok [q.1] := by rw [lnsP, h]; exact if_pos h2
theorem lq_s {f : Nat → Int32} {L k p : Nat} {q : LN × Nat} (h : lwP f L p = .ok q) (h2 : ¬ kdN f L q.2 = 0) (h3 : ¬ sgP f L q.2 (nI 59)) : lnsP f L (k + 1) p = .error q.2 := by rw [lnsP, h]; exact (if_neg h2).trans (if_neg h3)
theorem lq_re {f : Nat → Int32} {L k p e : Nat} {q : LN × Nat} (h : lwP f L p = .ok q) (h2 : ¬ kdN f L q.2 = 0) (h3 : sgP f L q.2 (nI 59)) (h4 : lnsP f L k (nx f L q.2) = .error e) : lnsP f L (k + 1) p = .error e := by rw [lnsP, h]; exact (if_neg h2).trans ((if_pos h3).trans (by rw [h4]))
theorem lq_rk {f : Nat → Int32} {L k p : Nat} {q : LN × Nat} {t : List LN} (h : lwP f L p = .ok q) (h2 : ¬ kdN f L q.2 = 0) (h3 : sgP f L q.2 (nI 59)) (h4 : lnsP f L k (nx f L q.2) = .ok t) : lnsP f L (k + 1) p = .ok (q.1 :: t) := by rw [lnsP, h]; exact (if_neg h2).trans ((if_pos h3).trans (by rw [h4]))
theorem lp_bb {f : Nat → Int32} {L p : Nat} (hp : p ≤ L) : (∀ e, lwP f L p = .error e → e ≤ L) ∧ ∀ q, lwP f L p = .ok q → q.2 ≤ L := by
  unfold lwP
  split
  · rename_i he
    exact ⟨fun e h => by cases h; exact (lh_b hp).1 _ he, fun q h => (nomatch h)⟩
  · rename_i q hq
    have h2 := (lh_b hp).2 _ hq
    split
    · split
      · rename_i he
        exact ⟨fun e h => by cases h; exact (cn_b _ (nx_b h2).2).1 _ he, fun q h => (nomatch h)⟩
      · rename_i r hr
        exact ⟨fun e h => (nomatch h), fun q h => by cases h; exact ((cn_b _ (nx_b h2).2).2 _ hr).2⟩
    · exact ⟨fun e h => (nomatch h), fun q h => by cases h; exact h2⟩
def lvA (u : Sto) (fa : Nat → Int32) (t : List LN) : Sto := t.foldl (fun s x => lvS s fa x) u
def brv (a b : Sto) : Prop := (∀ k, k ≠ 178 → a k = b k) ∧ ∀ j, j < 17 ∨ 19 < j → a 178 j = b 178 j
theorem brv.refl (a : Sto) : brv a a := ⟨fun _ _ => rfl, fun _ _ => rfl⟩
theorem brv.trans {a b c : Sto} (h : brv a b) (h2 : brv b c) : brv a c := ⟨fun k hk => (h.1 k hk).trans (h2.1 k hk), fun j hj => (h.2 j hj).trans (h2.2 j hj)⟩
theorem brv_su {u : Sto} {j : Nat} {x : Int32} (h : 17 ≤ j ∧ j ≤ 19) : brv (su u 178 j x) u := ⟨fun k hk => su_cell _ _ hk, fun i hi => su_i (by omega)⟩
theorem brv_lv {u : Sto} {fa : Nat → Int32} {x : LN} : brv (lvS u fa x) u := by
  unfold lvS
  split
  · split
    · exact brv_su (by decide)
    · split
      · exact brv_su (by decide)
      · exact brv_su (by decide)
  · exact brv.refl _
theorem brv_LF {a b : Sto} {B : Int32} {f : Nat → Int32} (h : brv a b) (hf : LF b B f) : LF a B f := by
  unfold LF
  rw [h.1 183 (by decide), h.1 179 (by decide)]; exact hf
theorem brv_FA {a b : Sto} {fa : Nat → Int32} (h : brv a b) (hf : FA b fa) : FA a fa := by
  unfold FA
  rw [h.1 184 (by decide), h.2 15 (by decide), h.2 16 (by decide)]; exact hf
def QRl (u : Sto) (B : Int32) (f : Nat → Int32) (L : Nat) (fa : Nat → Int32) (r : Except Nat (List LN)) : Res → Sto → Prop := fun o t => match r with
  | .error e => ∃ x v q, brv v u ∧ q ≤ L + 7 ∧ o = .inl (some (.int x)) ∧ t = MR v B L q (nI e)
  | .ok ls => ∃ q, q ≤ L ∧ o = .inl (some (.int (nI ls.length))) ∧ t = MR (lvA u fa ls) B L q (-1)
theorem qrl_nx {u : Sto} {B : Int32} {f : Nat → Int32} {L : Nat} {fa : Nat → Int32} {r : Except Nat (List LN)} : ∀ Ex s, ¬ QRl u B f L fa r (.inr Ex) s := by
  intro Ex s h
  cases r with
  | error e => obtain ⟨_, _, _, _, _, h, _⟩ := h; exact nomatch h
  | ok q => obtain ⟨_, _, h, _⟩ := h; exact nomatch h
theorem qrl_e {u v : Sto} {B : Int32} {f : Nat → Int32} {L q e : Nat} {fa : Nat → Int32} {r : Except Nat (List LN)} {x : Int32} (h : r = .error e) (hb : brv v u) (hq : q ≤ L + 7) : QRl u B f L fa r (.inl (some (.int x))) (MR v B L q (nI e)) := by rw [h]; exact ⟨x, v, q, hb, hq, rfl, rfl⟩
theorem qrl_k {u v : Sto} {B : Int32} {f : Nat → Int32} {L q n : Nat} {fa : Nat → Int32} {ls : List LN} {r : Except Nat (List LN)} (h : r = .ok ls) (hn : n = ls.length) (hv : v = lvA u fa ls) (hq : q ≤ L) : QRl u B f L fa r (.inl (some (.int (nI n)))) (MR v B L q (-1)) := by rw [h, hn, hv]; exact ⟨q, hq, rfl, rfl⟩
theorem kd0 {f : Nat → Int32} {L b : Nat} : kdN f L b = 0 ↔ L ≤ b := by
  constructor
  · intro h
    by_cases q : L ≤ b
    · exact q
    · unfold kdN at h
      rw [if_neg q] at h
      split at h
      · omega
      · split at h <;> omega
  · intro h; unfold kdN; rw [if_pos h]
theorem sk_L {f : Nat → Int32} {L : Nat} {p : Nat} (h : L ≤ p) : skp f L p = p := sk_e (fun q => by have := q.1; omega)
theorem c_X11_skip_x {E : EE} (B : Int32) (f : Nat → Int32) (L p : Nat) (w : Int32) (u : Sto) (hf : LF u B f) (hL : L ≤ 400) (hp : p ≤ L + 7) : Ct E 2 0 yX11_skip cX11_skip 1 none [.ref (E.ad 178)] (MR u B L p w) (.inl none) (MR u B L (if p ≤ L then skp f L p else p) w) := by
  by_cases e : p ≤ L
  · rw [if_pos e]; exact c_X11_skip B f L p w u hf hL e
  · rw [if_neg e]
    refine ct_of (by decide) (Nat.le_of_ble_eq_true rfl) (fun X h hR hrt htab hargs hini => ?_)
    refine g_aload_n h dX11_skip_0 rfl rfl ?_
    refine g_getI h fl_X11_97_10 sh_178 (by decide) rfl dX11_skip_1 ?_
    refine g_top mr_r11 ?_
    refine g_aload_n h dX11_skip_4 rfl rfl ?_
    refine g_getI h fl_X11_100_10 sh_178 (by decide) rfl dX11_skip_5 ?_
    refine g_top mr_r10 ?_
    refine g_icmp_ge (tgt := 37) h dX11_skip_8 (by decide) (fun c8 => ?_) (fun c8 => ?_)
    · have n8 := le_n (by omega) (by omega) (show nI (L) ≤ nI (p) from c8)
      exact g_vret h hrt dX11_skip_37 (by omega) rfl rfl
    · have n8 := nle_n (by omega) (by omega) (show ¬ nI (L) ≤ nI (p) from c8)
      omega
set_option maxHeartbeats 1000000 in
theorem c_X11_read_t {E : EE} (B : Int32) (f : Nat → Int32) (L : Nat) (fa : Nat → Int32) (u : Sto) (hf : LF u B f) (hL : L ≤ 400) (hF : FA u fa) (hdp : u 178 13 = nI 0) : CtP E 31 0 yX11_read cX11_read 4 (some .int) [.ref (E.ad 178), .int (nI 1)] (MR u B L 0 (-1)) (QRl u B f L fa (lawP f L)) := by
  refine ctp_of (by decide) (Nat.le_of_ble_eq_true rfl) (fun X h hR hrt htab hargs => ?_)
  have DN : ∀ (v : Sto) (n q : Nat), q ≤ L → QRl u B f L fa (lawP f L) (.inl (some (.int (nI n)))) (MR v B L q (-1)) → G E X (QMP E X (QRl u B f L fa (lawP f L)) 0) 4 0 23 [(0, .ref (E.ad 178)), (1, .int (nI 1)), (2, .int (nI 0)), (3, .int (nI n))] [] (MR v B L q (-1)) := by
    intro v n q hq hQ
    refine g_iload_n h dX11_read_23 rfl rfl ?_
    refine g_if_eq (tgt := 144) h dX11_read_24 (by decide) (fun _ => ?_) (fun q => absurd q (by decide))
    refine g_iload_n h dX11_read_144 rfl rfl ?_
    exact g_iretP h hrt dX11_read_145 (by omega) hQ
  have XA : ∀ (v : Sto) (x : Int32) (q e9 : Nat), brv v u → q ≤ L + 7 → ¬ nI e9 = -1 → lawP f L = .error e9 → G E X (QMP E X (QRl u B f L fa (lawP f L)) 0) 4 0 23 [(0, .ref (E.ad 178)), (1, .int (nI 1)), (2, .int (nI 0)), (3, .int x)] [] (MR v B L q (nI e9)) := by
    intro v x q e9 hb hq hw9 hr
    refine g_iload_n h dX11_read_23 rfl rfl ?_
    refine g_if_eq (tgt := 144) h dX11_read_24 (by decide) (fun _ => ?_) (fun q => absurd q (by decide))
    refine g_iload_n h dX11_read_144 rfl rfl ?_
    exact g_iretP h hrt dX11_read_145 (by omega) (qrl_e hr hb hq)
  have XB : ∀ (v : Sto) (x : Int32) (q e9 : Nat), brv v u → q ≤ L + 7 → ¬ nI e9 = -1 → lawP f L = .error e9 → G E X (QMP E X (QRl u B f L fa (lawP f L)) 0) 4 0 23 [(0, .ref (E.ad 178)), (1, .int (nI 1)), (2, .int (nI 1)), (3, .int x)] [] (MR v B L q (nI e9)) := by
    intro v x q e9 hb hq hw9 hr
    refine g_iload_n h dX11_read_23 rfl rfl ?_
    refine g_if_eq (tgt := 144) h dX11_read_24 (by decide) (fun q => absurd q (by decide)) (fun _ => ?_)
    refine g_aload_n h dX11_read_27 rfl rfl ?_
    refine g_getI h fl_X11_25_10 sh_178 (by decide) rfl dX11_read_28 ?_
    refine g_top mr_r12 ?_
    refine g_iconst (v := -1) h dX11_read_31 (by decide) ?_
    refine g_icmp_ne (tgt := 144) h dX11_read_32 (by decide) (fun c32 => ?_) (fun c32 => ?_)
    · refine g_iload_n h dX11_read_144 rfl rfl ?_
      exact g_iretP h hrt dX11_read_145 (by omega) (qrl_e hr hb hq)
    · exact absurd c32 hw9
  have LP : ∀ (j l a s1 : Nat) (v : Sto), l + j = 12 → a ≤ L → s1 ≤ L → skp f L a = s1 → brv v u → (∀ e, lnsP f L j s1 = .error e → lawP f L = .error e) → (∀ t, lnsP f L j s1 = .ok t → ∃ t0, lawP f L = .ok t0 ∧ l + t.length = t0.length ∧ lvA u fa t0 = lvA v fa t) → G E X (QMP E X (QRl u B f L fa (lawP f L)) 0) 4 0 23 [(0, .ref (E.ad 178)), (1, .int (nI 1)), (2, .int (nI 1)), (3, .int (nI l))] [] (MR v B L a (-1)) := by
    intro j
    induction j with
    | zero =>
      intro l a s1 v hlj ha h1 hsa hb hE hK
      have hss : skp f L s1 = s1 := by rw [← hsa]; exact sk_sk (Nat.le_refl _)
      have hf2 := brv_LF hb hf
      have hF2 := brv_FA hb hF
      have hdp2 : v 178 13 = nI 0 := (hb.2 13 (by decide)).trans hdp
      refine g_iload_n h dX11_read_23 rfl rfl ?_
      refine g_if_eq (tgt := 144) h dX11_read_24 (by decide) (fun q => absurd q (by decide)) (fun _ => ?_)
      refine g_aload_n h dX11_read_27 rfl rfl ?_
      refine g_getI h fl_X11_25_10 sh_178 (by decide) rfl dX11_read_28 ?_
      refine g_top mr_r12 ?_
      refine g_iconst (v := -1) h dX11_read_31 (by decide) ?_
      refine g_icmp_ne (tgt := 144) h dX11_read_32 (by decide) (fun c32 => ?_) (fun c32 => ?_)
      · exact absurd rfl c32
      · refine g_aload_n h dX11_read_35 rfl rfl ?_
        refine g_V h lv_X11_106_X11 sh_178 (by decide) rfl (c_X11_skip B f L a (-1) v hf2 hL ha) (fitR hR (by first | decide | omega) (by decide) (by omega)) rfl rfl (Nat.le_of_ble_eq_true rfl) dX11_read_36 ?_
        refine g_sto (mr_pv (congrArg nI hsa)) ?_
        refine g_iload_n h dX11_read_39 rfl rfl ?_
        refine g_iload_n h dX11_read_40 rfl rfl ?_
        refine g_if_eq (tgt := 49) h dX11_read_41 (by decide) (fun q => absurd q (by decide)) (fun _ => ?_)
        refine g_bipush (v := nI 12) h dX11_read_44 (by decide) ?_
        refine g_goto (tgt := 51) h dX11_read_46 (by decide) ?_
        refine g_icmp_ne (tgt := 65) h dX11_read_51 (by decide) (fun c51 => ?_) (fun c51 => ?_)
        · have n51 := ne_n (show ¬ nI (l) = nI (12) from c51)
          omega
        · have n51 := eq_n (by omega) (by omega) (show nI (l) = nI (12) from c51)
          refine g_aload_n h dX11_read_54 rfl rfl ?_
          refine g_aload_n h dX11_read_55 rfl rfl ?_
          refine g_getI h fl_X11_97_10 sh_178 (by decide) rfl dX11_read_56 ?_
          refine g_top mr_r11 ?_
          refine g_V h lv_X11_123_X11 sh_178 (by decide) rfl (c_X11_wrong B f L s1 (-1) (nI s1) v hf2 hL h1) (fitR hR (by first | decide | omega) (by decide) (by omega)) rfl rfl (Nat.le_of_ble_eq_true rfl) dX11_read_59 ?_
          refine g_sto (mr_wv (if_pos rfl)) ?_
          have hw9 := nw h1 hL
          refine g_goto (tgt := 80) h dX11_read_62 (by decide) ?_
          refine g_iinc (v := nI (l + 1)) (ls' := [(0, _), (1, _), (2, _), (3, _)]) h dX11_read_80 rfl (nI_1 l) (by decide) rfl rfl ?_
          refine g_aload_n h dX11_read_83 rfl rfl ?_
          refine g_V h lv_X11_106_X11 sh_178 (by decide) rfl (c_X11_skip_x B f L _ _ v hf2 hL (by omega)) (fitR hR (by first | decide | omega) (by decide) (by omega)) rfl rfl (Nat.le_of_ble_eq_true rfl) dX11_read_84 ?_
          refine g_aload_n h dX11_read_87 rfl rfl ?_
          refine g_getI h fl_X11_25_10 sh_178 (by decide) rfl dX11_read_88 ?_
          refine g_top mr_r12 ?_
          refine g_iconst (v := -1) h dX11_read_91 (by decide) ?_
          refine g_icmp_ne (tgt := 106) h dX11_read_92 (by decide) (fun c92 => ?_) (fun c92 => ?_)
          · refine g_iconst (v := nI 0) h dX11_read_106 (by decide) ?_
            refine g_istore_n (ls' := [(0, _), (1, _), (2, _), (3, _)]) h dX11_read_107 rfl (by decide) rfl rfl ?_
            refine g_goto (tgt := 23) h dX11_read_108 (by decide) ?_
            exact XA v _ _ _ hb (by split <;> first | omega | exact Nat.le_trans (skp_b (by assumption)).2 (by omega)) hw9 (hE _ rfl)
          · exact absurd c92 hw9
    | succ j ih =>
      intro l a s1 v hlj ha h1 hsa hb hE hK
      have hss : skp f L s1 = s1 := by rw [← hsa]; exact sk_sk (Nat.le_refl _)
      have hf2 := brv_LF hb hf
      have hF2 := brv_FA hb hF
      have hdp2 : v 178 13 = nI 0 := (hb.2 13 (by decide)).trans hdp
      refine g_iload_n h dX11_read_23 rfl rfl ?_
      refine g_if_eq (tgt := 144) h dX11_read_24 (by decide) (fun q => absurd q (by decide)) (fun _ => ?_)
      refine g_aload_n h dX11_read_27 rfl rfl ?_
      refine g_getI h fl_X11_25_10 sh_178 (by decide) rfl dX11_read_28 ?_
      refine g_top mr_r12 ?_
      refine g_iconst (v := -1) h dX11_read_31 (by decide) ?_
      refine g_icmp_ne (tgt := 144) h dX11_read_32 (by decide) (fun c32 => ?_) (fun c32 => ?_)
      · exact absurd rfl c32
      · refine g_aload_n h dX11_read_35 rfl rfl ?_
        refine g_V h lv_X11_106_X11 sh_178 (by decide) rfl (c_X11_skip B f L a (-1) v hf2 hL ha) (fitR hR (by first | decide | omega) (by decide) (by omega)) rfl rfl (Nat.le_of_ble_eq_true rfl) dX11_read_36 ?_
        refine g_sto (mr_pv (congrArg nI hsa)) ?_
        refine g_iload_n h dX11_read_39 rfl rfl ?_
        refine g_iload_n h dX11_read_40 rfl rfl ?_
        refine g_if_eq (tgt := 49) h dX11_read_41 (by decide) (fun q => absurd q (by decide)) (fun _ => ?_)
        refine g_bipush (v := nI 12) h dX11_read_44 (by decide) ?_
        refine g_goto (tgt := 51) h dX11_read_46 (by decide) ?_
        refine g_icmp_ne (tgt := 65) h dX11_read_51 (by decide) (fun c51 => ?_) (fun c51 => ?_)
        · have n51 := ne_n (show ¬ nI (l) = nI (12) from c51)
          refine g_iload_n h dX11_read_65 rfl rfl ?_
          refine g_if_eq (tgt := 76) h dX11_read_66 (by decide) (fun q => absurd q (by decide)) (fun _ => ?_)
          refine g_aload_n h dX11_read_69 rfl rfl ?_
          refine g_VP h lv_X11_187_X11 sh_178 (by decide) rfl (c_X11_lawLine B f L s1 hss fa v hf2 hL h1 hF2 hdp2) qlv_nx (fitR hR (by first | decide | omega) (by decide) (by omega)) rfl rfl (Nat.le_of_ble_eq_true rfl) dX11_read_70 (fun v70 u70 hs70 => ?_)
          cases h70 : lwP f L s1
          · rename_i e70
            rw [h70] at hs70
            obtain ⟨hv70, q9, hq9, rfl⟩ := hs70
            cases hv70
            have hw9 := nw ((lp_bb h1).1 _ h70) hL
            refine g_goto (tgt := 80) h dX11_read_73 (by decide) ?_
            refine g_iinc (v := nI (l + 1)) (ls' := [(0, _), (1, _), (2, _), (3, _)]) h dX11_read_80 rfl (nI_1 l) (by decide) rfl rfl ?_
            refine g_aload_n h dX11_read_83 rfl rfl ?_
            refine g_V h lv_X11_106_X11 sh_178 (by decide) rfl (c_X11_skip_x B f L _ _ v hf2 hL (by omega)) (fitR hR (by first | decide | omega) (by decide) (by omega)) rfl rfl (Nat.le_of_ble_eq_true rfl) dX11_read_84 ?_
            refine g_aload_n h dX11_read_87 rfl rfl ?_
            refine g_getI h fl_X11_25_10 sh_178 (by decide) rfl dX11_read_88 ?_
            refine g_top mr_r12 ?_
            refine g_iconst (v := -1) h dX11_read_91 (by decide) ?_
            refine g_icmp_ne (tgt := 106) h dX11_read_92 (by decide) (fun c92 => ?_) (fun c92 => ?_)
            · refine g_iconst (v := nI 0) h dX11_read_106 (by decide) ?_
              refine g_istore_n (ls' := [(0, _), (1, _), (2, _), (3, _)]) h dX11_read_107 rfl (by decide) rfl rfl ?_
              refine g_goto (tgt := 23) h dX11_read_108 (by decide) ?_
              exact XA v _ _ _ hb (by split <;> first | omega | exact Nat.le_trans (skp_b (by assumption)).2 (by omega)) hw9 (hE _ (lq_e h70))
            · exact absurd c92 hw9
          · rename_i y70
            rw [h70] at hs70
            obtain ⟨hv70, q70, hq70, hsq70, rfl⟩ := hs70
            cases hv70
            have hy70 := (lp_bb h1).2 _ h70
            have hfA : LF (lvS v fa y70.1) B f := brv_LF brv_lv hf2
            have hyy : skp f L y70.2 = y70.2 := by rw [← hsq70]; exact sk_sk (Nat.le_refl _)
            refine g_goto (tgt := 80) h dX11_read_73 (by decide) ?_
            refine g_iinc (v := nI (l + 1)) (ls' := [(0, _), (1, _), (2, _), (3, _)]) h dX11_read_80 rfl (nI_1 l) (by decide) rfl rfl ?_
            refine g_aload_n h dX11_read_83 rfl rfl ?_
            refine g_V h lv_X11_106_X11 sh_178 (by decide) rfl (c_X11_skip B f L q70 (-1) (lvS v fa y70.1) hfA hL hq70) (fitR hR (by first | decide | omega) (by decide) (by omega)) rfl rfl (Nat.le_of_ble_eq_true rfl) dX11_read_84 ?_
            refine g_sto (mr_pv (congrArg nI hsq70)) ?_
            refine g_aload_n h dX11_read_87 rfl rfl ?_
            refine g_getI h fl_X11_25_10 sh_178 (by decide) rfl dX11_read_88 ?_
            refine g_top mr_r12 ?_
            refine g_iconst (v := -1) h dX11_read_91 (by decide) ?_
            refine g_icmp_ne (tgt := 106) h dX11_read_92 (by decide) (fun c92 => ?_) (fun c92 => ?_)
            · exact absurd rfl c92
            · refine g_aload_n h dX11_read_95 rfl rfl ?_
              refine g_getI h fl_X11_97_10 sh_178 (by decide) rfl dX11_read_96 ?_
              refine g_top mr_r11 ?_
              refine g_aload_n h dX11_read_99 rfl rfl ?_
              refine g_getI h fl_X11_100_10 sh_178 (by decide) rfl dX11_read_100 ?_
              refine g_top mr_r10 ?_
              refine g_icmp_ne (tgt := 111) h dX11_read_103 (by decide) (fun c103 => ?_) (fun c103 => ?_)
              · have n103 := ne_n (show ¬ nI (y70.2) = nI (L) from c103)
                refine g_aload_n h dX11_read_111 rfl rfl ?_
                refine g_bipush (v := nI 59) h dX11_read_112 (by decide) ?_
                refine g_V h lv_X11_193_X11 sh_178 (by decide) rfl (c_X11_signs B f L y70.2 y70.2 hyy (-1) (nI 59) (by decide) (by decide) (lvS v fa y70.1) hfA hL hy70) (fitR hR (by first | decide | omega) (by decide) (by omega)) rfl rfl (Nat.le_of_ble_eq_true rfl) dX11_read_114 ?_
                by_cases n114 : sgP f L y70.2 (nI 59)
                · refine g_top (b2_t n114) ?_
                  refine g_if_eq (tgt := 133) h dX11_read_117 (by decide) (fun q => absurd q (by decide)) (fun _ => ?_)
                  refine g_aload_n h dX11_read_120 rfl rfl ?_
                  refine g_dup h dX11_read_121 rfl ?_
                  refine g_getI h fl_X11_97_10 sh_178 (by decide) rfl dX11_read_122 ?_
                  refine g_top mr_r11 ?_
                  refine g_iconst (v := nI 1) h dX11_read_125 (by decide) ?_
                  refine g_iadd h dX11_read_126 ?_
                  refine g_top (nI_1 y70.2) ?_
                  refine g_putI h pfl_X11_97_10 sh_178 (by decide) rfl dX11_read_127 ?_
                  refine g_sto mr_w11 ?_
                  refine g_goto (tgt := 23) h dX11_read_130 (by decide) ?_
                  exact ih (l + 1) _ (nx f L y70.2) (lvS v fa y70.1) (by omega) (by have := sg_lt n114; omega) (nx_b hy70).2 (by rw [← sg_en n114]; rfl) (brv_lv.trans hb) (fun e he => hE e (lq_re h70 (fun z => n103 (by have := kd0.mp z; omega)) n114 he)) (fun t ht => by
                    obtain ⟨t0, ht0, hl0, hA0⟩ := hK _ (lq_rk h70 (fun z => n103 (by have := kd0.mp z; omega)) n114 ht)
                    exact ⟨t0, ht0, by rw [← hl0, List.length_cons]; omega, hA0⟩)
                · refine g_top (b2_f n114) ?_
                  refine g_if_eq (tgt := 133) h dX11_read_117 (by decide) (fun _ => ?_) (fun q => absurd q (by decide))
                  refine g_aload_n h dX11_read_133 rfl rfl ?_
                  refine g_aload_n h dX11_read_134 rfl rfl ?_
                  refine g_getI h fl_X11_97_10 sh_178 (by decide) rfl dX11_read_135 ?_
                  refine g_top mr_r11 ?_
                  refine g_V h lv_X11_123_X11 sh_178 (by decide) rfl (c_X11_wrong B f L y70.2 (-1) (nI y70.2) (lvS v fa y70.1) hfA hL hy70) (fitR hR (by first | decide | omega) (by decide) (by omega)) rfl rfl (Nat.le_of_ble_eq_true rfl) dX11_read_138 ?_
                  refine g_sto (mr_wv (if_pos rfl)) ?_
                  refine g_goto (tgt := 23) h dX11_read_141 (by decide) ?_
                  exact XB _ _ _ _ (brv_lv.trans hb) (by omega) (nw hy70 hL) (hE _ (lq_s h70 (fun z => n103 (by have := kd0.mp z; omega)) n114))
              · have n103 := eq_n (by omega) (by omega) (show nI (y70.2) = nI (L) from c103)
                refine g_iconst (v := nI 0) h dX11_read_106 (by decide) ?_
                refine g_istore_n (ls' := [(0, _), (1, _), (2, _), (3, _)]) h dX11_read_107 rfl (by decide) rfl rfl ?_
                refine g_goto (tgt := 23) h dX11_read_108 (by decide) ?_
                obtain ⟨t0, ht0, hl0, hA0⟩ := hK _ (lq_1 h70 (kd0.mpr (by omega)))
                exact DN _ _ _ hy70 (qrl_k ht0 hl0 hA0.symm hy70)
        · have n51 := eq_n (by omega) (by omega) (show nI (l) = nI (12) from c51)
          omega
  have hs0 := (skp_b (f := f) (Nat.zero_le L)).2
  refine g_aload_n h dX11_read_0 rfl rfl ?_
  refine g_V h lv_X11_106_X11 sh_178 (by decide) rfl (c_X11_skip B f L 0 (-1) u hf hL (Nat.zero_le _)) (fitR hR (by first | decide | omega) (by decide) (by omega)) rfl rfl (Nat.le_of_ble_eq_true rfl) dX11_read_1 ?_
  refine g_aload_n h dX11_read_4 rfl rfl ?_
  refine g_getI h fl_X11_97_10 sh_178 (by decide) rfl dX11_read_5 ?_
  refine g_top mr_r11 ?_
  refine g_aload_n h dX11_read_8 rfl rfl ?_
  refine g_getI h fl_X11_100_10 sh_178 (by decide) rfl dX11_read_9 ?_
  refine g_top mr_r10 ?_
  refine g_icmp_ge (tgt := 19) h dX11_read_12 (by decide) (fun c12 => ?_) (fun c12 => ?_)
  · have n12 := le_n (by omega) (by omega) (show nI (L) ≤ nI (skp f L 0) from c12)
    refine g_iconst (v := nI 0) h dX11_read_19 (by decide) ?_
    refine g_istore_n (ls' := [(0, _), (1, _), (2, _)]) h dX11_read_20 rfl (by decide) rfl rfl ?_
    refine g_iconst (v := nI 0) h dX11_read_21 (by decide) ?_
    refine g_istore_n (ls' := [(0, _), (1, _), (2, _), (3, _)]) h dX11_read_22 rfl (by decide) rfl rfl ?_
    exact DN u 0 _ hs0 (qrl_k (ls := []) (by rw [lawP, if_pos (kd0.mpr n12)]) rfl rfl hs0)
  · have n12 := nle_n (by omega) (by omega) (show ¬ nI (L) ≤ nI (skp f L 0) from c12)
    refine g_iconst (v := nI 1) h dX11_read_15 (by decide) ?_
    refine g_goto (tgt := 20) h dX11_read_16 (by decide) ?_
    refine g_istore_n (ls' := [(0, _), (1, _), (2, _)]) h dX11_read_20 rfl (by decide) rfl rfl ?_
    refine g_iconst (v := nI 0) h dX11_read_21 (by decide) ?_
    refine g_istore_n (ls' := [(0, _), (1, _), (2, _), (3, _)]) h dX11_read_22 rfl (by decide) rfl rfl ?_
    exact LP 12 0 _ (skp f L 0) u (by omega) hs0 hs0 (sk_sk (Nat.le_refl _)) (brv.refl _) (fun e he => by rw [lawP, if_neg (fun z => by have := kd0.mp z; omega)]; exact he) (fun t ht => ⟨t, by rw [lawP, if_neg (fun z => by have := kd0.mp z; omega)]; exact ht, by omega, rfl⟩)
