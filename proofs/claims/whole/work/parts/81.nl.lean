-- after: 38.r 39.s 40.t 47.str 48.tx 49.ty 50.tt 51.tu 52.tv 53.lw 54.lx 55.ly 56.lz 57.ma 59.mc 62.mf 70.na 71.nb 72.nc 73.nd 74.ne 75.nf 76.ng 77.nh 78.ni 79.nj 80.nk
theorem at_all {E : EE} : ∀ k, k ≤ 6 → AtC E k
  | 0, _ => fun B f L p s hs fa u hf hL hp hF hd => c_X11_atom_0 B f L p s hs fa u hf hL hp hF hd
  | k + 1, h => fun B f L p s hs fa u hf hL hp hF hd => c_X11_atom_s k h (at_all k (by omega)) B f L p s hs fa u hf hL hp hF hd
abbrev cnP (f : Nat → Int32) (L p : Nat) : PW := pSo f L (pAt f L 6) p
theorem c_X11_some {E : EE} (B : Int32) (f : Nat → Int32) (L p s : Nat) (hs : skp f L p = s) (fa : Nat → Int32) (u : Sto) (hf : LF u B f) (hL : L ≤ 400) (hp : p ≤ L) (hF : FA u fa) (hdp : u 178 13 = nI 0) : CtP E 29 0 yX11_some cX11_some 3 (some .boolean) [.ref (E.ad 178)] (MR u B L p (-1)) (QB u B f L fa 17 6 (cnP f L s)) := c_X11_some_k 6 (by decide) (at_all 6 (by decide)) B f L p s hs fa u hf hL hp hF hdp
def lwP (f : Nat → Int32) (L p : Nat) : Except Nat (LN × Nat) := match lwH f L p with
  | .error e => .error e
  | .ok h => if wdB f L h.2.2 17 = true then (match cnP f L (nx f L h.2.2) with
      | .error e => .error e
      | .ok q => .ok ((h.1, h.2.1, q.1), q.2)) else .ok ((h.1, h.2.1, []), h.2.2)
theorem p_he {f : Nat → Int32} {L p e : Nat} (h : lwH f L p = .error e) : lwP f L p = .error e := by rw [lwP, h]
theorem p_no {f : Nat → Int32} {L p q : Nat} {x y : Int32} (h : lwH f L p = .ok (x, y, q)) (h2 : ¬ wdB f L q 17 = true) : lwP f L p = .ok ((x, y, []), q) := by rw [lwP, h]; exact if_neg h2
theorem p_ce {f : Nat → Int32} {L p q e : Nat} {x y : Int32} (h : lwH f L p = .ok (x, y, q)) (h2 : wdB f L q 17 = true) (h3 : cnP f L (nx f L q) = .error e) : lwP f L p = .error e := by rw [lwP, h]; exact (if_pos h2).trans (by rw [h3])
theorem p_ck {f : Nat → Int32} {L p q : Nat} {x y : Int32} {r : List Int32 × Nat} (h : lwH f L p = .ok (x, y, q)) (h2 : wdB f L q 17 = true) (h3 : cnP f L (nx f L q) = .ok r) : lwP f L p = .ok ((x, y, r.1), r.2) := by rw [lwP, h]; exact (if_pos h2).trans (by rw [h3])
def hoB (fa : Nat → Int32) (ws : List Int32) : Bool := (rn fa ws []).isEmpty || decide (¬ botL (rn fa ws []) = 0)
theorem ho_e {fa : Nat → Int32} : hoB fa [] = true := rfl
theorem ho_v {fa : Nat → Int32} {ws : List Int32} {v : Int32} {d : Nat} (h : EV fa ws v d) (hd : d ≤ 40) : hoB fa ws = decide (¬ v = 0) := by
  unfold hoB
  rw [h [] (by simpa using hd)]
  rfl
def lvS (u : Sto) (fa : Nat → Int32) (x : LN) : Sto := if hoB fa x.2.2 = true then (if x.1 = nI 0 then su u 178 17 (nI 1) else if x.1 = nI 1 then su u 178 18 (u 178 18 + x.2.1) else su u 178 19 (u 178 19 + x.2.1)) else u
def QLv (u : Sto) (B : Int32) (f : Nat → Int32) (L : Nat) (fa : Nat → Int32) (r : Except Nat (LN × Nat)) : Res → Sto → Prop := fun o t => o = .inl none ∧ match r with
  | .error e => ∃ q, q ≤ L + 6 ∧ t = MR u B L q (nI e)
  | .ok x => ∃ q, q ≤ L ∧ skp f L q = x.2 ∧ t = MR (lvS u fa x.1) B L q (-1)
theorem qlv_nx {u : Sto} {B : Int32} {f : Nat → Int32} {L : Nat} {fa : Nat → Int32} {r : Except Nat (LN × Nat)} : ∀ Ex s, ¬ QLv u B f L fa r (.inr Ex) s := fun _ _ h => nomatch h.1
theorem qlv_e {u : Sto} {B : Int32} {f : Nat → Int32} {L q e : Nat} {fa : Nat → Int32} {r : Except Nat (LN × Nat)} (h : r = .error e) (hq : q ≤ L + 6) : QLv u B f L fa r (.inl none) (MR u B L q (nI e)) := ⟨rfl, by rw [h]; exact ⟨q, hq, rfl⟩⟩
theorem qlv_k {u v : Sto} {B : Int32} {f : Nat → Int32} {L q p : Nat} {fa : Nat → Int32} {x : LN} {r : Except Nat (LN × Nat)} (h : r = .ok (x, p)) (hq : q ≤ L) (hp : skp f L q = p) (hv : v = lvS u fa x) : QLv u B f L fa r (.inl none) (MR v B L q (-1)) := ⟨rfl, by rw [h]; exact ⟨q, hq, hp, by rw [hv]⟩⟩
theorem cn_b {f : Nat → Int32} {L : Nat} : SB L (cnP f L) := so_b (at_b 6)
theorem lv_n {u : Sto} {fa : Nat → Int32} {x : LN} (h : ¬ hoB fa x.2.2 = true) : u = lvS u fa x := by rw [lvS, if_neg h]
theorem lv_0 {u : Sto} {fa : Nat → Int32} {x : LN} (h : hoB fa x.2.2 = true) (h1 : x.1 = nI 0) : su u 178 17 (nI 1) = lvS u fa x := by rw [lvS, if_pos h, if_pos h1]
theorem lv_1 {u : Sto} {fa : Nat → Int32} {x : LN} (h : hoB fa x.2.2 = true) (h1 : x.1 = nI 1) : su u 178 18 (u 178 18 + x.2.1) = lvS u fa x := by rw [lvS, if_pos h, if_neg (by rw [h1]; decide), if_pos h1]
theorem lv_2 {u : Sto} {fa : Nat → Int32} {x : LN} (h : hoB fa x.2.2 = true) (h1 : x.1 = nI 2) : su u 178 19 (u 178 19 + x.2.1) = lvS u fa x := by rw [lvS, if_pos h, if_neg (by rw [h1]; decide), if_neg (by rw [h1]; decide)]
set_option maxHeartbeats 1000000 in
theorem c_X11_lawLine {E : EE} (B : Int32) (f : Nat → Int32) (L p : Nat) (hpp : skp f L p = p) (fa : Nat → Int32) (u : Sto) (hf : LF u B f) (hL : L ≤ 400) (hp : p ≤ L) (hF : FA u fa) (hdp : u 178 13 = nI 0) : CtP E 30 0 yX11_lawLine cX11_lawLine 4 none [.ref (E.ad 178)] (MR u B L p (-1)) (QLv u B f L fa (lwP f L p)) := by
  have e0 := (enN_b (f := f) hp).2
  have q1 := (nx_b (f := f) hp).2
  have e1 := (enN_b (f := f) q1).2
  have q2 := (nx_b (f := f) q1).2
  refine ctp_of (by decide) (Nat.le_of_ble_eq_true rfl) (fun X h hR hrt htab hargs => ?_)
  refine g_aload_n h dX11_lawLine_0 rfl rfl ?_
  refine g_ldcS (tx := "bar") (k := 14) h (by decide) dX11_lawLine_1 ?_
  refine g_V h lv_X11_119_X11 sh_178 (by decide) rfl (c_X11_hass B f L p p hpp (-1) 14 (by decide) (by decide) u hf hL hp) (fitR hR (by first | decide | omega) (by decide) (by omega)) rfl rfl (Nat.le_of_ble_eq_true rfl) dX11_lawLine_3 ?_
  by_cases n3 : wdB f L p 14 = true
  · refine g_top (b2_t n3) ?_
    refine g_sto (mr_pv (congrArg nI (if_pos n3))) ?_
    refine g_if_eq (tgt := 13) h dX11_lawLine_6 (by decide) (fun q => absurd q (by decide)) (fun _ => ?_)
    refine g_iconst (v := nI 0) h dX11_lawLine_9 (by decide) ?_
    refine g_goto (tgt := 40) h dX11_lawLine_10 (by decide) ?_
    refine g_istore_n (ls' := [(0, _), (1, _)]) h dX11_lawLine_40 rfl (by decide) rfl rfl ?_
    refine g_iload_n h dX11_lawLine_41 rfl rfl ?_
    refine g_iconst (v := -1) h dX11_lawLine_42 (by decide) ?_
    refine g_icmp_ne (tgt := 55) h dX11_lawLine_43 (by decide) (fun c43 => ?_) (fun c43 => ?_)
    · refine g_iload_n h dX11_lawLine_55 rfl rfl ?_
      refine g_if_ne (tgt := 63) h dX11_lawLine_56 (by decide) (fun q => absurd q (by decide)) (fun _ => ?_)
      refine g_iconst (v := nI 0) h dX11_lawLine_59 (by decide) ?_
      refine g_goto (tgt := 72) h dX11_lawLine_60 (by decide) ?_
      refine g_istore_n (ls' := [(0, _), (1, _), (2, _)]) h dX11_lawLine_72 rfl (by decide) rfl rfl ?_
      refine g_aload_n h dX11_lawLine_73 rfl rfl ?_
      refine g_getI h fl_X11_25_10 sh_178 (by decide) rfl dX11_lawLine_74 ?_
      refine g_top mr_r12 ?_
      refine g_iconst (v := -1) h dX11_lawLine_77 (by decide) ?_
      refine g_icmp_eq (tgt := 82) h dX11_lawLine_78 (by decide) (fun c78 => ?_) (fun c78 => ?_)
      · refine g_aload_n h dX11_lawLine_82 rfl rfl ?_
        refine g_ldcS (tx := "if") (k := 17) h (by decide) dX11_lawLine_83 ?_
        refine g_V h lv_X11_119_X11 sh_178 (by decide) rfl (c_X11_hass B f L (enN f L p) (nx f L p) rfl (-1) 17 (by decide) (by decide) u hf hL e0) (fitR hR (by first | decide | omega) (by decide) (by omega)) rfl rfl (Nat.le_of_ble_eq_true rfl) dX11_lawLine_85 ?_
        by_cases n85 : wdB f L (nx f L p) 17 = true
        · refine g_top (b2_t n85) ?_
          refine g_sto (mr_pv (congrArg nI (if_pos n85))) ?_
          have ht9 := q1
          refine g_if_eq (tgt := 98) h dX11_lawLine_88 (by decide) (fun q => absurd q (by decide)) (fun _ => ?_)
          refine g_aload_n h dX11_lawLine_91 rfl rfl ?_
          refine g_VP h lv_X11_239_X11 sh_178 (by decide) rfl (c_X11_some B f L (enN f L (nx f L p)) (nx f L (nx f L p)) rfl fa u hf hL (enN_b q1).2 hF hdp) qb_nx (fitR hR (by first | decide | omega) (by decide) (by omega)) rfl rfl (Nat.le_of_ble_eq_true rfl) dX11_lawLine_92 (fun v92 u92 hs92 => ?_)
          cases h92 : cnP f L (nx f L (nx f L p))
          · rename_i e92
            rw [h92] at hs92
            obtain ⟨x92, q9, hx92, hq9, hv92, rfl⟩ := hs92
            cases hv92
            have hw9 := nw ((cn_b _ (nx_b (f := f) q1).2).1 _ h92) hL
            refine g_if_eq (tgt := 102) h dX11_lawLine_95 (by decide) (fun c95 => ?_) (fun c95 => ?_)
            · refine g_iconst (v := nI 0) h dX11_lawLine_102 (by decide) ?_
              refine g_istore_n (ls' := [(0, _), (1, _), (2, _), (3, _)]) h dX11_lawLine_103 rfl (by decide) rfl rfl ?_
              refine g_aload_n h dX11_lawLine_104 rfl rfl ?_
              refine g_getI h fl_X11_25_10 sh_178 (by decide) rfl dX11_lawLine_105 ?_
              refine g_top mr_r12 ?_
              refine g_iconst (v := -1) h dX11_lawLine_108 (by decide) ?_
              refine g_icmp_ne (tgt := 116) h dX11_lawLine_109 (by decide) (fun c109 => ?_) (fun c109 => ?_)
              · exact g_vretP h hrt dX11_lawLine_116 (by omega) (qlv_e (p_ce (h_bar n3) n85 h92) hq9)
              · exact absurd c109 hw9
            · refine g_iconst (v := nI 1) h dX11_lawLine_98 (by decide) ?_
              refine g_goto (tgt := 103) h dX11_lawLine_99 (by decide) ?_
              refine g_istore_n (ls' := [(0, _), (1, _), (2, _), (3, _)]) h dX11_lawLine_103 rfl (by decide) rfl rfl ?_
              refine g_aload_n h dX11_lawLine_104 rfl rfl ?_
              refine g_getI h fl_X11_25_10 sh_178 (by decide) rfl dX11_lawLine_105 ?_
              refine g_top mr_r12 ?_
              refine g_iconst (v := -1) h dX11_lawLine_108 (by decide) ?_
              refine g_icmp_ne (tgt := 116) h dX11_lawLine_109 (by decide) (fun c109 => ?_) (fun c109 => ?_)
              · exact g_vretP h hrt dX11_lawLine_116 (by omega) (qlv_e (p_ce (h_bar n3) n85 h92) hq9)
              · exact absurd c109 hw9
          · rename_i y92
            rw [h92] at hs92
            obtain ⟨v92, a92, hb92, hE92, ha92, hsa92, hv92, rfl⟩ := hs92
            cases hv92
            refine g_if_eq (tgt := 102) h dX11_lawLine_95 (by decide) (fun c95 => ?_) (fun c95 => ?_)
            · refine g_iconst (v := nI 0) h dX11_lawLine_102 (by decide) ?_
              refine g_istore_n (ls' := [(0, _), (1, _), (2, _), (3, _)]) h dX11_lawLine_103 rfl (by decide) rfl rfl ?_
              refine g_aload_n h dX11_lawLine_104 rfl rfl ?_
              refine g_getI h fl_X11_25_10 sh_178 (by decide) rfl dX11_lawLine_105 ?_
              refine g_top mr_r12 ?_
              refine g_iconst (v := -1) h dX11_lawLine_108 (by decide) ?_
              refine g_icmp_ne (tgt := 116) h dX11_lawLine_109 (by decide) (fun c109 => ?_) (fun c109 => ?_)
              · exact absurd rfl c109
              · refine g_iload_n h dX11_lawLine_112 rfl rfl ?_
                refine g_if_ne (tgt := 117) h dX11_lawLine_113 (by decide) (fun q => absurd q (by decide)) (fun _ => ?_)
                exact g_vretP h hrt dX11_lawLine_116 (by omega) (qlv_k (p_ck (h_bar n3) n85 h92) ha92 hsa92 (lv_n (u := u) (fa := fa) (x := (nI 0, nI 0, y92.1)) (show ¬ hoB fa y92.1 = true by rw [ho_v hE92 (by decide)]; exact fun z => of_decide_eq_true z c95)))
            · refine g_iconst (v := nI 1) h dX11_lawLine_98 (by decide) ?_
              refine g_goto (tgt := 103) h dX11_lawLine_99 (by decide) ?_
              refine g_istore_n (ls' := [(0, _), (1, _), (2, _), (3, _)]) h dX11_lawLine_103 rfl (by decide) rfl rfl ?_
              refine g_aload_n h dX11_lawLine_104 rfl rfl ?_
              refine g_getI h fl_X11_25_10 sh_178 (by decide) rfl dX11_lawLine_105 ?_
              refine g_top mr_r12 ?_
              refine g_iconst (v := -1) h dX11_lawLine_108 (by decide) ?_
              refine g_icmp_ne (tgt := 116) h dX11_lawLine_109 (by decide) (fun c109 => ?_) (fun c109 => ?_)
              · exact absurd rfl c109
              · refine g_iload_n h dX11_lawLine_112 rfl rfl ?_
                refine g_if_ne (tgt := 117) h dX11_lawLine_113 (by decide) (fun _ => ?_) (fun q => absurd q (by decide))
                refine g_iload_n h dX11_lawLine_117 rfl rfl ?_
                refine g_if_ne (tgt := 129) h dX11_lawLine_118 (by decide) (fun q => absurd q (by decide)) (fun _ => ?_)
                refine g_aload_n h dX11_lawLine_121 rfl rfl ?_
                refine g_iconst (v := nI 1) h dX11_lawLine_122 (by decide) ?_
                refine g_putZ h pfl_X11_257_10 sh_178 (by decide) rfl (Or.inr rfl) dX11_lawLine_123 ?_
                refine g_sto (mr_ss (by decide)) ?_
                refine g_goto (tgt := 157) h dX11_lawLine_126 (by decide) ?_
                exact g_vretP h hrt dX11_lawLine_157 (by omega) (qlv_k (p_ck (h_bar n3) n85 h92) ha92 hsa92 (lv_0 (u := u) (fa := fa) (x := (nI 0, nI 0, y92.1)) (show hoB fa y92.1 = true by rw [ho_v hE92 (by decide)]; exact decide_eq_true c95) rfl))
        · refine g_top (b2_f n85) ?_
          refine g_sto (mr_pv (congrArg nI (if_neg n85))) ?_
          refine g_if_eq (tgt := 98) h dX11_lawLine_88 (by decide) (fun _ => ?_) (fun q => absurd q (by decide))
          refine g_iconst (v := nI 1) h dX11_lawLine_98 (by decide) ?_
          refine g_goto (tgt := 103) h dX11_lawLine_99 (by decide) ?_
          refine g_istore_n (ls' := [(0, _), (1, _), (2, _), (3, _)]) h dX11_lawLine_103 rfl (by decide) rfl rfl ?_
          refine g_aload_n h dX11_lawLine_104 rfl rfl ?_
          refine g_getI h fl_X11_25_10 sh_178 (by decide) rfl dX11_lawLine_105 ?_
          refine g_top mr_r12 ?_
          refine g_iconst (v := -1) h dX11_lawLine_108 (by decide) ?_
          refine g_icmp_ne (tgt := 116) h dX11_lawLine_109 (by decide) (fun c109 => ?_) (fun c109 => ?_)
          · exact absurd rfl c109
          · refine g_iload_n h dX11_lawLine_112 rfl rfl ?_
            refine g_if_ne (tgt := 117) h dX11_lawLine_113 (by decide) (fun _ => ?_) (fun q => absurd q (by decide))
            refine g_iload_n h dX11_lawLine_117 rfl rfl ?_
            refine g_if_ne (tgt := 129) h dX11_lawLine_118 (by decide) (fun q => absurd q (by decide)) (fun _ => ?_)
            refine g_aload_n h dX11_lawLine_121 rfl rfl ?_
            refine g_iconst (v := nI 1) h dX11_lawLine_122 (by decide) ?_
            refine g_putZ h pfl_X11_257_10 sh_178 (by decide) rfl (Or.inr rfl) dX11_lawLine_123 ?_
            refine g_sto (mr_ss (by decide)) ?_
            refine g_goto (tgt := 157) h dX11_lawLine_126 (by decide) ?_
            exact g_vretP h hrt dX11_lawLine_157 (by omega) (qlv_k (p_no (h_bar n3) n85) q1 (sk_sk (Nat.le_refl _)) (lv_0 (u := u) (fa := fa) (x := (nI 0, nI 0, [])) ho_e rfl))
      · exact absurd rfl c78
    · exact absurd c43 (by decide)
  · refine g_top (b2_f n3) ?_
    refine g_sto (mr_pv (congrArg nI (if_neg n3))) ?_
    refine g_if_eq (tgt := 13) h dX11_lawLine_6 (by decide) (fun _ => ?_) (fun q => absurd q (by decide))
    refine g_aload_n h dX11_lawLine_13 rfl rfl ?_
    refine g_ldcS (tx := "rent") (k := 15) h (by decide) dX11_lawLine_14 ?_
    refine g_V h lv_X11_119_X11 sh_178 (by decide) rfl (c_X11_hass B f L p p hpp (-1) 15 (by decide) (by decide) u hf hL hp) (fitR hR (by first | decide | omega) (by decide) (by omega)) rfl rfl (Nat.le_of_ble_eq_true rfl) dX11_lawLine_16 ?_
    by_cases n16 : wdB f L p 15 = true
    · refine g_top (b2_t n16) ?_
      refine g_sto (mr_pv (congrArg nI (if_pos n16))) ?_
      refine g_if_eq (tgt := 26) h dX11_lawLine_19 (by decide) (fun q => absurd q (by decide)) (fun _ => ?_)
      refine g_iconst (v := nI 1) h dX11_lawLine_22 (by decide) ?_
      refine g_goto (tgt := 40) h dX11_lawLine_23 (by decide) ?_
      refine g_istore_n (ls' := [(0, _), (1, _)]) h dX11_lawLine_40 rfl (by decide) rfl rfl ?_
      refine g_iload_n h dX11_lawLine_41 rfl rfl ?_
      refine g_iconst (v := -1) h dX11_lawLine_42 (by decide) ?_
      refine g_icmp_ne (tgt := 55) h dX11_lawLine_43 (by decide) (fun c43 => ?_) (fun c43 => ?_)
      · refine g_iload_n h dX11_lawLine_55 rfl rfl ?_
        refine g_if_ne (tgt := 63) h dX11_lawLine_56 (by decide) (fun _ => ?_) (fun q => absurd q (by decide))
        refine g_aload_n h dX11_lawLine_63 rfl rfl ?_
        refine g_iconst (v := nI 0) h dX11_lawLine_64 (by decide) ?_
        refine g_sipush (v := nI 999) h dX11_lawLine_65 (by decide) ?_
        refine g_iconst (v := nI 3) h dX11_lawLine_68 (by decide) ?_
        refine g_VP h lv_X11_130_X11 sh_178 (by decide) rfl (c_X11_figs B f L (enN f L p) (nx f L p) rfl 3 (by decide) (nI 0) (nI 999) u hf hL e0) (by rintro Ex s (⟨_, h, _⟩ | ⟨_, _, _, _, h, _⟩) <;> exact nomatch h) (fitR hR (by first | decide | omega) (by decide) (by omega)) rfl rfl (Nat.le_of_ble_eq_true rfl) dX11_lawLine_69 (fun v69 u69 hs69 => ?_)
        rcases hs69 with ⟨n69, hv69, rfl⟩ | ⟨n69, x69, q9, hq9, hv69, rfl⟩
        · cases hv69
          refine g_istore_n (ls' := [(0, _), (1, _), (2, _)]) h dX11_lawLine_72 rfl (by decide) rfl rfl ?_
          refine g_aload_n h dX11_lawLine_73 rfl rfl ?_
          refine g_getI h fl_X11_25_10 sh_178 (by decide) rfl dX11_lawLine_74 ?_
          refine g_top mr_r12 ?_
          refine g_iconst (v := -1) h dX11_lawLine_77 (by decide) ?_
          refine g_icmp_eq (tgt := 82) h dX11_lawLine_78 (by decide) (fun c78 => ?_) (fun c78 => ?_)
          · refine g_aload_n h dX11_lawLine_82 rfl rfl ?_
            refine g_ldcS (tx := "if") (k := 17) h (by decide) dX11_lawLine_83 ?_
            refine g_V h lv_X11_119_X11 sh_178 (by decide) rfl (c_X11_hass B f L (enN f L (nx f L p)) (nx f L (nx f L p)) rfl (-1) 17 (by decide) (by decide) u hf hL e1) (fitR hR (by first | decide | omega) (by decide) (by omega)) rfl rfl (Nat.le_of_ble_eq_true rfl) dX11_lawLine_85 ?_
            by_cases n85 : wdB f L (nx f L (nx f L p)) 17 = true
            · refine g_top (b2_t n85) ?_
              refine g_sto (mr_pv (congrArg nI (if_pos n85))) ?_
              have ht9 := q2
              refine g_if_eq (tgt := 98) h dX11_lawLine_88 (by decide) (fun q => absurd q (by decide)) (fun _ => ?_)
              refine g_aload_n h dX11_lawLine_91 rfl rfl ?_
              refine g_VP h lv_X11_239_X11 sh_178 (by decide) rfl (c_X11_some B f L (enN f L (nx f L (nx f L p))) (nx f L (nx f L (nx f L p))) rfl fa u hf hL (enN_b q2).2 hF hdp) qb_nx (fitR hR (by first | decide | omega) (by decide) (by omega)) rfl rfl (Nat.le_of_ble_eq_true rfl) dX11_lawLine_92 (fun v92 u92 hs92 => ?_)
              cases h92 : cnP f L (nx f L (nx f L (nx f L p)))
              · rename_i e92
                rw [h92] at hs92
                obtain ⟨x92, q9, hx92, hq9, hv92, rfl⟩ := hs92
                cases hv92
                have hw9 := nw ((cn_b _ (nx_b (f := f) q2).2).1 _ h92) hL
                refine g_if_eq (tgt := 102) h dX11_lawLine_95 (by decide) (fun c95 => ?_) (fun c95 => ?_)
                · refine g_iconst (v := nI 0) h dX11_lawLine_102 (by decide) ?_
                  refine g_istore_n (ls' := [(0, _), (1, _), (2, _), (3, _)]) h dX11_lawLine_103 rfl (by decide) rfl rfl ?_
                  refine g_aload_n h dX11_lawLine_104 rfl rfl ?_
                  refine g_getI h fl_X11_25_10 sh_178 (by decide) rfl dX11_lawLine_105 ?_
                  refine g_top mr_r12 ?_
                  refine g_iconst (v := -1) h dX11_lawLine_108 (by decide) ?_
                  refine g_icmp_ne (tgt := 116) h dX11_lawLine_109 (by decide) (fun c109 => ?_) (fun c109 => ?_)
                  · exact g_vretP h hrt dX11_lawLine_116 (by omega) (qlv_e (p_ce (h_ok n3 (Or.inl n16) n69 (if_pos n16).symm) n85 h92) hq9)
                  · exact absurd c109 hw9
                · refine g_iconst (v := nI 1) h dX11_lawLine_98 (by decide) ?_
                  refine g_goto (tgt := 103) h dX11_lawLine_99 (by decide) ?_
                  refine g_istore_n (ls' := [(0, _), (1, _), (2, _), (3, _)]) h dX11_lawLine_103 rfl (by decide) rfl rfl ?_
                  refine g_aload_n h dX11_lawLine_104 rfl rfl ?_
                  refine g_getI h fl_X11_25_10 sh_178 (by decide) rfl dX11_lawLine_105 ?_
                  refine g_top mr_r12 ?_
                  refine g_iconst (v := -1) h dX11_lawLine_108 (by decide) ?_
                  refine g_icmp_ne (tgt := 116) h dX11_lawLine_109 (by decide) (fun c109 => ?_) (fun c109 => ?_)
                  · exact g_vretP h hrt dX11_lawLine_116 (by omega) (qlv_e (p_ce (h_ok n3 (Or.inl n16) n69 (if_pos n16).symm) n85 h92) hq9)
                  · exact absurd c109 hw9
              · rename_i y92
                rw [h92] at hs92
                obtain ⟨v92, a92, hb92, hE92, ha92, hsa92, hv92, rfl⟩ := hs92
                cases hv92
                refine g_if_eq (tgt := 102) h dX11_lawLine_95 (by decide) (fun c95 => ?_) (fun c95 => ?_)
                · refine g_iconst (v := nI 0) h dX11_lawLine_102 (by decide) ?_
                  refine g_istore_n (ls' := [(0, _), (1, _), (2, _), (3, _)]) h dX11_lawLine_103 rfl (by decide) rfl rfl ?_
                  refine g_aload_n h dX11_lawLine_104 rfl rfl ?_
                  refine g_getI h fl_X11_25_10 sh_178 (by decide) rfl dX11_lawLine_105 ?_
                  refine g_top mr_r12 ?_
                  refine g_iconst (v := -1) h dX11_lawLine_108 (by decide) ?_
                  refine g_icmp_ne (tgt := 116) h dX11_lawLine_109 (by decide) (fun c109 => ?_) (fun c109 => ?_)
                  · exact absurd rfl c109
                  · refine g_iload_n h dX11_lawLine_112 rfl rfl ?_
                    refine g_if_ne (tgt := 117) h dX11_lawLine_113 (by decide) (fun q => absurd q (by decide)) (fun _ => ?_)
                    exact g_vretP h hrt dX11_lawLine_116 (by omega) (qlv_k (p_ck (h_ok n3 (Or.inl n16) n69 (if_pos n16).symm) n85 h92) ha92 hsa92 (lv_n (u := u) (fa := fa) (x := (nI 1, nmI f L (nx f L p), y92.1)) (show ¬ hoB fa y92.1 = true by rw [ho_v hE92 (by decide)]; exact fun z => of_decide_eq_true z c95)))
                · refine g_iconst (v := nI 1) h dX11_lawLine_98 (by decide) ?_
                  refine g_goto (tgt := 103) h dX11_lawLine_99 (by decide) ?_
                  refine g_istore_n (ls' := [(0, _), (1, _), (2, _), (3, _)]) h dX11_lawLine_103 rfl (by decide) rfl rfl ?_
                  refine g_aload_n h dX11_lawLine_104 rfl rfl ?_
                  refine g_getI h fl_X11_25_10 sh_178 (by decide) rfl dX11_lawLine_105 ?_
                  refine g_top mr_r12 ?_
                  refine g_iconst (v := -1) h dX11_lawLine_108 (by decide) ?_
                  refine g_icmp_ne (tgt := 116) h dX11_lawLine_109 (by decide) (fun c109 => ?_) (fun c109 => ?_)
                  · exact absurd rfl c109
                  · refine g_iload_n h dX11_lawLine_112 rfl rfl ?_
                    refine g_if_ne (tgt := 117) h dX11_lawLine_113 (by decide) (fun _ => ?_) (fun q => absurd q (by decide))
                    refine g_iload_n h dX11_lawLine_117 rfl rfl ?_
                    refine g_if_ne (tgt := 129) h dX11_lawLine_118 (by decide) (fun _ => ?_) (fun q => absurd q (by decide))
                    refine g_iload_n h dX11_lawLine_129 rfl rfl ?_
                    refine g_iconst (v := nI 1) h dX11_lawLine_130 (by decide) ?_
                    refine g_icmp_ne (tgt := 147) h dX11_lawLine_131 (by decide) (fun c131 => ?_) (fun c131 => ?_)
                    · exact absurd rfl c131
                    · refine g_aload_n h dX11_lawLine_134 rfl rfl ?_
                      refine g_dup h dX11_lawLine_135 rfl ?_
                      refine g_getI h fl_X11_260_10 sh_178 (by decide) rfl dX11_lawLine_136 ?_
                      refine g_top (mr_s (by decide)) ?_
                      refine g_iload_n h dX11_lawLine_139 rfl rfl ?_
                      refine g_iadd h dX11_lawLine_140 ?_
                      refine g_putI h pfl_X11_260_10 sh_178 (by decide) rfl dX11_lawLine_141 ?_
                      refine g_sto (mr_ss (by decide)) ?_
                      refine g_goto (tgt := 157) h dX11_lawLine_144 (by decide) ?_
                      exact g_vretP h hrt dX11_lawLine_157 (by omega) (qlv_k (p_ck (h_ok n3 (Or.inl n16) n69 (if_pos n16).symm) n85 h92) ha92 hsa92 (lv_1 (u := u) (fa := fa) (x := (nI 1, nmI f L (nx f L p), y92.1)) (show hoB fa y92.1 = true by rw [ho_v hE92 (by decide)]; exact decide_eq_true c95) rfl))
            · refine g_top (b2_f n85) ?_
              refine g_sto (mr_pv (congrArg nI (if_neg n85))) ?_
              refine g_if_eq (tgt := 98) h dX11_lawLine_88 (by decide) (fun _ => ?_) (fun q => absurd q (by decide))
              refine g_iconst (v := nI 1) h dX11_lawLine_98 (by decide) ?_
              refine g_goto (tgt := 103) h dX11_lawLine_99 (by decide) ?_
              refine g_istore_n (ls' := [(0, _), (1, _), (2, _), (3, _)]) h dX11_lawLine_103 rfl (by decide) rfl rfl ?_
              refine g_aload_n h dX11_lawLine_104 rfl rfl ?_
              refine g_getI h fl_X11_25_10 sh_178 (by decide) rfl dX11_lawLine_105 ?_
              refine g_top mr_r12 ?_
              refine g_iconst (v := -1) h dX11_lawLine_108 (by decide) ?_
              refine g_icmp_ne (tgt := 116) h dX11_lawLine_109 (by decide) (fun c109 => ?_) (fun c109 => ?_)
              · exact absurd rfl c109
              · refine g_iload_n h dX11_lawLine_112 rfl rfl ?_
                refine g_if_ne (tgt := 117) h dX11_lawLine_113 (by decide) (fun _ => ?_) (fun q => absurd q (by decide))
                refine g_iload_n h dX11_lawLine_117 rfl rfl ?_
                refine g_if_ne (tgt := 129) h dX11_lawLine_118 (by decide) (fun _ => ?_) (fun q => absurd q (by decide))
                refine g_iload_n h dX11_lawLine_129 rfl rfl ?_
                refine g_iconst (v := nI 1) h dX11_lawLine_130 (by decide) ?_
                refine g_icmp_ne (tgt := 147) h dX11_lawLine_131 (by decide) (fun c131 => ?_) (fun c131 => ?_)
                · exact absurd rfl c131
                · refine g_aload_n h dX11_lawLine_134 rfl rfl ?_
                  refine g_dup h dX11_lawLine_135 rfl ?_
                  refine g_getI h fl_X11_260_10 sh_178 (by decide) rfl dX11_lawLine_136 ?_
                  refine g_top (mr_s (by decide)) ?_
                  refine g_iload_n h dX11_lawLine_139 rfl rfl ?_
                  refine g_iadd h dX11_lawLine_140 ?_
                  refine g_putI h pfl_X11_260_10 sh_178 (by decide) rfl dX11_lawLine_141 ?_
                  refine g_sto (mr_ss (by decide)) ?_
                  refine g_goto (tgt := 157) h dX11_lawLine_144 (by decide) ?_
                  exact g_vretP h hrt dX11_lawLine_157 (by omega) (qlv_k (p_no (h_ok n3 (Or.inl n16) n69 (if_pos n16).symm) n85) q2 (sk_sk (Nat.le_refl _)) (lv_1 (u := u) (fa := fa) (x := (nI 1, nmI f L (nx f L p), [])) ho_e rfl))
          · exact absurd rfl c78
        · cases hv69
          have hw9 := nw q1 hL
          refine g_istore_n (ls' := [(0, _), (1, _), (2, _)]) h dX11_lawLine_72 rfl (by decide) rfl rfl ?_
          refine g_aload_n h dX11_lawLine_73 rfl rfl ?_
          refine g_getI h fl_X11_25_10 sh_178 (by decide) rfl dX11_lawLine_74 ?_
          refine g_top mr_r12 ?_
          refine g_iconst (v := -1) h dX11_lawLine_77 (by decide) ?_
          refine g_icmp_eq (tgt := 82) h dX11_lawLine_78 (by decide) (fun c78 => ?_) (fun c78 => ?_)
          · exact absurd c78 hw9
          · exact g_vretP h hrt dX11_lawLine_81 (by omega) (qlv_e (p_he (h_num n3 (Or.inl n16) n69)) (by omega))
      · exact absurd c43 (by decide)
    · refine g_top (b2_f n16) ?_
      refine g_sto (mr_pv (congrArg nI (if_neg n16))) ?_
      refine g_if_eq (tgt := 26) h dX11_lawLine_19 (by decide) (fun _ => ?_) (fun q => absurd q (by decide))
      refine g_aload_n h dX11_lawLine_26 rfl rfl ?_
      refine g_ldcS (tx := "value") (k := 16) h (by decide) dX11_lawLine_27 ?_
      refine g_V h lv_X11_119_X11 sh_178 (by decide) rfl (c_X11_hass B f L p p hpp (-1) 16 (by decide) (by decide) u hf hL hp) (fitR hR (by first | decide | omega) (by decide) (by omega)) rfl rfl (Nat.le_of_ble_eq_true rfl) dX11_lawLine_29 ?_
      by_cases n29 : wdB f L p 16 = true
      · refine g_top (b2_t n29) ?_
        refine g_sto (mr_pv (congrArg nI (if_pos n29))) ?_
        refine g_if_eq (tgt := 39) h dX11_lawLine_32 (by decide) (fun q => absurd q (by decide)) (fun _ => ?_)
        refine g_iconst (v := nI 2) h dX11_lawLine_35 (by decide) ?_
        refine g_goto (tgt := 40) h dX11_lawLine_36 (by decide) ?_
        refine g_istore_n (ls' := [(0, _), (1, _)]) h dX11_lawLine_40 rfl (by decide) rfl rfl ?_
        refine g_iload_n h dX11_lawLine_41 rfl rfl ?_
        refine g_iconst (v := -1) h dX11_lawLine_42 (by decide) ?_
        refine g_icmp_ne (tgt := 55) h dX11_lawLine_43 (by decide) (fun c43 => ?_) (fun c43 => ?_)
        · refine g_iload_n h dX11_lawLine_55 rfl rfl ?_
          refine g_if_ne (tgt := 63) h dX11_lawLine_56 (by decide) (fun _ => ?_) (fun q => absurd q (by decide))
          refine g_aload_n h dX11_lawLine_63 rfl rfl ?_
          refine g_iconst (v := nI 0) h dX11_lawLine_64 (by decide) ?_
          refine g_sipush (v := nI 999) h dX11_lawLine_65 (by decide) ?_
          refine g_iconst (v := nI 3) h dX11_lawLine_68 (by decide) ?_
          refine g_VP h lv_X11_130_X11 sh_178 (by decide) rfl (c_X11_figs B f L (enN f L p) (nx f L p) rfl 3 (by decide) (nI 0) (nI 999) u hf hL e0) (by rintro Ex s (⟨_, h, _⟩ | ⟨_, _, _, _, h, _⟩) <;> exact nomatch h) (fitR hR (by first | decide | omega) (by decide) (by omega)) rfl rfl (Nat.le_of_ble_eq_true rfl) dX11_lawLine_69 (fun v69 u69 hs69 => ?_)
          rcases hs69 with ⟨n69, hv69, rfl⟩ | ⟨n69, x69, q9, hq9, hv69, rfl⟩
          · cases hv69
            refine g_istore_n (ls' := [(0, _), (1, _), (2, _)]) h dX11_lawLine_72 rfl (by decide) rfl rfl ?_
            refine g_aload_n h dX11_lawLine_73 rfl rfl ?_
            refine g_getI h fl_X11_25_10 sh_178 (by decide) rfl dX11_lawLine_74 ?_
            refine g_top mr_r12 ?_
            refine g_iconst (v := -1) h dX11_lawLine_77 (by decide) ?_
            refine g_icmp_eq (tgt := 82) h dX11_lawLine_78 (by decide) (fun c78 => ?_) (fun c78 => ?_)
            · refine g_aload_n h dX11_lawLine_82 rfl rfl ?_
              refine g_ldcS (tx := "if") (k := 17) h (by decide) dX11_lawLine_83 ?_
              refine g_V h lv_X11_119_X11 sh_178 (by decide) rfl (c_X11_hass B f L (enN f L (nx f L p)) (nx f L (nx f L p)) rfl (-1) 17 (by decide) (by decide) u hf hL e1) (fitR hR (by first | decide | omega) (by decide) (by omega)) rfl rfl (Nat.le_of_ble_eq_true rfl) dX11_lawLine_85 ?_
              by_cases n85 : wdB f L (nx f L (nx f L p)) 17 = true
              · refine g_top (b2_t n85) ?_
                refine g_sto (mr_pv (congrArg nI (if_pos n85))) ?_
                have ht9 := q2
                refine g_if_eq (tgt := 98) h dX11_lawLine_88 (by decide) (fun q => absurd q (by decide)) (fun _ => ?_)
                refine g_aload_n h dX11_lawLine_91 rfl rfl ?_
                refine g_VP h lv_X11_239_X11 sh_178 (by decide) rfl (c_X11_some B f L (enN f L (nx f L (nx f L p))) (nx f L (nx f L (nx f L p))) rfl fa u hf hL (enN_b q2).2 hF hdp) qb_nx (fitR hR (by first | decide | omega) (by decide) (by omega)) rfl rfl (Nat.le_of_ble_eq_true rfl) dX11_lawLine_92 (fun v92 u92 hs92 => ?_)
                cases h92 : cnP f L (nx f L (nx f L (nx f L p)))
                · rename_i e92
                  rw [h92] at hs92
                  obtain ⟨x92, q9, hx92, hq9, hv92, rfl⟩ := hs92
                  cases hv92
                  have hw9 := nw ((cn_b _ (nx_b (f := f) q2).2).1 _ h92) hL
                  refine g_if_eq (tgt := 102) h dX11_lawLine_95 (by decide) (fun c95 => ?_) (fun c95 => ?_)
                  · refine g_iconst (v := nI 0) h dX11_lawLine_102 (by decide) ?_
                    refine g_istore_n (ls' := [(0, _), (1, _), (2, _), (3, _)]) h dX11_lawLine_103 rfl (by decide) rfl rfl ?_
                    refine g_aload_n h dX11_lawLine_104 rfl rfl ?_
                    refine g_getI h fl_X11_25_10 sh_178 (by decide) rfl dX11_lawLine_105 ?_
                    refine g_top mr_r12 ?_
                    refine g_iconst (v := -1) h dX11_lawLine_108 (by decide) ?_
                    refine g_icmp_ne (tgt := 116) h dX11_lawLine_109 (by decide) (fun c109 => ?_) (fun c109 => ?_)
                    · exact g_vretP h hrt dX11_lawLine_116 (by omega) (qlv_e (p_ce (h_ok n3 (Or.inr n29) n69 (if_neg n16).symm) n85 h92) hq9)
                    · exact absurd c109 hw9
                  · refine g_iconst (v := nI 1) h dX11_lawLine_98 (by decide) ?_
                    refine g_goto (tgt := 103) h dX11_lawLine_99 (by decide) ?_
                    refine g_istore_n (ls' := [(0, _), (1, _), (2, _), (3, _)]) h dX11_lawLine_103 rfl (by decide) rfl rfl ?_
                    refine g_aload_n h dX11_lawLine_104 rfl rfl ?_
                    refine g_getI h fl_X11_25_10 sh_178 (by decide) rfl dX11_lawLine_105 ?_
                    refine g_top mr_r12 ?_
                    refine g_iconst (v := -1) h dX11_lawLine_108 (by decide) ?_
                    refine g_icmp_ne (tgt := 116) h dX11_lawLine_109 (by decide) (fun c109 => ?_) (fun c109 => ?_)
                    · exact g_vretP h hrt dX11_lawLine_116 (by omega) (qlv_e (p_ce (h_ok n3 (Or.inr n29) n69 (if_neg n16).symm) n85 h92) hq9)
                    · exact absurd c109 hw9
                · rename_i y92
                  rw [h92] at hs92
                  obtain ⟨v92, a92, hb92, hE92, ha92, hsa92, hv92, rfl⟩ := hs92
                  cases hv92
                  refine g_if_eq (tgt := 102) h dX11_lawLine_95 (by decide) (fun c95 => ?_) (fun c95 => ?_)
                  · refine g_iconst (v := nI 0) h dX11_lawLine_102 (by decide) ?_
                    refine g_istore_n (ls' := [(0, _), (1, _), (2, _), (3, _)]) h dX11_lawLine_103 rfl (by decide) rfl rfl ?_
                    refine g_aload_n h dX11_lawLine_104 rfl rfl ?_
                    refine g_getI h fl_X11_25_10 sh_178 (by decide) rfl dX11_lawLine_105 ?_
                    refine g_top mr_r12 ?_
                    refine g_iconst (v := -1) h dX11_lawLine_108 (by decide) ?_
                    refine g_icmp_ne (tgt := 116) h dX11_lawLine_109 (by decide) (fun c109 => ?_) (fun c109 => ?_)
                    · exact absurd rfl c109
                    · refine g_iload_n h dX11_lawLine_112 rfl rfl ?_
                      refine g_if_ne (tgt := 117) h dX11_lawLine_113 (by decide) (fun q => absurd q (by decide)) (fun _ => ?_)
                      exact g_vretP h hrt dX11_lawLine_116 (by omega) (qlv_k (p_ck (h_ok n3 (Or.inr n29) n69 (if_neg n16).symm) n85 h92) ha92 hsa92 (lv_n (u := u) (fa := fa) (x := (nI 2, nmI f L (nx f L p), y92.1)) (show ¬ hoB fa y92.1 = true by rw [ho_v hE92 (by decide)]; exact fun z => of_decide_eq_true z c95)))
                  · refine g_iconst (v := nI 1) h dX11_lawLine_98 (by decide) ?_
                    refine g_goto (tgt := 103) h dX11_lawLine_99 (by decide) ?_
                    refine g_istore_n (ls' := [(0, _), (1, _), (2, _), (3, _)]) h dX11_lawLine_103 rfl (by decide) rfl rfl ?_
                    refine g_aload_n h dX11_lawLine_104 rfl rfl ?_
                    refine g_getI h fl_X11_25_10 sh_178 (by decide) rfl dX11_lawLine_105 ?_
                    refine g_top mr_r12 ?_
                    refine g_iconst (v := -1) h dX11_lawLine_108 (by decide) ?_
                    refine g_icmp_ne (tgt := 116) h dX11_lawLine_109 (by decide) (fun c109 => ?_) (fun c109 => ?_)
                    · exact absurd rfl c109
                    · refine g_iload_n h dX11_lawLine_112 rfl rfl ?_
                      refine g_if_ne (tgt := 117) h dX11_lawLine_113 (by decide) (fun _ => ?_) (fun q => absurd q (by decide))
                      refine g_iload_n h dX11_lawLine_117 rfl rfl ?_
                      refine g_if_ne (tgt := 129) h dX11_lawLine_118 (by decide) (fun _ => ?_) (fun q => absurd q (by decide))
                      refine g_iload_n h dX11_lawLine_129 rfl rfl ?_
                      refine g_iconst (v := nI 1) h dX11_lawLine_130 (by decide) ?_
                      refine g_icmp_ne (tgt := 147) h dX11_lawLine_131 (by decide) (fun c131 => ?_) (fun c131 => ?_)
                      · refine g_aload_n h dX11_lawLine_147 rfl rfl ?_
                        refine g_dup h dX11_lawLine_148 rfl ?_
                        refine g_getI h fl_X11_262_10 sh_178 (by decide) rfl dX11_lawLine_149 ?_
                        refine g_top (mr_s (by decide)) ?_
                        refine g_iload_n h dX11_lawLine_152 rfl rfl ?_
                        refine g_iadd h dX11_lawLine_153 ?_
                        refine g_putI h pfl_X11_262_10 sh_178 (by decide) rfl dX11_lawLine_154 ?_
                        refine g_sto (mr_ss (by decide)) ?_
                        exact g_vretP h hrt dX11_lawLine_157 (by omega) (qlv_k (p_ck (h_ok n3 (Or.inr n29) n69 (if_neg n16).symm) n85 h92) ha92 hsa92 (lv_2 (u := u) (fa := fa) (x := (nI 2, nmI f L (nx f L p), y92.1)) (show hoB fa y92.1 = true by rw [ho_v hE92 (by decide)]; exact decide_eq_true c95) rfl))
                      · exact absurd c131 (by decide)
              · refine g_top (b2_f n85) ?_
                refine g_sto (mr_pv (congrArg nI (if_neg n85))) ?_
                refine g_if_eq (tgt := 98) h dX11_lawLine_88 (by decide) (fun _ => ?_) (fun q => absurd q (by decide))
                refine g_iconst (v := nI 1) h dX11_lawLine_98 (by decide) ?_
                refine g_goto (tgt := 103) h dX11_lawLine_99 (by decide) ?_
                refine g_istore_n (ls' := [(0, _), (1, _), (2, _), (3, _)]) h dX11_lawLine_103 rfl (by decide) rfl rfl ?_
                refine g_aload_n h dX11_lawLine_104 rfl rfl ?_
                refine g_getI h fl_X11_25_10 sh_178 (by decide) rfl dX11_lawLine_105 ?_
                refine g_top mr_r12 ?_
                refine g_iconst (v := -1) h dX11_lawLine_108 (by decide) ?_
                refine g_icmp_ne (tgt := 116) h dX11_lawLine_109 (by decide) (fun c109 => ?_) (fun c109 => ?_)
                · exact absurd rfl c109
                · refine g_iload_n h dX11_lawLine_112 rfl rfl ?_
                  refine g_if_ne (tgt := 117) h dX11_lawLine_113 (by decide) (fun _ => ?_) (fun q => absurd q (by decide))
                  refine g_iload_n h dX11_lawLine_117 rfl rfl ?_
                  refine g_if_ne (tgt := 129) h dX11_lawLine_118 (by decide) (fun _ => ?_) (fun q => absurd q (by decide))
                  refine g_iload_n h dX11_lawLine_129 rfl rfl ?_
                  refine g_iconst (v := nI 1) h dX11_lawLine_130 (by decide) ?_
                  refine g_icmp_ne (tgt := 147) h dX11_lawLine_131 (by decide) (fun c131 => ?_) (fun c131 => ?_)
                  · refine g_aload_n h dX11_lawLine_147 rfl rfl ?_
                    refine g_dup h dX11_lawLine_148 rfl ?_
                    refine g_getI h fl_X11_262_10 sh_178 (by decide) rfl dX11_lawLine_149 ?_
                    refine g_top (mr_s (by decide)) ?_
                    refine g_iload_n h dX11_lawLine_152 rfl rfl ?_
                    refine g_iadd h dX11_lawLine_153 ?_
                    refine g_putI h pfl_X11_262_10 sh_178 (by decide) rfl dX11_lawLine_154 ?_
                    refine g_sto (mr_ss (by decide)) ?_
                    exact g_vretP h hrt dX11_lawLine_157 (by omega) (qlv_k (p_no (h_ok n3 (Or.inr n29) n69 (if_neg n16).symm) n85) q2 (sk_sk (Nat.le_refl _)) (lv_2 (u := u) (fa := fa) (x := (nI 2, nmI f L (nx f L p), [])) ho_e rfl))
                  · exact absurd c131 (by decide)
            · exact absurd rfl c78
          · cases hv69
            have hw9 := nw q1 hL
            refine g_istore_n (ls' := [(0, _), (1, _), (2, _)]) h dX11_lawLine_72 rfl (by decide) rfl rfl ?_
            refine g_aload_n h dX11_lawLine_73 rfl rfl ?_
            refine g_getI h fl_X11_25_10 sh_178 (by decide) rfl dX11_lawLine_74 ?_
            refine g_top mr_r12 ?_
            refine g_iconst (v := -1) h dX11_lawLine_77 (by decide) ?_
            refine g_icmp_eq (tgt := 82) h dX11_lawLine_78 (by decide) (fun c78 => ?_) (fun c78 => ?_)
            · exact absurd c78 hw9
            · exact g_vretP h hrt dX11_lawLine_81 (by omega) (qlv_e (p_he (h_num n3 (Or.inr n29) n69)) (by omega))
        · exact absurd c43 (by decide)
      · refine g_top (b2_f n29) ?_
        refine g_sto (mr_pv (congrArg nI (if_neg n29))) ?_
        refine g_if_eq (tgt := 39) h dX11_lawLine_32 (by decide) (fun _ => ?_) (fun q => absurd q (by decide))
        refine g_iconst (v := -1) h dX11_lawLine_39 (by decide) ?_
        refine g_istore_n (ls' := [(0, _), (1, _)]) h dX11_lawLine_40 rfl (by decide) rfl rfl ?_
        refine g_iload_n h dX11_lawLine_41 rfl rfl ?_
        refine g_iconst (v := -1) h dX11_lawLine_42 (by decide) ?_
        refine g_icmp_ne (tgt := 55) h dX11_lawLine_43 (by decide) (fun c43 => ?_) (fun c43 => ?_)
        · exact absurd rfl c43
        · refine g_aload_n h dX11_lawLine_46 rfl rfl ?_
          refine g_aload_n h dX11_lawLine_47 rfl rfl ?_
          refine g_getI h fl_X11_97_10 sh_178 (by decide) rfl dX11_lawLine_48 ?_
          refine g_top mr_r11 ?_
          refine g_V h lv_X11_123_X11 sh_178 (by decide) rfl (c_X11_wrong B f L p (-1) (nI p) u hf hL hp) (fitR hR (by first | decide | omega) (by decide) (by omega)) rfl rfl (Nat.le_of_ble_eq_true rfl) dX11_lawLine_51 ?_
          refine g_sto (mr_wv (if_pos rfl)) ?_
          exact g_vretP h hrt dX11_lawLine_54 (by omega) (qlv_e (p_he (h_non n3 (fun z => z.elim n16 n29))) (by omega))
