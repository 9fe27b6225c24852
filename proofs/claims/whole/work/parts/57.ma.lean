-- after: 38.r 39.s 40.t 47.str 48.tx 49.ty 50.tt 53.lw 54.lx 55.ly 56.lz
abbrev LN : Type := Int32 × Int32 × List Int32
def lwH (f : Nat → Int32) (L p : Nat) : Except Nat (Int32 × Int32 × Nat) :=
  if wdB f L p 14 = true then .ok (nI 0, nI 0, nx f L p) else if wdB f L p 15 = true ∨ wdB f L p 16 = true then (if nuP f L (nx f L p) 3 (nI 0) (nI 999) then .ok (if wdB f L p 15 = true then nI 1 else nI 2, nmI f L (nx f L p), nx f L (nx f L p)) else .error (nx f L p)) else .error p
def lwD (f : Nat → Int32) (L p : Nat) : Except Nat (LN × Nat) := match lwH f L p with
  | .error e => .error e
  | .ok h => if wdB f L h.2.2 17 = true then (match cdF f L 401 (nx f L h.2.2) [] [] with
      | .error e => .error e
      | .ok q => .ok ((h.1, h.2.1, q.1), q.2)) else .ok ((h.1, h.2.1, []), h.2.2)
def lnS (u : Sto) (l n : Nat) (x : LN) : Sto := adW (alS u l x.1 x.2.1) (l + 1) n x.2.2
def QN (u : Sto) (l n : Nat) (f : Nat → Int32) (L : Nat) (w : Int32) (r : Except Nat (LN × Nat)) : Res → Sto → Prop := fun o s => match r with
  | .error e => FW u f L e o s
  | .ok q => o = .inl (some (.int (nI 1))) ∧ q.2 ≤ L ∧ n + q.1.2.2.length ≤ q.2 ∧ ∃ g a b c, s = LT (lnS u l n q.1) g a b c f L q.2 w
theorem qn_nx {u : Sto} {l n : Nat} {f : Nat → Int32} {L : Nat} {w : Int32} {r : Except Nat (LN × Nat)} : ∀ Ex s, ¬ QN u l n f L w r (.inr Ex) s := by
  intro Ex s h
  cases r with
  | error e => exact nomatch h.1
  | ok q => exact nomatch h.1
theorem qn_e {u v : Sto} {l n : Nat} {g2 : Nat → Int32} {a2 b2 c2 : Int32} {f : Nat → Int32} {L : Nat} {w : Int32} {R : Except Nat (LN × Nat)} {q e : Nat} (h : R = .error e) (hd : dl v u) (hq : q ≤ L) : QN u l n f L w R (.inl (some (.int (nI 0)))) (LT v g2 a2 b2 c2 f L q (nI e)) := by
  rw [h]; exact ⟨rfl, v, g2, a2, b2, c2, q, hd, hq, rfl⟩
theorem qn_k {u v : Sto} {l n : Nat} {g2 : Nat → Int32} {a2 b2 c2 : Int32} {f : Nat → Int32} {L : Nat} {w : Int32} {R : Except Nat (LN × Nat)} {q : Nat} {x : LN} (h : R = .ok (x, q)) (hq : q ≤ L) (hn : n + x.2.2.length ≤ q) (hv : v = lnS u l n x) : QN u l n f L w R (.inl (some (.int (nI 1)))) (LT v g2 a2 b2 c2 f L q w) := by
  rw [h]; exact ⟨rfl, hq, hn, g2, a2, b2, c2, by rw [hv]⟩
theorem alS_c {u : Sto} {l k : Nat} {x y : Int32} (h : k < 43 ∨ 47 < k) : alS u l x y k = u k := by
  unfold alS
  rw [su_cell _ _ (by omega), su_cell _ _ (by omega), su_cell _ _ (by omega), su_cell _ _ (by omega)]
theorem dl_alS {u : Sto} {l : Nat} {x y : Int32} : dl (alS u l x y) u := fun k hk => alS_c hk
theorem alS_5 {u : Sto} {l : Nat} {x y : Int32} : alS u l x y 43 5 = nI (l + 1) := by
  unfold alS
  rw [su_at, pk_us]
theorem alS_n {u : Sto} {l : Nat} {x y : Int32} : alS u l x y 45 (l + 1) = u 45 l := by
  unfold alS
  rw [su_cell _ _ (by decide), su_at, pk_us]
theorem nI_i {x : Nat} : nI x = nI x := rfl
theorem h_bar {f : Nat → Int32} {L p : Nat} (h : wdB f L p 14 = true) : lwH f L p = .ok (nI 0, nI 0, nx f L p) := by rw [lwH, if_pos h]
theorem h_non {f : Nat → Int32} {L p : Nat} (h : ¬ wdB f L p 14 = true) (h2 : ¬ (wdB f L p 15 = true ∨ wdB f L p 16 = true)) : lwH f L p = .error p := by rw [lwH, if_neg h, if_neg h2]
theorem h_num {f : Nat → Int32} {L p : Nat} (h : ¬ wdB f L p 14 = true) (h2 : wdB f L p 15 = true ∨ wdB f L p 16 = true) (h3 : ¬ nuP f L (nx f L p) 3 (nI 0) (nI 999)) : lwH f L p = .error (nx f L p) := by rw [lwH, if_neg h, if_pos h2, if_neg h3]
theorem h_ok {f : Nat → Int32} {L p : Nat} {x : Int32} (h : ¬ wdB f L p 14 = true) (h2 : wdB f L p 15 = true ∨ wdB f L p 16 = true) (h3 : nuP f L (nx f L p) 3 (nI 0) (nI 999)) (h4 : x = if wdB f L p 15 = true then nI 1 else nI 2) : lwH f L p = .ok (x, nmI f L (nx f L p), nx f L (nx f L p)) := by rw [lwH, if_neg h, if_pos h2, if_pos h3, h4]
theorem d_he {f : Nat → Int32} {L p e : Nat} (h : lwH f L p = .error e) : lwD f L p = .error e := by rw [lwD, h]
theorem d_no {f : Nat → Int32} {L p q : Nat} {x y : Int32} (h : lwH f L p = .ok (x, y, q)) (h2 : ¬ wdB f L q 17 = true) : lwD f L p = .ok ((x, y, []), q) := by rw [lwD, h]; exact if_neg h2
theorem d_ce {f : Nat → Int32} {L p q e : Nat} {x y : Int32} (h : lwH f L p = .ok (x, y, q)) (h2 : wdB f L q 17 = true) (h3 : cdF f L 401 (nx f L q) [] [] = .error e) : lwD f L p = .error e := by rw [lwD, h]; exact (if_pos h2).trans (by rw [h3])
theorem d_ck {f : Nat → Int32} {L p q : Nat} {x y : Int32} {r : List Int32 × Nat} (h : lwH f L p = .ok (x, y, q)) (h2 : wdB f L q 17 = true) (h3 : cdF f L 401 (nx f L q) [] [] = .ok r) : lwD f L p = .ok ((x, y, r.1), r.2) := by rw [lwD, h]; exact (if_pos h2).trans (by rw [h3])
set_option maxHeartbeats 1000000 in
theorem c_X3_readLine {E : EE} (g : Nat → Int32) (a b c : Int32) (f : Nat → Int32) (L p : Nat) (w : Int32) (l n : Nat) (hl : l < 12) (u : Sto) (hf : u 1 = f) (hL : L ≤ 400) (hp : p ≤ L) (hx : u 43 5 = nI l) (hn : u 45 l = nI n) (hnp : n ≤ p) : CtP E 10 0 yX3_readLine cX3_readLine 2 (some .boolean) [.ref (E.ad 160)] (LT u g a b c f L p w) (QN u l n f L w (lwD f L p)) := by
  have q1 := (nx_b (f := f) hp).2
  have q1b := (nx_b (f := f) hp).1
  have q2 := (nx_b (f := f) q1).2
  have q2b := (nx_b (f := f) q1).1
  refine ctp_of (by decide) (Nat.le_of_ble_eq_true rfl) (fun X h hR hrt htab hargs => ?_)
  refine g_aload_n h dX3_readLine_0 rfl rfl ?_
  refine g_ldcS (tx := "bar") (k := 14) h (by decide) dX3_readLine_1 ?_
  refine g_V h lv_X3_49_X3 sh_160 (by decide) rfl (c_X6_atWord_160 f L p w 14 (by decide) (lfS u g a b c) ((lf_oc (by decide) (by decide)).trans hf) hL hp) (fitR hR (by decide) (by decide) (by omega)) rfl rfl (Nat.le_of_ble_eq_true rfl) dX3_readLine_3 ?_
  by_cases n3 : wdB f L p 14 = true
  · refine g_top (b2_t n3) ?_
    refine g_if_eq (tgt := 25) h dX3_readLine_6 (by decide) (fun q => absurd q (by decide)) (fun _ => ?_)
    refine g_aload_n h dX3_readLine_9 rfl rfl ?_
    refine g_V h lv_X3_53_X3 sh_160 (by decide) rfl (c_X6_stepT_160 f L p w (lfS u g a b c) ((lf_oc (by decide) (by decide)).trans hf) hL hp) (fitR hR (by decide) (by decide) (by omega)) rfl rfl (Nat.le_of_ble_eq_true rfl) dX3_readLine_10 ?_
    refine g_aload_n h dX3_readLine_13 rfl rfl ?_
    refine g_getR h fl_X3_15_3 sh_160 (by decide) rfl dX3_readLine_14 ?_
    refine g_iconst (v := nI 0) h dX3_readLine_17 (by decide) ?_
    refine g_iconst (v := nI 0) h dX3_readLine_18 (by decide) ?_
    refine g_V h lv_X3_56_X2 sh_43 (by decide) rfl (c_X2_addLine l hl _ _ _ ((congrFun (LT_o (by decide) (by decide)) 5).trans hx)) (fitR hR (by decide) (by decide) (by omega)) rfl rfl (Nat.le_of_ble_eq_true rfl) dX3_readLine_19 ?_
    refine g_sto alS_LT ?_
    refine g_goto (tgt := 96) h dX3_readLine_22 (by decide) ?_
    refine g_aload_n h dX3_readLine_96 rfl rfl ?_
    refine g_ldcS (tx := "if") (k := 17) h (by decide) dX3_readLine_97 ?_
    refine g_V h lv_X3_49_X3 sh_160 (by decide) rfl (c_X6_atWord_160 f L (nx f L p) w 17 (by decide) (lfS (alS u l (nI 0) (nI 0)) g a b c) ((lf_oc (by decide) (by decide)).trans ((alS_c (by decide)).trans hf)) hL q1) (fitR hR (by decide) (by decide) (by omega)) rfl rfl (Nat.le_of_ble_eq_true rfl) dX3_readLine_99 ?_
    by_cases n99 : wdB f L (nx f L p) 17 = true
    · refine g_top (b2_t n99) ?_
      refine g_if_ne (tgt := 107) h dX3_readLine_102 (by decide) (fun _ => ?_) (fun q => absurd q (by decide))
      refine g_aload_n h dX3_readLine_107 rfl rfl ?_
      refine g_V h lv_X3_53_X3 sh_160 (by decide) rfl (c_X6_stepT_160 f L (nx f L p) w (lfS (alS u l (nI 0) (nI 0)) g a b c) ((lf_oc (by decide) (by decide)).trans ((alS_c (by decide)).trans hf)) hL q1) (fitR hR (by decide) (by decide) (by omega)) rfl rfl (Nat.le_of_ble_eq_true rfl) dX3_readLine_108 ?_
      refine g_aload_n h dX3_readLine_111 rfl rfl ?_
      refine g_VP h lv_X3_73_X3 sh_160 (by decide) rfl (c_X3_readCondition g a b c f L (nx f L (nx f L p)) w (l + 1) n (by omega) (by omega) (alS u l (nI 0) (nI 0)) ((alS_c (by decide)).trans hf) hL (nx_b (f := f) q1).2 alS_5 (alS_n.trans hn) (by have := (nx_b (f := f) q1).1; omega)) qc_nx (fitR hR (by decide) (by decide) (by omega)) rfl rfl (Nat.le_of_ble_eq_true rfl) dX3_readLine_112 (fun v112 u112 hs112 => ?_)
      cases h112 : cdF f L 401 (nx f L (nx f L p)) [] []
      · rename_i e112
        rw [h112] at hs112
        obtain ⟨hv112, u112, g112, a112, b112, c112, p112, hd112, hp112, rfl⟩ := hs112
        cases hv112
        exact g_zretP h hrt dX3_readLine_115 (by omega) (by first | exact Or.inl rfl | exact Or.inr rfl | simp) (qn_e (d_ce (h_bar n3) n99 h112) (hd112.trans dl_alS) hp112)
      · rename_i q112
        rw [h112] at hs112
        obtain ⟨hv112, hq112, hn112, g112, a112, b112, c112, rfl⟩ := hs112
        cases hv112
        exact g_zretP h hrt dX3_readLine_115 (by omega) (by first | exact Or.inl rfl | exact Or.inr rfl | simp) (qn_k (d_ck (h_bar n3) n99 h112) hq112 hn112 rfl)
    · refine g_top (b2_f n99) ?_
      refine g_if_ne (tgt := 107) h dX3_readLine_102 (by decide) (fun q => absurd q (by decide)) (fun _ => ?_)
      refine g_iconst (v := nI 1) h dX3_readLine_105 (by decide) ?_
      exact g_zretP h hrt dX3_readLine_106 (by omega) (by first | exact Or.inl rfl | exact Or.inr rfl | simp) (qn_k (d_no (h_bar n3) n99) q1 (by have := q1b; have := q2b; simp only [List.length_nil]; omega) rfl)
  · refine g_top (b2_f n3) ?_
    refine g_if_eq (tgt := 25) h dX3_readLine_6 (by decide) (fun _ => ?_) (fun q => absurd q (by decide))
    refine g_aload_n h dX3_readLine_25 rfl rfl ?_
    refine g_ldcS (tx := "rent") (k := 15) h (by decide) dX3_readLine_26 ?_
    refine g_V h lv_X3_49_X3 sh_160 (by decide) rfl (c_X6_atWord_160 f L p w 15 (by decide) (lfS u g a b c) ((lf_oc (by decide) (by decide)).trans hf) hL hp) (fitR hR (by decide) (by decide) (by omega)) rfl rfl (Nat.le_of_ble_eq_true rfl) dX3_readLine_28 ?_
    by_cases n28 : wdB f L p 15 = true
    · refine g_top (b2_t n28) ?_
      refine g_if_ne (tgt := 43) h dX3_readLine_31 (by decide) (fun _ => ?_) (fun q => absurd q (by decide))
      refine g_aload_n h dX3_readLine_43 rfl rfl ?_
      refine g_ldcS (tx := "rent") (k := 15) h (by decide) dX3_readLine_44 ?_
      refine g_V h lv_X3_49_X3 sh_160 (by decide) rfl (c_X6_atWord_160 f L p w 15 (by decide) (lfS u g a b c) ((lf_oc (by decide) (by decide)).trans hf) hL hp) (fitR hR (by decide) (by decide) (by omega)) rfl rfl (Nat.le_of_ble_eq_true rfl) dX3_readLine_46 ?_
      by_cases n46 : wdB f L p 15 = true
      · refine g_top (b2_t n46) ?_
        refine g_if_eq (tgt := 56) h dX3_readLine_49 (by decide) (fun q => absurd q (by decide)) (fun _ => ?_)
        refine g_iconst (v := nI 1) h dX3_readLine_52 (by decide) ?_
        refine g_goto (tgt := 57) h dX3_readLine_53 (by decide) ?_
        refine g_istore_n (ls' := [(0, _), (1, _)]) h dX3_readLine_57 rfl (by decide) rfl rfl ?_
        refine g_aload_n h dX3_readLine_58 rfl rfl ?_
        refine g_V h lv_X3_53_X3 sh_160 (by decide) rfl (c_X6_stepT_160 f L p w (lfS u g a b c) ((lf_oc (by decide) (by decide)).trans hf) hL hp) (fitR hR (by decide) (by decide) (by omega)) rfl rfl (Nat.le_of_ble_eq_true rfl) dX3_readLine_59 ?_
        refine g_aload_n h dX3_readLine_62 rfl rfl ?_
        refine g_iconst (v := nI 3) h dX3_readLine_63 (by decide) ?_
        refine g_iconst (v := nI 0) h dX3_readLine_64 (by decide) ?_
        refine g_sipush (v := nI 999) h dX3_readLine_65 (by decide) ?_
        refine g_V h lv_X3_64_X3 sh_160 (by decide) rfl (c_X6_isNumber_160 f L (nx f L p) w 3 (by decide) (nI 0) (nI 999) (lfS u g a b c) ((lf_oc (by decide) (by decide)).trans hf) hL q1) (fitR hR (by decide) (by decide) (by omega)) rfl rfl (Nat.le_of_ble_eq_true rfl) dX3_readLine_68 ?_
        by_cases n68 : nuP f L (nx f L p) 3 (nI 0) (nI 999)
        · refine g_top (b2_t n68) ?_
          refine g_sto (tx_wv (if_pos n68)) ?_
          refine g_if_ne (tgt := 76) h dX3_readLine_71 (by decide) (fun _ => ?_) (fun q => absurd q (by decide))
          refine g_aload_n h dX3_readLine_76 rfl rfl ?_
          refine g_getR h fl_X3_15_3 sh_160 (by decide) rfl dX3_readLine_77 ?_
          refine g_iload_n h dX3_readLine_80 rfl rfl ?_
          refine g_aload_n h dX3_readLine_81 rfl rfl ?_
          refine g_V h lv_X3_68_X3 sh_160 (by decide) rfl (c_X6_stepOver_160 f L (nx f L p) w (lfS u g a b c) ((lf_oc (by decide) (by decide)).trans hf) hL q1) (fitR hR (by decide) (by decide) (by omega)) rfl rfl (Nat.le_of_ble_eq_true rfl) dX3_readLine_82 ?_
          refine g_V h lv_X3_56_X2 sh_43 (by decide) rfl (c_X2_addLine l hl _ _ _ ((congrFun (LT_o (by decide) (by decide)) 5).trans hx)) (fitR hR (by decide) (by decide) (by omega)) rfl rfl (Nat.le_of_ble_eq_true rfl) dX3_readLine_85 ?_
          refine g_sto alS_LT ?_
          refine g_goto (tgt := 96) h dX3_readLine_88 (by decide) ?_
          refine g_aload_n h dX3_readLine_96 rfl rfl ?_
          refine g_ldcS (tx := "if") (k := 17) h (by decide) dX3_readLine_97 ?_
          refine g_V h lv_X3_49_X3 sh_160 (by decide) rfl (c_X6_atWord_160 f L (nx f L (nx f L p)) w 17 (by decide) (lfS (alS u l (nI 1) (nmI f L (nx f L p))) g a b c) ((lf_oc (by decide) (by decide)).trans ((alS_c (by decide)).trans hf)) hL q2) (fitR hR (by decide) (by decide) (by omega)) rfl rfl (Nat.le_of_ble_eq_true rfl) dX3_readLine_99 ?_
          by_cases n99 : wdB f L (nx f L (nx f L p)) 17 = true
          · refine g_top (b2_t n99) ?_
            refine g_if_ne (tgt := 107) h dX3_readLine_102 (by decide) (fun _ => ?_) (fun q => absurd q (by decide))
            refine g_aload_n h dX3_readLine_107 rfl rfl ?_
            refine g_V h lv_X3_53_X3 sh_160 (by decide) rfl (c_X6_stepT_160 f L (nx f L (nx f L p)) w (lfS (alS u l (nI 1) (nmI f L (nx f L p))) g a b c) ((lf_oc (by decide) (by decide)).trans ((alS_c (by decide)).trans hf)) hL q2) (fitR hR (by decide) (by decide) (by omega)) rfl rfl (Nat.le_of_ble_eq_true rfl) dX3_readLine_108 ?_
            refine g_aload_n h dX3_readLine_111 rfl rfl ?_
            refine g_VP h lv_X3_73_X3 sh_160 (by decide) rfl (c_X3_readCondition g a b c f L (nx f L (nx f L (nx f L p))) w (l + 1) n (by omega) (by omega) (alS u l (nI 1) (nmI f L (nx f L p))) ((alS_c (by decide)).trans hf) hL (nx_b (f := f) q2).2 alS_5 (alS_n.trans hn) (by have := (nx_b (f := f) q2).1; omega)) qc_nx (fitR hR (by decide) (by decide) (by omega)) rfl rfl (Nat.le_of_ble_eq_true rfl) dX3_readLine_112 (fun v112 u112 hs112 => ?_)
            cases h112 : cdF f L 401 (nx f L (nx f L (nx f L p))) [] []
            · rename_i e112
              rw [h112] at hs112
              obtain ⟨hv112, u112, g112, a112, b112, c112, p112, hd112, hp112, rfl⟩ := hs112
              cases hv112
              exact g_zretP h hrt dX3_readLine_115 (by omega) (by first | exact Or.inl rfl | exact Or.inr rfl | simp) (qn_e (d_ce (h_ok n3 (Or.inl n28) n68 (if_pos n28).symm) n99 h112) (hd112.trans dl_alS) hp112)
            · rename_i q112
              rw [h112] at hs112
              obtain ⟨hv112, hq112, hn112, g112, a112, b112, c112, rfl⟩ := hs112
              cases hv112
              exact g_zretP h hrt dX3_readLine_115 (by omega) (by first | exact Or.inl rfl | exact Or.inr rfl | simp) (qn_k (d_ck (h_ok n3 (Or.inl n28) n68 (if_pos n28).symm) n99 h112) hq112 hn112 rfl)
          · refine g_top (b2_f n99) ?_
            refine g_if_ne (tgt := 107) h dX3_readLine_102 (by decide) (fun q => absurd q (by decide)) (fun _ => ?_)
            refine g_iconst (v := nI 1) h dX3_readLine_105 (by decide) ?_
            exact g_zretP h hrt dX3_readLine_106 (by omega) (by first | exact Or.inl rfl | exact Or.inr rfl | simp) (qn_k (d_no (h_ok n3 (Or.inl n28) n68 (if_pos n28).symm) n99) q2 (by have := q1b; have := q2b; simp only [List.length_nil]; omega) rfl)
        · refine g_top (b2_f n68) ?_
          refine g_sto (tx_wv (if_neg n68)) ?_
          refine g_if_ne (tgt := 76) h dX3_readLine_71 (by decide) (fun q => absurd q (by decide)) (fun _ => ?_)
          refine g_iconst (v := nI 0) h dX3_readLine_74 (by decide) ?_
          exact g_zretP h hrt dX3_readLine_75 (by omega) (by first | exact Or.inl rfl | exact Or.inr rfl | simp) (qn_e (d_he (h_num n3 (Or.inl n28) n68)) (dl.refl _) q1)
      · exact absurd n28 n46
    · refine g_top (b2_f n28) ?_
      refine g_if_ne (tgt := 43) h dX3_readLine_31 (by decide) (fun q => absurd q (by decide)) (fun _ => ?_)
      refine g_aload_n h dX3_readLine_34 rfl rfl ?_
      refine g_ldcS (tx := "value") (k := 16) h (by decide) dX3_readLine_35 ?_
      refine g_V h lv_X3_49_X3 sh_160 (by decide) rfl (c_X6_atWord_160 f L p w 16 (by decide) (lfS u g a b c) ((lf_oc (by decide) (by decide)).trans hf) hL hp) (fitR hR (by decide) (by decide) (by omega)) rfl rfl (Nat.le_of_ble_eq_true rfl) dX3_readLine_37 ?_
      by_cases n37 : wdB f L p 16 = true
      · refine g_top (b2_t n37) ?_
        refine g_if_eq (tgt := 91) h dX3_readLine_40 (by decide) (fun q => absurd q (by decide)) (fun _ => ?_)
        refine g_aload_n h dX3_readLine_43 rfl rfl ?_
        refine g_ldcS (tx := "rent") (k := 15) h (by decide) dX3_readLine_44 ?_
        refine g_V h lv_X3_49_X3 sh_160 (by decide) rfl (c_X6_atWord_160 f L p w 15 (by decide) (lfS u g a b c) ((lf_oc (by decide) (by decide)).trans hf) hL hp) (fitR hR (by decide) (by decide) (by omega)) rfl rfl (Nat.le_of_ble_eq_true rfl) dX3_readLine_46 ?_
        by_cases n46 : wdB f L p 15 = true
        · exact absurd n46 n28
        · refine g_top (b2_f n46) ?_
          refine g_if_eq (tgt := 56) h dX3_readLine_49 (by decide) (fun _ => ?_) (fun q => absurd q (by decide))
          refine g_iconst (v := nI 2) h dX3_readLine_56 (by decide) ?_
          refine g_istore_n (ls' := [(0, _), (1, _)]) h dX3_readLine_57 rfl (by decide) rfl rfl ?_
          refine g_aload_n h dX3_readLine_58 rfl rfl ?_
          refine g_V h lv_X3_53_X3 sh_160 (by decide) rfl (c_X6_stepT_160 f L p w (lfS u g a b c) ((lf_oc (by decide) (by decide)).trans hf) hL hp) (fitR hR (by decide) (by decide) (by omega)) rfl rfl (Nat.le_of_ble_eq_true rfl) dX3_readLine_59 ?_
          refine g_aload_n h dX3_readLine_62 rfl rfl ?_
          refine g_iconst (v := nI 3) h dX3_readLine_63 (by decide) ?_
          refine g_iconst (v := nI 0) h dX3_readLine_64 (by decide) ?_
          refine g_sipush (v := nI 999) h dX3_readLine_65 (by decide) ?_
          refine g_V h lv_X3_64_X3 sh_160 (by decide) rfl (c_X6_isNumber_160 f L (nx f L p) w 3 (by decide) (nI 0) (nI 999) (lfS u g a b c) ((lf_oc (by decide) (by decide)).trans hf) hL q1) (fitR hR (by decide) (by decide) (by omega)) rfl rfl (Nat.le_of_ble_eq_true rfl) dX3_readLine_68 ?_
          by_cases n68 : nuP f L (nx f L p) 3 (nI 0) (nI 999)
          · refine g_top (b2_t n68) ?_
            refine g_sto (tx_wv (if_pos n68)) ?_
            refine g_if_ne (tgt := 76) h dX3_readLine_71 (by decide) (fun _ => ?_) (fun q => absurd q (by decide))
            refine g_aload_n h dX3_readLine_76 rfl rfl ?_
            refine g_getR h fl_X3_15_3 sh_160 (by decide) rfl dX3_readLine_77 ?_
            refine g_iload_n h dX3_readLine_80 rfl rfl ?_
            refine g_aload_n h dX3_readLine_81 rfl rfl ?_
            refine g_V h lv_X3_68_X3 sh_160 (by decide) rfl (c_X6_stepOver_160 f L (nx f L p) w (lfS u g a b c) ((lf_oc (by decide) (by decide)).trans hf) hL q1) (fitR hR (by decide) (by decide) (by omega)) rfl rfl (Nat.le_of_ble_eq_true rfl) dX3_readLine_82 ?_
            refine g_V h lv_X3_56_X2 sh_43 (by decide) rfl (c_X2_addLine l hl _ _ _ ((congrFun (LT_o (by decide) (by decide)) 5).trans hx)) (fitR hR (by decide) (by decide) (by omega)) rfl rfl (Nat.le_of_ble_eq_true rfl) dX3_readLine_85 ?_
            refine g_sto alS_LT ?_
            refine g_goto (tgt := 96) h dX3_readLine_88 (by decide) ?_
            refine g_aload_n h dX3_readLine_96 rfl rfl ?_
            refine g_ldcS (tx := "if") (k := 17) h (by decide) dX3_readLine_97 ?_
            refine g_V h lv_X3_49_X3 sh_160 (by decide) rfl (c_X6_atWord_160 f L (nx f L (nx f L p)) w 17 (by decide) (lfS (alS u l (nI 2) (nmI f L (nx f L p))) g a b c) ((lf_oc (by decide) (by decide)).trans ((alS_c (by decide)).trans hf)) hL q2) (fitR hR (by decide) (by decide) (by omega)) rfl rfl (Nat.le_of_ble_eq_true rfl) dX3_readLine_99 ?_
            by_cases n99 : wdB f L (nx f L (nx f L p)) 17 = true
            · refine g_top (b2_t n99) ?_
              refine g_if_ne (tgt := 107) h dX3_readLine_102 (by decide) (fun _ => ?_) (fun q => absurd q (by decide))
              refine g_aload_n h dX3_readLine_107 rfl rfl ?_
              refine g_V h lv_X3_53_X3 sh_160 (by decide) rfl (c_X6_stepT_160 f L (nx f L (nx f L p)) w (lfS (alS u l (nI 2) (nmI f L (nx f L p))) g a b c) ((lf_oc (by decide) (by decide)).trans ((alS_c (by decide)).trans hf)) hL q2) (fitR hR (by decide) (by decide) (by omega)) rfl rfl (Nat.le_of_ble_eq_true rfl) dX3_readLine_108 ?_
              refine g_aload_n h dX3_readLine_111 rfl rfl ?_
              refine g_VP h lv_X3_73_X3 sh_160 (by decide) rfl (c_X3_readCondition g a b c f L (nx f L (nx f L (nx f L p))) w (l + 1) n (by omega) (by omega) (alS u l (nI 2) (nmI f L (nx f L p))) ((alS_c (by decide)).trans hf) hL (nx_b (f := f) q2).2 alS_5 (alS_n.trans hn) (by have := (nx_b (f := f) q2).1; omega)) qc_nx (fitR hR (by decide) (by decide) (by omega)) rfl rfl (Nat.le_of_ble_eq_true rfl) dX3_readLine_112 (fun v112 u112 hs112 => ?_)
              cases h112 : cdF f L 401 (nx f L (nx f L (nx f L p))) [] []
              · rename_i e112
                rw [h112] at hs112
                obtain ⟨hv112, u112, g112, a112, b112, c112, p112, hd112, hp112, rfl⟩ := hs112
                cases hv112
                exact g_zretP h hrt dX3_readLine_115 (by omega) (by first | exact Or.inl rfl | exact Or.inr rfl | simp) (qn_e (d_ce (h_ok n3 (Or.inr n37) n68 (if_neg n28).symm) n99 h112) (hd112.trans dl_alS) hp112)
              · rename_i q112
                rw [h112] at hs112
                obtain ⟨hv112, hq112, hn112, g112, a112, b112, c112, rfl⟩ := hs112
                cases hv112
                exact g_zretP h hrt dX3_readLine_115 (by omega) (by first | exact Or.inl rfl | exact Or.inr rfl | simp) (qn_k (d_ck (h_ok n3 (Or.inr n37) n68 (if_neg n28).symm) n99 h112) hq112 hn112 rfl)
            · refine g_top (b2_f n99) ?_
              refine g_if_ne (tgt := 107) h dX3_readLine_102 (by decide) (fun q => absurd q (by decide)) (fun _ => ?_)
              refine g_iconst (v := nI 1) h dX3_readLine_105 (by decide) ?_
              exact g_zretP h hrt dX3_readLine_106 (by omega) (by first | exact Or.inl rfl | exact Or.inr rfl | simp) (qn_k (d_no (h_ok n3 (Or.inr n37) n68 (if_neg n28).symm) n99) q2 (by have := q1b; have := q2b; simp only [List.length_nil]; omega) rfl)
          · refine g_top (b2_f n68) ?_
            refine g_sto (tx_wv (if_neg n68)) ?_
            refine g_if_ne (tgt := 76) h dX3_readLine_71 (by decide) (fun q => absurd q (by decide)) (fun _ => ?_)
            refine g_iconst (v := nI 0) h dX3_readLine_74 (by decide) ?_
            exact g_zretP h hrt dX3_readLine_75 (by omega) (by first | exact Or.inl rfl | exact Or.inr rfl | simp) (qn_e (d_he (h_num n3 (Or.inr n37) n68)) (dl.refl _) q1)
      · refine g_top (b2_f n37) ?_
        refine g_if_eq (tgt := 91) h dX3_readLine_40 (by decide) (fun _ => ?_) (fun q => absurd q (by decide))
        refine g_aload_n h dX3_readLine_91 rfl rfl ?_
        refine g_V h lv_X3_40_X3 sh_160 (by decide) rfl (c_X6_fail_160 f L p w (lfS u g a b c) ((lf_oc (by decide) (by decide)).trans hf) hL hp) (fitR hR (by decide) (by decide) (by omega)) rfl rfl (Nat.le_of_ble_eq_true rfl) dX3_readLine_92 ?_
        skip
        · skip
          exact g_zretP h hrt dX3_readLine_95 (by omega) (by first | exact Or.inl rfl | exact Or.inr rfl | simp) (qn_e (d_he (h_non n3 (fun z => z.elim n28 n37))) (dl.refl _) hp)
