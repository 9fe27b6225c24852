-- after: 38.r 39.s 40.t 47.str 48.tx 49.ty 50.tt 53.lw 54.lx 55.ly 56.lz
abbrev LN : Type := Int32 × Int32 × List Int32
def lwH (f : Nat → Int32) (L p : Nat) : Except Nat (Int32 × Int32 × Nat) :=
  if wdB f L p 14 = true then .ok (nI 0, nI 0, nx f L p) else if wdB f L p 15 = true ∨ wdB f L p 16 = true then (if nuP f L (nx f L p) 3 (nI 0) (nI 999) then .ok (if wdB f L p 15 = true then nI 1 else nI 2, nmI f L (nx f L p), nx f L (nx f L p)) else .error (nx f L p)) else .error p
def lwD (f : Nat → Int32) (L p : Nat) : Except Nat (LN × Nat) := match lwH f L p with
  | .error e => .error e
  | .ok h => if wdB f L h.2.2 17 = true then (match cdF f L 401 (nx f L h.2.2) [] [] with
      | .error e => .error e
      | .ok q => .ok ((h.1, h.2.1, q.1), q.2)) else .ok ((h.1, h.2.1, []), h.2.2)
def lnS (u : Sto) (l n : Nat) (x : LN) : Sto := adW (alS u l x.1 x.2.1) (l + 1) n x.2.2
def QH (u : Sto) (l n : Nat) (f : Nat → Int32) (L : Nat) (w : Int32) (r : Except Nat (Int32 × Int32 × Nat)) : Res → Sto → Prop := fun o s => match r with
  | .error e => FW u f L e o s
  | .ok q => o = .inl (some (.int (nI 1))) ∧ q.2.2 ≤ L ∧ n ≤ q.2.2 ∧ ∃ g a b c, s = LT (alS u l q.1 q.2.1) g a b c f L q.2.2 w
theorem qh_nx {u : Sto} {l n : Nat} {f : Nat → Int32} {L : Nat} {w : Int32} {r : Except Nat (Int32 × Int32 × Nat)} : ∀ Ex s, ¬ QH u l n f L w r (.inr Ex) s := by
  intro Ex s h
  cases r with
  | error e => exact nomatch h.1
  | ok q => exact nomatch h.1
theorem qh_e {u v : Sto} {l n : Nat} {g2 : Nat → Int32} {a2 b2 c2 : Int32} {f : Nat → Int32} {L : Nat} {w : Int32} {R : Except Nat (Int32 × Int32 × Nat)} {q e : Nat} (h : R = .error e) (hd : dl v u) (hq : q ≤ L) : QH u l n f L w R (.inl (some (.int (nI 0)))) (LT v g2 a2 b2 c2 f L q (nI e)) := by
  rw [h]; exact ⟨rfl, v, g2, a2, b2, c2, q, hd, hq, rfl⟩
theorem qh_k {u : Sto} {l n : Nat} {g2 : Nat → Int32} {a2 b2 c2 : Int32} {f : Nat → Int32} {L : Nat} {w : Int32} {R : Except Nat (Int32 × Int32 × Nat)} {q : Nat} {x y : Int32} (h : R = .ok (x, y, q)) (hq : q ≤ L) (hn : n ≤ q) : QH u l n f L w R (.inl (some (.int (nI 1)))) (LT (alS u l x y) g2 a2 b2 c2 f L q w) := by
  rw [h]; exact ⟨rfl, hq, hn, g2, a2, b2, c2, rfl⟩
theorem alS_c {u : Sto} {l k : Nat} {x y : Int32} (h : k < 43 ∨ 47 < k) : alS u l x y k = u k := by
  unfold alS
  rw [su_cell _ _ (by omega), su_cell _ _ (by omega), su_cell _ _ (by omega), su_cell _ _ (by omega)]
theorem dl_alS {u : Sto} {l : Nat} {x y : Int32} : dl (alS u l x y) u := fun k hk => alS_c hk
theorem alS_5 {u : Sto} {l : Nat} {x y : Int32} : alS u l x y 43 5 = nI (l + 1) := by
  unfold alS
  rw [su_at, pk_us]
theorem alS_n {u : Sto} {l : Nat} {x y : Int32} : alS u l x y 45 (l + 1) = u 45 l := by
  unfold alS
  rw [su_cell _ _ (by decide), su_at, pk_us]
theorem nI_i {x : Nat} : nI x = nI x := rfl
theorem h_bar {f : Nat → Int32} {L p : Nat} (h : wdB f L p 14 = true) : lwH f L p = .ok (nI 0, nI 0, nx f L p) := by rw [lwH, if_pos h]
theorem h_non {f : Nat → Int32} {L p : Nat} (h : ¬ wdB f L p 14 = true) (h2 : ¬ (wdB f L p 15 = true ∨ wdB f L p 16 = true)) : lwH f L p = .error p := by rw [lwH, if_neg h, if_neg h2]
theorem h_num {f : Nat → Int32} {L p : Nat} (h : ¬ wdB f L p 14 = true) (h2 : wdB f L p 15 = true ∨ wdB f L p 16 = true) (h3 : ¬ nuP f L (nx f L p) 3 (nI 0) (nI 999)) : lwH f L p = .error (nx f L p) := by rw [lwH, if_neg h, if_pos h2, if_neg h3]
theorem h_ok {f : Nat → Int32} {L p : Nat} {x : Int32} (h : ¬ wdB f L p 14 = true) (h2 : wdB f L p 15 = true ∨ wdB f L p 16 = true) (h3 : nuP f L (nx f L p) 3 (nI 0) (nI 999)) (h4 : x = if wdB f L p 15 = true then nI 1 else nI 2) : lwH f L p = .ok (x, nmI f L (nx f L p), nx f L (nx f L p)) := by rw [lwH, if_neg h, if_pos h2, if_pos h3, h4]
theorem d_he {f : Nat → Int32} {L p e : Nat} (h : lwH f L p = .error e) : lwD f L p = .error e := by rw [lwD, h]
theorem d_ce {f : Nat → Int32} {L p e : Nat} {h : Int32 × Int32 × Nat} (hh : lwH f L p = .ok h) (h3 : cnF f L h.2.2 = .error e) : lwD f L p = .error e := by
  rw [lwD, hh]
  by_cases h2 : wdB f L h.2.2 17 = true
  · rw [cn_if h2] at h3
    exact (if_pos h2).trans (by rw [h3])
  · rw [cn_no h2] at h3
    exact nomatch h3
theorem d_ck {f : Nat → Int32} {L p : Nat} {h : Int32 × Int32 × Nat} {r : List Int32 × Nat} (hh : lwH f L p = .ok h) (h3 : cnF f L h.2.2 = .ok r) : lwD f L p = .ok ((h.1, h.2.1, r.1), r.2) := by
  rw [lwD, hh]
  by_cases h2 : wdB f L h.2.2 17 = true
  · rw [cn_if h2] at h3
    exact (if_pos h2).trans (by rw [h3])
  · rw [cn_no h2] at h3
    refine (if_neg h2).trans ?_
    cases h3
    rfl
set_option maxHeartbeats 1000000 in
theorem c_X3_readHead {E : EE} (g : Nat → Int32) (a b c : Int32) (f : Nat → Int32) (L p : Nat) (w : Int32) (l n : Nat) (hl : l < 12) (u : Sto) (hf : u 1 = f) (hL : L ≤ 400) (hp : p ≤ L) (hx : u 43 5 = nI l) (hn : u 45 l = nI n) (hnp : n ≤ p) : CtP E 9 0 yX3_readHead cX3_readHead 2 (some .boolean) [.ref (E.ad 160)] (LT u g a b c f L p w) (QH u l n f L w (lwH f L p)) := by
  have q1 := (nx_b (f := f) hp).2
  have q1b := (nx_b (f := f) hp).1
  have q2 := (nx_b (f := f) q1).2
  have q2b := (nx_b (f := f) q1).1
  refine ctp_of (by decide) (Nat.le_of_ble_eq_true rfl) (fun X h hR hrt htab hargs => ?_)
  refine g_aload_n h dX3_readHead_0 rfl rfl ?_
  refine g_ldcS (tx := "bar") (k := 14) h (by decide) dX3_readHead_1 ?_
  refine g_V h lv_X3_52_X3 sh_160 (by decide) rfl (c_X6_atWord_160 f L p w 14 (by decide) (lfS u g a b c) ((lf_oc (by decide) (by decide)).trans hf) hL hp) (fitR hR (by decide) (by decide) (by omega)) rfl rfl (Nat.le_of_ble_eq_true rfl) dX3_readHead_3 ?_
  by_cases n3 : wdB f L p 14 = true
  · refine g_top (b2_t n3) ?_
    refine g_if_eq (tgt := 24) h dX3_readHead_6 (by decide) (fun q => absurd q (by decide)) (fun _ => ?_)
    refine g_aload_n h dX3_readHead_9 rfl rfl ?_
    refine g_V h lv_X3_56_X3 sh_160 (by decide) rfl (c_X6_stepT_160 f L p w (lfS u g a b c) ((lf_oc (by decide) (by decide)).trans hf) hL hp) (fitR hR (by decide) (by decide) (by omega)) rfl rfl (Nat.le_of_ble_eq_true rfl) dX3_readHead_10 ?_
    refine g_aload_n h dX3_readHead_13 rfl rfl ?_
    refine g_getR h fl_X3_15_3 sh_160 (by decide) rfl dX3_readHead_14 ?_
    refine g_iconst (v := nI 0) h dX3_readHead_17 (by decide) ?_
    refine g_iconst (v := nI 0) h dX3_readHead_18 (by decide) ?_
    refine g_V h lv_X3_59_X2 sh_43 (by decide) rfl (c_X2_addLine l hl _ _ _ ((congrFun (LT_o (by decide) (by decide)) 5).trans hx)) (fitR hR (by decide) (by decide) (by omega)) rfl rfl (Nat.le_of_ble_eq_true rfl) dX3_readHead_19 ?_
    refine g_sto alS_LT ?_
    refine g_iconst (v := nI 1) h dX3_readHead_22 (by decide) ?_
    exact g_zretP h hrt dX3_readHead_23 (by omega) (by first | exact Or.inl rfl | exact Or.inr rfl | simp) (qh_k (h_bar n3) q1 (by omega))
  · refine g_top (b2_f n3) ?_
    refine g_if_eq (tgt := 24) h dX3_readHead_6 (by decide) (fun _ => ?_) (fun q => absurd q (by decide))
    refine g_aload_n h dX3_readHead_24 rfl rfl ?_
    refine g_ldcS (tx := "rent") (k := 15) h (by decide) dX3_readHead_25 ?_
    refine g_V h lv_X3_52_X3 sh_160 (by decide) rfl (c_X6_atWord_160 f L p w 15 (by decide) (lfS u g a b c) ((lf_oc (by decide) (by decide)).trans hf) hL hp) (fitR hR (by decide) (by decide) (by omega)) rfl rfl (Nat.le_of_ble_eq_true rfl) dX3_readHead_27 ?_
    by_cases n27 : wdB f L p 15 = true
    · refine g_top (b2_t n27) ?_
      refine g_if_ne (tgt := 47) h dX3_readHead_30 (by decide) (fun _ => ?_) (fun q => absurd q (by decide))
      refine g_aload_n h dX3_readHead_47 rfl rfl ?_
      refine g_ldcS (tx := "rent") (k := 15) h (by decide) dX3_readHead_48 ?_
      refine g_V h lv_X3_52_X3 sh_160 (by decide) rfl (c_X6_atWord_160 f L p w 15 (by decide) (lfS u g a b c) ((lf_oc (by decide) (by decide)).trans hf) hL hp) (fitR hR (by decide) (by decide) (by omega)) rfl rfl (Nat.le_of_ble_eq_true rfl) dX3_readHead_50 ?_
      by_cases n50 : wdB f L p 15 = true
      · refine g_top (b2_t n50) ?_
        refine g_if_eq (tgt := 60) h dX3_readHead_53 (by decide) (fun q => absurd q (by decide)) (fun _ => ?_)
        refine g_iconst (v := nI 1) h dX3_readHead_56 (by decide) ?_
        refine g_goto (tgt := 61) h dX3_readHead_57 (by decide) ?_
        refine g_istore_n (ls' := [(0, _), (1, _)]) h dX3_readHead_61 rfl (by decide) rfl rfl ?_
        refine g_aload_n h dX3_readHead_62 rfl rfl ?_
        refine g_V h lv_X3_56_X3 sh_160 (by decide) rfl (c_X6_stepT_160 f L p w (lfS u g a b c) ((lf_oc (by decide) (by decide)).trans hf) hL hp) (fitR hR (by decide) (by decide) (by omega)) rfl rfl (Nat.le_of_ble_eq_true rfl) dX3_readHead_63 ?_
        refine g_aload_n h dX3_readHead_66 rfl rfl ?_
        refine g_iconst (v := nI 3) h dX3_readHead_67 (by decide) ?_
        refine g_iconst (v := nI 0) h dX3_readHead_68 (by decide) ?_
        refine g_sipush (v := nI 999) h dX3_readHead_69 (by decide) ?_
        refine g_V h lv_X3_67_X3 sh_160 (by decide) rfl (c_X6_isNumber_160 f L (nx f L p) w 3 (by decide) (nI 0) (nI 999) (lfS u g a b c) ((lf_oc (by decide) (by decide)).trans hf) hL q1) (fitR hR (by decide) (by decide) (by omega)) rfl rfl (Nat.le_of_ble_eq_true rfl) dX3_readHead_72 ?_
        by_cases n72 : nuP f L (nx f L p) 3 (nI 0) (nI 999)
        · refine g_top (b2_t n72) ?_
          refine g_sto (tx_wv (if_pos n72)) ?_
          refine g_if_ne (tgt := 80) h dX3_readHead_75 (by decide) (fun _ => ?_) (fun q => absurd q (by decide))
          refine g_aload_n h dX3_readHead_80 rfl rfl ?_
          refine g_getR h fl_X3_15_3 sh_160 (by decide) rfl dX3_readHead_81 ?_
          refine g_iload_n h dX3_readHead_84 rfl rfl ?_
          refine g_aload_n h dX3_readHead_85 rfl rfl ?_
          refine g_V h lv_X3_71_X3 sh_160 (by decide) rfl (c_X6_stepOver_160 f L (nx f L p) w (lfS u g a b c) ((lf_oc (by decide) (by decide)).trans hf) hL q1) (fitR hR (by decide) (by decide) (by omega)) rfl rfl (Nat.le_of_ble_eq_true rfl) dX3_readHead_86 ?_
          refine g_V h lv_X3_59_X2 sh_43 (by decide) rfl (c_X2_addLine l hl _ _ _ ((congrFun (LT_o (by decide) (by decide)) 5).trans hx)) (fitR hR (by decide) (by decide) (by omega)) rfl rfl (Nat.le_of_ble_eq_true rfl) dX3_readHead_89 ?_
          refine g_sto alS_LT ?_
          refine g_iconst (v := nI 1) h dX3_readHead_92 (by decide) ?_
          exact g_zretP h hrt dX3_readHead_93 (by omega) (by first | exact Or.inl rfl | exact Or.inr rfl | simp) (qh_k (h_ok n3 (Or.inl n27) n72 (if_pos n27).symm) q2 (by omega))
        · refine g_top (b2_f n72) ?_
          refine g_sto (tx_wv (if_neg n72)) ?_
          refine g_if_ne (tgt := 80) h dX3_readHead_75 (by decide) (fun q => absurd q (by decide)) (fun _ => ?_)
          refine g_iconst (v := nI 0) h dX3_readHead_78 (by decide) ?_
          exact g_zretP h hrt dX3_readHead_79 (by omega) (by first | exact Or.inl rfl | exact Or.inr rfl | simp) (qh_e (h_num n3 (Or.inl n27) n72) (dl.refl _) q1)
      · exact absurd n27 n50
    · refine g_top (b2_f n27) ?_
      refine g_if_ne (tgt := 47) h dX3_readHead_30 (by decide) (fun q => absurd q (by decide)) (fun _ => ?_)
      refine g_aload_n h dX3_readHead_33 rfl rfl ?_
      refine g_ldcS (tx := "value") (k := 16) h (by decide) dX3_readHead_34 ?_
      refine g_V h lv_X3_52_X3 sh_160 (by decide) rfl (c_X6_atWord_160 f L p w 16 (by decide) (lfS u g a b c) ((lf_oc (by decide) (by decide)).trans hf) hL hp) (fitR hR (by decide) (by decide) (by omega)) rfl rfl (Nat.le_of_ble_eq_true rfl) dX3_readHead_36 ?_
      by_cases n36 : wdB f L p 16 = true
      · refine g_top (b2_t n36) ?_
        refine g_if_ne (tgt := 47) h dX3_readHead_39 (by decide) (fun _ => ?_) (fun q => absurd q (by decide))
        refine g_aload_n h dX3_readHead_47 rfl rfl ?_
        refine g_ldcS (tx := "rent") (k := 15) h (by decide) dX3_readHead_48 ?_
        refine g_V h lv_X3_52_X3 sh_160 (by decide) rfl (c_X6_atWord_160 f L p w 15 (by decide) (lfS u g a b c) ((lf_oc (by decide) (by decide)).trans hf) hL hp) (fitR hR (by decide) (by decide) (by omega)) rfl rfl (Nat.le_of_ble_eq_true rfl) dX3_readHead_50 ?_
        by_cases n50 : wdB f L p 15 = true
        · exact absurd n50 n27
        · refine g_top (b2_f n50) ?_
          refine g_if_eq (tgt := 60) h dX3_readHead_53 (by decide) (fun _ => ?_) (fun q => absurd q (by decide))
          refine g_iconst (v := nI 2) h dX3_readHead_60 (by decide) ?_
          refine g_istore_n (ls' := [(0, _), (1, _)]) h dX3_readHead_61 rfl (by decide) rfl rfl ?_
          refine g_aload_n h dX3_readHead_62 rfl rfl ?_
          refine g_V h lv_X3_56_X3 sh_160 (by decide) rfl (c_X6_stepT_160 f L p w (lfS u g a b c) ((lf_oc (by decide) (by decide)).trans hf) hL hp) (fitR hR (by decide) (by decide) (by omega)) rfl rfl (Nat.le_of_ble_eq_true rfl) dX3_readHead_63 ?_
          refine g_aload_n h dX3_readHead_66 rfl rfl ?_
          refine g_iconst (v := nI 3) h dX3_readHead_67 (by decide) ?_
          refine g_iconst (v := nI 0) h dX3_readHead_68 (by decide) ?_
          refine g_sipush (v := nI 999) h dX3_readHead_69 (by decide) ?_
          refine g_V h lv_X3_67_X3 sh_160 (by decide) rfl (c_X6_isNumber_160 f L (nx f L p) w 3 (by decide) (nI 0) (nI 999) (lfS u g a b c) ((lf_oc (by decide) (by decide)).trans hf) hL q1) (fitR hR (by decide) (by decide) (by omega)) rfl rfl (Nat.le_of_ble_eq_true rfl) dX3_readHead_72 ?_
          by_cases n72 : nuP f L (nx f L p) 3 (nI 0) (nI 999)
          · refine g_top (b2_t n72) ?_
            refine g_sto (tx_wv (if_pos n72)) ?_
            refine g_if_ne (tgt := 80) h dX3_readHead_75 (by decide) (fun _ => ?_) (fun q => absurd q (by decide))
            refine g_aload_n h dX3_readHead_80 rfl rfl ?_
            refine g_getR h fl_X3_15_3 sh_160 (by decide) rfl dX3_readHead_81 ?_
            refine g_iload_n h dX3_readHead_84 rfl rfl ?_
            refine g_aload_n h dX3_readHead_85 rfl rfl ?_
            refine g_V h lv_X3_71_X3 sh_160 (by decide) rfl (c_X6_stepOver_160 f L (nx f L p) w (lfS u g a b c) ((lf_oc (by decide) (by decide)).trans hf) hL q1) (fitR hR (by decide) (by decide) (by omega)) rfl rfl (Nat.le_of_ble_eq_true rfl) dX3_readHead_86 ?_
            refine g_V h lv_X3_59_X2 sh_43 (by decide) rfl (c_X2_addLine l hl _ _ _ ((congrFun (LT_o (by decide) (by decide)) 5).trans hx)) (fitR hR (by decide) (by decide) (by omega)) rfl rfl (Nat.le_of_ble_eq_true rfl) dX3_readHead_89 ?_
            refine g_sto alS_LT ?_
            refine g_iconst (v := nI 1) h dX3_readHead_92 (by decide) ?_
            exact g_zretP h hrt dX3_readHead_93 (by omega) (by first | exact Or.inl rfl | exact Or.inr rfl | simp) (qh_k (h_ok n3 (Or.inr n36) n72 (if_neg n27).symm) q2 (by omega))
          · refine g_top (b2_f n72) ?_
            refine g_sto (tx_wv (if_neg n72)) ?_
            refine g_if_ne (tgt := 80) h dX3_readHead_75 (by decide) (fun q => absurd q (by decide)) (fun _ => ?_)
            refine g_iconst (v := nI 0) h dX3_readHead_78 (by decide) ?_
            exact g_zretP h hrt dX3_readHead_79 (by omega) (by first | exact Or.inl rfl | exact Or.inr rfl | simp) (qh_e (h_num n3 (Or.inr n36) n72) (dl.refl _) q1)
      · refine g_top (b2_f n36) ?_
        refine g_if_ne (tgt := 47) h dX3_readHead_39 (by decide) (fun q => absurd q (by decide)) (fun _ => ?_)
        refine g_aload_n h dX3_readHead_42 rfl rfl ?_
        refine g_V h lv_X3_43_X3 sh_160 (by decide) rfl (c_X6_fail_160 f L p w (lfS u g a b c) ((lf_oc (by decide) (by decide)).trans hf) hL hp) (fitR hR (by decide) (by decide) (by omega)) rfl rfl (Nat.le_of_ble_eq_true rfl) dX3_readHead_43 ?_
        skip
        · skip
          exact g_zretP h hrt dX3_readHead_46 (by omega) (by first | exact Or.inl rfl | exact Or.inr rfl | simp) (qh_e (h_non n3 (fun z => z.elim n27 n36)) (dl.refl _) hp)
