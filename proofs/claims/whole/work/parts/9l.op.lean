-- after: 9k.oo
theorem and_01 {x : Int32} : x &&& 1 = nI 0 ∨ x &&& 1 = nI 1 := by
  have e : ∀ k, k < 32 → btB (x &&& 1) k = (btB x k && decide (k = 0)) := by
    intro k hk
    have h1 : btB (1 : Int32) k = decide (k = 0) := by
      have := bt_one (i := 0) (by omega) hk
      rw [← this]; congr 1
    rw [bt_and, h1]
  by_cases c : btB x 0 = true
  · refine Or.inr (bt_ext (fun k hk => ?_))
    rw [e k hk, bt_nI hk]
    by_cases z : k = 0
    · subst z; rw [c]; rfl
    · rw [decide_eq_false z, Bool.and_false, tb_f (k := 1) (by omega) (by omega)]
  · refine Or.inl (bt_ext (fun k hk => ?_))
    rw [e k hk, bt_0]
    by_cases z : k = 0
    · subst z; rw [Bool.eq_false_iff.mpr c]; rfl
    · rw [decide_eq_false z, Bool.and_false]
def lawFa (u : Sto) (i : Nat) : Int32 := if i < 6 then u 184 i else if i = 6 then u 178 15 &&& 1 else u 178 16 &&& 1
theorem law_FA {u : Sto} : FA (su (su u 178 8 (nI 0)) 178 13 (nI 0)) (lawFa u) := by
  refine ⟨fun i hi => ?_, ?_, ?_, and_01, and_01⟩
  · rw [su_cell _ _ (by decide), su_cell _ _ (by decide), lawFa, if_pos hi]
  · rw [su_i (by decide), su_i (by decide)]; rfl
  · rw [su_i (by decide), su_i (by decide)]; rfl
def lwG (u : Sto) (L n : Nat) : Nat → Int32 := mvO (upd (upd (u 179) 2 (nI n)) 3 (nI L)) (u 183) 1080 L
def lwQ (u : Sto) (L : Nat) (r : Except Nat (List LN)) : Res → Sto → Prop := fun o t => match r with
  | .error e => ∃ x, o = .inl (some (.int x)) ∧ sim t (su (su (su u 178 8 (nI 0)) 178 12 (nI e)) 178 0 (nI 1))
  | .ok ls => o = .inl (some (.int (nI ls.length))) ∧ sim t (su (su (su (su (sc u 179 (lwG u L ls.length)) 178 8 (nI 0)) 178 12 (-1)) 178 6 (nI 0)) 178 0 (nI 0))
theorem lwq_e {u t : Sto} {L e : Nat} {r : Except Nat (List LN)} {x : Int32} (h : r = .error e) (hs : sim t (su (su (su u 178 8 (nI 0)) 178 12 (nI e)) 178 0 (nI 1))) : lwQ u L r (.inl (some (.int x))) t := by rw [h]; exact ⟨x, rfl, hs⟩
theorem lwq_k {u t : Sto} {L : Nat} {ls : List LN} {r : Except Nat (List LN)} (h : r = .ok ls) (hs : sim t (su (su (su (su (sc u 179 (lwG u L ls.length)) 178 8 (nI 0)) 178 12 (-1)) 178 6 (nI 0)) 178 0 (nI 0))) : lwQ u L r (.inl (some (.int (nI ls.length)))) t := by rw [h]; exact ⟨rfl, hs⟩
theorem scr_x {j : Nat} (h : scrB 178 j = false) : j ≠ 9 ∧ j ≠ 10 ∧ j ≠ 11 ∧ j ≠ 13 ∧ j ≠ 15 ∧ j ≠ 16 ∧ j ≠ 17 ∧ j ≠ 18 ∧ j ≠ 19 ∧ j ≠ 26 := by
  refine ⟨?_, ?_, ?_, ?_, ?_, ?_, ?_, ?_, ?_, ?_⟩ <;> (intro e; subst e; exact absurd h (by decide))
theorem su_r {u : Sto} {k j : Nat} {x : Int32} (i : Nat) : su u k j x k i = if i = j then x else u k i := by
  by_cases e : i = j
  · subst e; rw [su_k, if_pos rfl]
  · rw [su_i e, if_neg e]
theorem law_es {u v : Sto} {L q e : Nat} (hb : brv v (su (su u 178 8 (nI 0)) 178 13 (nI 0))) : sim (MR (su v 178 0 (nI 1)) (-1) L q (nI e)) (su (su (su u 178 8 (nI 0)) 178 12 (nI e)) 178 0 (nI 1)) := by
  refine sim_of_mr (fun k h1 h2 => ?_) (fun j hj h12 => ?_) ?_
  · rw [su_cell _ _ h1, hb.1 k h1, su_cell _ _ h1, su_cell _ _ h1, su_cell _ _ h1, su_cell _ _ h1, su_cell _ _ h1]
  · have hs := scr_x hj
    rw [su_r, su_r]
    by_cases e0 : j = 0
    · rw [if_pos e0, if_pos e0]
    · rw [if_neg e0, if_neg e0, hb.2 j (by omega), su_i h12, su_i hs.2.2.2.1]
  · rw [su_i (by decide), su_k]
theorem law_ks {u : Sto} {L q : Nat} {fa : Nat → Int32} {ls : List LN} : sim (MR (su (sc (su (su (su (lvA (su (su u 178 8 (nI 0)) 178 13 (nI 0)) fa ls) 178 0 (nI 0)) 179 2 (nI ls.length)) 179 3 (nI L)) 179 (mvO (su (su (su (lvA (su (su u 178 8 (nI 0)) 178 13 (nI 0)) fa ls) 178 0 (nI 0)) 179 2 (nI ls.length)) 179 3 (nI L) 179) (u 183) 1080 L)) 178 6 (nI 0)) (-1) L q (-1)) (su (su (su (su (sc u 179 (lwG u L ls.length)) 178 8 (nI 0)) 178 12 (-1)) 178 6 (nI 0)) 178 0 (nI 0)) := by
  have V := lvA_brv (fa := fa) ls (su (su u 178 8 (nI 0)) 178 13 (nI 0))
  refine sim_of_mr (fun k h1 h2 => ?_) (fun j hj h12 => ?_) ?_
  · rw [su_cell _ _ h1, su_cell _ _ h1, su_cell _ _ h1, su_cell _ _ h1, su_cell _ _ h1]
    by_cases e : k = 179
    · subst e
      rw [sc_at, sc_at, su_at, su_at, su_cell _ _ (by decide), V.1 179 (by decide), su_cell _ _ (by decide), su_cell _ _ (by decide)]
      rfl
    · rw [sc_ne _ _ e, sc_ne _ _ e, su_cell _ _ e, su_cell _ _ e, su_cell _ _ h1, V.1 k h1, su_cell _ _ h1, su_cell _ _ h1]
  · have hs := scr_x hj
    rw [su_r, su_r, su_r, su_i h12, su_r, sc_ne _ _ (by decide), sc_ne _ _ (by decide), su_cell _ _ (by decide), su_cell _ _ (by decide), su_r]
    by_cases e6 : j = 6
    · rw [if_pos e6, if_neg (by omega), if_pos e6]
    · rw [if_neg e6, if_neg e6]
      by_cases e0 : j = 0
      · rw [if_pos e0, if_pos e0]
      · rw [if_neg e0, if_neg e0, V.2 j (by omega), su_i hs.2.2.2.1, su_r]
  · rw [su_i (by decide), su_i (by decide), su_k]
set_option maxHeartbeats 1000000 in
theorem c_X11_law {E : EE} (L : Nat) (hL : L ≤ 400) (u : Sto) (hTl : u 178 8 = nI L) : CtP E 32 0 yX11_law cX11_law 3 (some .int) [.ref (E.ad 178)] u (lwQ u L (lawP (u 183) L)) := by
  refine ctp_of (by decide) (Nat.le_of_ble_eq_true rfl) (fun X h hR hrt htab hargs => ?_)
  refine g_aload_n h dX11_law_0 rfl rfl ?_
  refine g_V h lv_X11_196_X11 sh_178 (by decide) rfl (c_X11_begins L u hTl) (fitR hR (by first | decide | omega) (by decide) (by omega)) rfl rfl (Nat.le_of_ble_eq_true rfl) dX11_law_1 ?_
  refine g_aload_n h dX11_law_4 rfl rfl ?_
  refine g_iconst (v := nI 1) h dX11_law_5 (by decide) ?_
  refine g_VP h lv_X11_199_X11 sh_178 (by decide) rfl (c_X11_read_t (-1) (u 183) L (lawFa u) (su (su u 178 8 (nI 0)) 178 13 (nI 0)) (Or.inl ⟨rfl, fun k _ => by rw [su_cell _ _ (by decide), su_cell _ _ (by decide)]⟩) hL law_FA su_k) qrl_nx (fitR hR (by first | decide | omega) (by decide) (by omega)) rfl rfl (Nat.le_of_ble_eq_true rfl) dX11_law_6 (fun v6 u6 hs6 => ?_)
  cases h6 : lawP (u 183) L
  · rename_i e6
    rw [h6] at hs6
    obtain ⟨x9, v9, q9, hb9, hq9, hv6, rfl⟩ := hs6
    cases hv6
    have hw9 := nw (la_er (by rw [law_eq hL]; exact h6)) hL
    refine g_istore_n (ls' := [(0, _), (1, _)]) h dX11_law_9 rfl (by decide) rfl rfl ?_
    refine g_aload_n h dX11_law_10 rfl rfl ?_
    refine g_aload_n h dX11_law_11 rfl rfl ?_
    refine g_getI h fl_X11_25_10 sh_178 (by decide) rfl dX11_law_12 ?_
    refine g_top mr_r12 ?_
    refine g_iconst (v := -1) h dX11_law_15 (by decide) ?_
    refine g_icmp_eq (tgt := 23) h dX11_law_16 (by decide) (fun c16 => ?_) (fun c16 => ?_)
    · exact absurd c16 hw9
    · refine g_iconst (v := nI 1) h dX11_law_19 (by decide) ?_
      refine g_goto (tgt := 24) h dX11_law_20 (by decide) ?_
      refine g_putI h pfl_X11_69_10 sh_178 (by decide) rfl dX11_law_24 ?_
      refine g_sto (mr_ss (by decide)) ?_
      refine g_aload_n h dX11_law_27 rfl rfl ?_
      refine g_getI h fl_X11_69_10 sh_178 (by decide) rfl dX11_law_28 ?_
      refine g_top (mr_s (by decide)) ?_
      refine g_top su_k ?_
      refine g_if_le (tgt := 36) h dX11_law_31 (by decide) (fun q => absurd q (by decide)) (fun _ => ?_)
      refine g_iconst (v := nI 0) h dX11_law_34 (by decide) ?_
      exact g_iretP h hrt dX11_law_35 (by omega) (lwq_e rfl (law_es hb9))
  · rename_i ls6
    rw [h6] at hs6
    obtain ⟨q9, hq9, hv6, rfl⟩ := hs6
    cases hv6
    refine g_istore_n (ls' := [(0, _), (1, _)]) h dX11_law_9 rfl (by decide) rfl rfl ?_
    refine g_aload_n h dX11_law_10 rfl rfl ?_
    refine g_aload_n h dX11_law_11 rfl rfl ?_
    refine g_getI h fl_X11_25_10 sh_178 (by decide) rfl dX11_law_12 ?_
    refine g_top mr_r12 ?_
    refine g_iconst (v := -1) h dX11_law_15 (by decide) ?_
    refine g_icmp_eq (tgt := 23) h dX11_law_16 (by decide) (fun c16 => ?_) (fun c16 => ?_)
    · refine g_iconst (v := nI 0) h dX11_law_23 (by decide) ?_
      refine g_putI h pfl_X11_69_10 sh_178 (by decide) rfl dX11_law_24 ?_
      refine g_sto (mr_ss (by decide)) ?_
      refine g_aload_n h dX11_law_27 rfl rfl ?_
      refine g_getI h fl_X11_69_10 sh_178 (by decide) rfl dX11_law_28 ?_
      refine g_top (mr_s (by decide)) ?_
      refine g_top su_k ?_
      refine g_if_le (tgt := 36) h dX11_law_31 (by decide) (fun _ => ?_) (fun q => absurd q (by decide))
      refine g_aload_n h dX11_law_36 rfl rfl ?_
      refine g_getR h fl_X11_7_10 sh_178 (by decide) rfl dX11_law_37 ?_
      refine g_iconst (v := nI 2) h dX11_law_40 (by decide) ?_
      refine g_iload_n h dX11_law_41 rfl rfl ?_
      refine g_iast h _ _ _ sh_179 (by decide) (by decide) rfl (by omega) dX11_law_42 ?_
      refine g_sto (mr_su (by decide)) ?_
      refine g_aload_n h dX11_law_43 rfl rfl ?_
      refine g_getR h fl_X11_7_10 sh_178 (by decide) rfl dX11_law_44 ?_
      refine g_iconst (v := nI 3) h dX11_law_47 (by decide) ?_
      refine g_aload_n h dX11_law_48 rfl rfl ?_
      refine g_getI h fl_X11_100_10 sh_178 (by decide) rfl dX11_law_49 ?_
      refine g_top mr_r10 ?_
      refine g_iast h _ _ _ sh_179 (by decide) (by decide) rfl (by omega) dX11_law_52 ?_
      refine g_sto (mr_su (by decide)) ?_
      refine g_iconst (v := nI 0) h dX11_law_53 (by decide) ?_
      refine g_istore_n (ls' := [(0, _), (1, _), (2, _)]) h dX11_law_54 rfl (by decide) rfl rfl ?_
      have LP : ∀ j k : Nat, L < k + j → k ≤ L → G E X (QMP E X (lwQ u L (.ok ls6)) 0) 3 0 55 [(0, .ref (E.ad 178)), (1, .int (nI ls6.length)), (2, .int (nI k))] [] (MR (sc (su (su (su (lvA (su (su u 178 8 (nI 0)) 178 13 (nI 0)) (lawFa u) ls6) 178 0 (nI 0)) 179 2 (nI ls6.length)) 179 3 (nI L)) 179 (mvO ((su (su (su (lvA (su (su u 178 8 (nI 0)) 178 13 (nI 0)) (lawFa u) ls6) 178 0 (nI 0)) 179 2 (nI ls6.length)) 179 3 (nI L)) 179) (u 183) 1080 k)) (-1) L q9 (-1)) := by
        intro j
        induction j with
        | zero => intro k h1 h2; omega
        | succ j ih =>
          intro k h1 h2
          refine g_iload_n h dX11_law_55 rfl rfl ?_
          refine g_aload_n h dX11_law_56 rfl rfl ?_
          refine g_getI h fl_X11_100_10 sh_178 (by decide) rfl dX11_law_57 ?_
          refine g_top mr_r10 ?_
          refine g_icmp_ge (tgt := 85) h dX11_law_60 (by decide) (fun c60 => ?_) (fun c60 => ?_)
          · have n60 := le_n (by omega) (by omega) (show nI (L) ≤ nI (k) from c60)
            refine g_aload_n h dX11_law_85 rfl rfl ?_
            refine g_iconst (v := nI 0) h dX11_law_86 (by decide) ?_
            refine g_putI h pfl_X11_202_10 sh_178 (by decide) rfl dX11_law_87 ?_
            refine g_sto (mr_ss (by decide)) ?_
            refine g_iload_n h dX11_law_90 rfl rfl ?_
            exact g_iretP h hrt dX11_law_91 (by omega) (lwq_k rfl (by rw [show k = L by omega]; exact law_ks))
          · have n60 := nle_n (by omega) (by omega) (show ¬ nI (L) ≤ nI (k) from c60)
            refine g_aload_n h dX11_law_63 rfl rfl ?_
            refine g_getR h fl_X11_7_10 sh_178 (by decide) rfl dX11_law_64 ?_
            refine g_sipush (v := nI 1080) h dX11_law_67 (by decide) ?_
            refine g_iload_n h dX11_law_70 rfl rfl ?_
            refine g_iadd h dX11_law_71 ?_
            refine g_top (nI_add _ _) ?_
            refine g_aload_n h dX11_law_72 rfl rfl ?_
            refine g_getR h fl_X11_22_10 sh_178 (by decide) rfl dX11_law_73 ?_
            refine g_iload_n h dX11_law_76 rfl rfl ?_
            refine g_iald h _ _ _ sh_183 (by decide) (by decide) rfl (by omega) dX11_law_77 ?_
            refine g_top (mr_o (by decide)) ?_
            refine g_top (y := u 183 k) (by rw [sc_ne _ _ (by decide), su_cell _ _ (by decide), su_cell _ _ (by decide), su_cell _ _ (by decide), (lvA_brv (fa := lawFa u) ls6 (su (su u 178 8 (nI 0)) 178 13 (nI 0))).1 183 (by decide), su_cell _ _ (by decide), su_cell _ _ (by decide)]) ?_
            refine g_iast h _ _ _ sh_179 (by decide) (by decide) rfl (by omega) dX11_law_78 ?_
            refine g_sto (mr_su (by decide)) ?_
            refine g_iinc (v := nI (k + 1)) (ls' := [(0, _), (1, _), (2, _)]) h dX11_law_79 rfl (nI_1 k) (by decide) rfl rfl ?_
            refine g_goto (tgt := 55) h dX11_law_82 (by decide) ?_
            exact g_cv rfl (congrArg (fun z => mrS z (-1) (nI L) (nI q9) (-1)) (by rw [su_sc]; exact congrArg _ mo_s)) (ih (k + 1) (by omega) (by omega))
      refine g_cv rfl (congrArg (fun z => mrS z (-1) (nI L) (nI q9) (-1)) (show (su (su (su (lvA (su (su u 178 8 (nI 0)) 178 13 (nI 0)) (lawFa u) ls6) 178 0 (nI 0)) 179 2 (nI ls6.length)) 179 3 (nI L)) = sc (su (su (su (lvA (su (su u 178 8 (nI 0)) 178 13 (nI 0)) (lawFa u) ls6) 178 0 (nI 0)) 179 2 (nI ls6.length)) 179 3 (nI L)) 179 (mvO ((su (su (su (lvA (su (su u 178 8 (nI 0)) 178 13 (nI 0)) (lawFa u) ls6) 178 0 (nI 0)) 179 2 (nI ls6.length)) 179 3 (nI L)) 179) (u 183) 1080 0) by rw [mo_0, sc_self])) ?_
      exact LP (L + 1) 0 (by omega) (by omega)
      
    · exact absurd rfl c16
