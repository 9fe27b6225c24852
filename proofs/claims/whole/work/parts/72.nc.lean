-- after: 38.r 39.s 40.t 47.str 48.tx 49.ty 50.tt 53.lw 70.na 71.nb
theorem kd_dg {f : Nat → Int32} {L s : Nat} (h : kdN f L s = 2) : enN f L s = run dgB f L s ∧ s < run dgB f L s := by
  have hl := kd_lt (f := f) (L := L) (b := s) (by omega)
  unfold kdN at h
  unfold enN
  rw [if_neg (by omega)] at h ⊢
  split at h
  · omega
  · rename_i q
    rw [if_neg q]
    split at h
    · rename_i q2
      rw [if_pos q2]
      exact ⟨rfl, run_lt hl q2⟩
    · omega
theorem dg_az {x : Int32} (h : dgB x = true) : ¬ azB x = true := by
  intro q
  have h1 := (of_decide_eq_true h).2
  have h2 := Int32.not_lt.mp (of_decide_eq_true q).1
  exact absurd (Int32.le_trans h2 h1) (by decide)
theorem dg_kd {f : Nat → Int32} {L s : Nat} (h : s < run dgB f L s) : kdN f L s = 2 := by
  by_cases q : s < L ∧ dgB (f s) = true
  · unfold kdN; rw [if_neg (by omega), if_neg (dg_az q.2), if_pos q.2]
  · rw [run_e q] at h; omega
abbrev fgH (f : Nat → Int32) (L s d c : Nat) : Prop := run dgB f L s = s + c ∨ (d < c ∧ s + c ≤ run dgB f L s)
theorem fg_0 {f : Nat → Int32} {L s d c : Nat} {lo hi : Int32} (H : fgH f L s d c) (hc : c = 0) : ¬ nuP f L s d lo hi := fun q => by
  have := (kd_dg q.1).2
  rcases H with e | e
  · omega
  · have := e.1; omega
theorem fg_d {f : Nat → Int32} {L s d c : Nat} {lo hi : Int32} (H : fgH f L s d c) (hc : d < c) : ¬ nuP f L s d lo hi := fun q => by
  have h1 := kd_dg q.1
  have h2 := q.2.1
  rcases H with e | e
  · omega
  · have := e.2; omega
theorem fg_v {f : Nat → Int32} {L s d c : Nat} (H : fgH f L s d c) (hc : c ≤ d) (h0 : ¬ c = 0) : kdN f L s = 2 ∧ enN f L s = s + c ∧ nmI f L s = nuF f s c := by
  have e := H.resolve_right (fun q => by have := q.1; omega)
  have h1 := dg_kd (f := f) (L := L) (s := s) (by omega)
  have h2 := (kd_dg h1).1
  refine ⟨h1, by omega, ?_⟩
  unfold nmI
  rw [if_pos h1, h2, e, Nat.add_sub_cancel_left]
set_option maxHeartbeats 1000000 in
theorem c_X11_figures {E : EE} (B : Int32) (f : Nat → Int32) (L p : Nat) (d : Nat) (hd : d < 100) (lo hi : Int32) (u : Sto) (hf : LF u B f) (hL : L ≤ 400) (hp : p ≤ L) : CtP E 4 0 yX11_figures cX11_figures 6 (some .int) [.ref (E.ad 178), .int lo, .int hi, .int (nI d)] (MR u B L p (-1)) (fun o t => (nuP f L (skp f L p) d lo hi ∧ o = .inl (some (.int (nmI f L (skp f L p)))) ∧ t = MR u B L (enN f L (skp f L p)) (-1)) ∨ (¬ nuP f L (skp f L p) d lo hi ∧ ∃ x q, q ≤ L ∧ o = .inl (some (.int x)) ∧ t = MR u B L q (nI (skp f L p)))) := by
  refine ctp_of (by decide) (Nat.le_of_ble_eq_true rfl) (fun X h hR hrt htab hargs => ?_)
  have hs := (skp_b (f := f) hp).2
  generalize hsd : skp f L p = s at hs ⊢
  have HE : ∀ c : Nat, s + c ≤ L → c ≤ d + 1 → fgH f L s d c → G E X (QMP E X (fun o t => (nuP f L s d lo hi ∧ o = .inl (some (.int (nmI f L s))) ∧ t = MR u B L (enN f L s) (-1)) ∨ (¬ nuP f L s d lo hi ∧ ∃ x q, q ≤ L ∧ o = .inl (some (.int x)) ∧ t = MR u B L q (nI s))) 0) 6 0 91 [(0, .ref (E.ad 178)), (1, .int lo), (2, .int hi), (3, .int (nI d)), (4, .int (nI s)), (5, .int (nuF f s c))] [] (MR u B L (s + c) (-1)) := by
    intro c hcL hcd H
    refine g_aload_n h dX11_figures_91 rfl rfl ?_
    refine g_getI h fl_X11_97_10 sh_178 (by decide) rfl dX11_figures_92 ?_
    refine g_top mr_r11 ?_
    refine g_iload h dX11_figures_95 rfl ?_
    refine g_icmp_eq (tgt := 123) h dX11_figures_97 (by decide) (fun c97 => ?_) (fun c97 => ?_)
    · have n97 := eq_n (by omega) (by omega) (show nI (s + c) = nI (s) from c97)
      have hz : ¬ nuP f L s d lo hi := fg_0 H (by omega)
      refine g_aload_n h dX11_figures_123 rfl rfl ?_
      refine g_iload h dX11_figures_124 rfl ?_
      refine g_V h lv_X11_123_X11 sh_178 (by decide) rfl (c_X11_wrong B f L (s + c) (-1) (nI s) u hf hL hcL) (fitR hR (by first | decide | omega) (by decide) (by omega)) rfl rfl (Nat.le_of_ble_eq_true rfl) dX11_figures_126 ?_
      refine g_sto (mr_wv (if_pos rfl)) ?_
      refine g_iload h dX11_figures_129 rfl ?_
      exact g_iretP h hrt dX11_figures_131 (by omega) (Or.inr ⟨hz, _, s + c, hcL, rfl, rfl⟩)
    · have n97 := ne_n (show ¬ nI (s + c) = nI (s) from c97)
      refine g_aload_n h dX11_figures_100 rfl rfl ?_
      refine g_getI h fl_X11_97_10 sh_178 (by decide) rfl dX11_figures_101 ?_
      refine g_top mr_r11 ?_
      refine g_iload h dX11_figures_104 rfl ?_
      refine g_isub h dX11_figures_106 ?_
      refine g_top (y := nI c) ((pk_sub (a := s + c) (b := s) (by omega)).trans (congrArg nI (by omega))) ?_
      refine g_iload_n h dX11_figures_107 rfl rfl ?_
      refine g_icmp_gt (tgt := 123) h dX11_figures_108 (by decide) (fun c108 => ?_) (fun c108 => ?_)
      · have n108 := lt_n (by omega) (by omega) (show nI (d) < nI (c) from c108)
        have hz : ¬ nuP f L s d lo hi := fg_d H n108
        refine g_aload_n h dX11_figures_123 rfl rfl ?_
        refine g_iload h dX11_figures_124 rfl ?_
        refine g_V h lv_X11_123_X11 sh_178 (by decide) rfl (c_X11_wrong B f L (s + c) (-1) (nI s) u hf hL hcL) (fitR hR (by first | decide | omega) (by decide) (by omega)) rfl rfl (Nat.le_of_ble_eq_true rfl) dX11_figures_126 ?_
        refine g_sto (mr_wv (if_pos rfl)) ?_
        refine g_iload h dX11_figures_129 rfl ?_
        exact g_iretP h hrt dX11_figures_131 (by omega) (Or.inr ⟨hz, _, s + c, hcL, rfl, rfl⟩)
      · have n108 := nlt_n (by omega) (by omega) (show ¬ nI (d) < nI (c) from c108)
        obtain ⟨v1, v2, v3⟩ := fg_v H n108 (by omega)
        refine g_iload h dX11_figures_111 rfl ?_
        refine g_iload_n h dX11_figures_113 rfl rfl ?_
        refine g_icmp_lt (tgt := 123) h dX11_figures_114 (by decide) (fun c114 => ?_) (fun c114 => ?_)
        · have hz : ¬ nuP f L s d lo hi := fun q => q.2.2.1 (by rw [v3]; exact c114)
          refine g_aload_n h dX11_figures_123 rfl rfl ?_
          refine g_iload h dX11_figures_124 rfl ?_
          refine g_V h lv_X11_123_X11 sh_178 (by decide) rfl (c_X11_wrong B f L (s + c) (-1) (nI s) u hf hL hcL) (fitR hR (by first | decide | omega) (by decide) (by omega)) rfl rfl (Nat.le_of_ble_eq_true rfl) dX11_figures_126 ?_
          refine g_sto (mr_wv (if_pos rfl)) ?_
          refine g_iload h dX11_figures_129 rfl ?_
          exact g_iretP h hrt dX11_figures_131 (by omega) (Or.inr ⟨hz, _, s + c, hcL, rfl, rfl⟩)
        · refine g_iload h dX11_figures_117 rfl ?_
          refine g_iload_n h dX11_figures_119 rfl rfl ?_
          refine g_icmp_le (tgt := 129) h dX11_figures_120 (by decide) (fun c120 => ?_) (fun c120 => ?_)
          · have hz : nuP f L s d lo hi := ⟨v1, by omega, by rw [v3]; exact c114, by rw [v3]; exact c120⟩
            refine g_iload h dX11_figures_129 rfl ?_
            exact g_iretP h hrt dX11_figures_131 (by omega) (Or.inl ⟨hz, by rw [v3], by rw [v2]⟩)
          · have hz : ¬ nuP f L s d lo hi := fun q => c120 (by rw [← v3]; exact q.2.2.2)
            refine g_aload_n h dX11_figures_123 rfl rfl ?_
            refine g_iload h dX11_figures_124 rfl ?_
            refine g_V h lv_X11_123_X11 sh_178 (by decide) rfl (c_X11_wrong B f L (s + c) (-1) (nI s) u hf hL hcL) (fitR hR (by first | decide | omega) (by decide) (by omega)) rfl rfl (Nat.le_of_ble_eq_true rfl) dX11_figures_126 ?_
            refine g_sto (mr_wv (if_pos rfl)) ?_
            refine g_iload h dX11_figures_129 rfl ?_
            exact g_iretP h hrt dX11_figures_131 (by omega) (Or.inr ⟨hz, _, s + c, hcL, rfl, rfl⟩)
  have LP : ∀ j c : Nat, d + 1 - c ≤ j → s + c ≤ L → c ≤ d + 1 → run dgB f L (s + c) = run dgB f L s → G E X (QMP E X (fun o t => (nuP f L s d lo hi ∧ o = .inl (some (.int (nmI f L s))) ∧ t = MR u B L (enN f L s) (-1)) ∨ (¬ nuP f L s d lo hi ∧ ∃ x q, q ≤ L ∧ o = .inl (some (.int x)) ∧ t = MR u B L q (nI s))) 0) 6 0 19 [(0, .ref (E.ad 178)), (1, .int lo), (2, .int hi), (3, .int (nI d)), (4, .int (nI s)), (5, .int (nuF f s c))] [] (MR u B L (s + c) (-1)) := by
    intro j
    induction j with
    | zero =>
      intro c hj hcL hcd hr
      refine g_aload_n h dX11_figures_19 rfl rfl ?_
      refine g_getI h fl_X11_97_10 sh_178 (by decide) rfl dX11_figures_20 ?_
      refine g_top mr_r11 ?_
      refine g_aload_n h dX11_figures_23 rfl rfl ?_
      refine g_getI h fl_X11_100_10 sh_178 (by decide) rfl dX11_figures_24 ?_
      refine g_top mr_r10 ?_
      refine g_icmp_ge (tgt := 91) h dX11_figures_27 (by decide) (fun c27 => ?_) (fun c27 => ?_)
      · have n27 := le_n (by omega) (by omega) (show nI (L) ≤ nI (s + c) from c27)
        exact HE c hcL hcd (Or.inl (by rw [← hr]; exact run_e (fun z => by have := z.1; omega)))
      · have n27 := nle_n (by omega) (by omega) (show ¬ nI (L) ≤ nI (s + c) from c27)
        refine g_aload_n h dX11_figures_30 rfl rfl ?_
        refine g_aload_n h dX11_figures_31 rfl rfl ?_
        refine g_getI h fl_X11_97_10 sh_178 (by decide) rfl dX11_figures_32 ?_
        refine g_top mr_r11 ?_
        refine g_V h lv_X11_103_X11 sh_178 (by decide) rfl (c_X11_letter B f L (s + c) (-1) (s + c) (by omega) u hf hL hcL) (fitR hR (by first | decide | omega) (by decide) (by omega)) rfl rfl (Nat.le_of_ble_eq_true rfl) dX11_figures_35 ?_
        refine g_bipush (v := nI 48) h dX11_figures_38 (by decide) ?_
        refine g_bipush (v := nI 57) h dX11_figures_40 (by decide) ?_
        refine g_S h ls_X11_72 (c_X11_isIn (f (s + c)) (nI 48) (nI 57) _) (fitR hR (by first | decide | omega) (by decide) (by omega)) rfl rfl (Nat.le_of_ble_eq_true rfl) dX11_figures_42 ?_
        refine g_if_eq (tgt := 91) h dX11_figures_45 (by decide) (fun c45 => ?_) (fun c45 => ?_)
        · exact HE c hcL hcd (Or.inl (by rw [← hr]; exact run_e (fun z => b2_0.mp c45 (of_decide_eq_true z.2))))
        · refine g_aload_n h dX11_figures_48 rfl rfl ?_
          refine g_getI h fl_X11_97_10 sh_178 (by decide) rfl dX11_figures_49 ?_
          refine g_top mr_r11 ?_
          refine g_iload h dX11_figures_52 rfl ?_
          refine g_isub h dX11_figures_54 ?_
          refine g_top (y := nI c) ((pk_sub (a := s + c) (b := s) (by omega)).trans (congrArg nI (by omega))) ?_
          refine g_iload_n h dX11_figures_55 rfl rfl ?_
          refine g_icmp_gt (tgt := 91) h dX11_figures_56 (by decide) (fun c56 => ?_) (fun c56 => ?_)
          · have n56 := lt_n (by omega) (by omega) (show nI (d) < nI (c) from c56)
            exact HE c hcL hcd (Or.inr ⟨by omega, by rw [← hr]; exact (run_b hcL).1⟩)
          · have n56 := nlt_n (by omega) (by omega) (show ¬ nI (d) < nI (c) from c56)
            refine g_bipush (v := nI 10) h dX11_figures_59 (by decide) ?_
            refine g_iload h dX11_figures_61 rfl ?_
            refine g_imul h dX11_figures_63 ?_
            refine g_aload_n h dX11_figures_64 rfl rfl ?_
            refine g_aload_n h dX11_figures_65 rfl rfl ?_
            refine g_getI h fl_X11_97_10 sh_178 (by decide) rfl dX11_figures_66 ?_
            refine g_top mr_r11 ?_
            refine g_V h lv_X11_103_X11 sh_178 (by decide) rfl (c_X11_letter B f L (s + c) (-1) (s + c) (by omega) u hf hL hcL) (fitR hR (by first | decide | omega) (by decide) (by omega)) rfl rfl (Nat.le_of_ble_eq_true rfl) dX11_figures_69 ?_
            refine g_iadd h dX11_figures_72 ?_
            refine g_bipush (v := nI 48) h dX11_figures_73 (by decide) ?_
            refine g_isub h dX11_figures_75 ?_
            refine g_istore (ls' := [(0, _), (1, _), (2, _), (3, _), (4, _), (5, _)]) h dX11_figures_76 (by decide) rfl rfl ?_
            refine g_aload_n h dX11_figures_78 rfl rfl ?_
            refine g_dup h dX11_figures_79 rfl ?_
            refine g_getI h fl_X11_97_10 sh_178 (by decide) rfl dX11_figures_80 ?_
            refine g_top mr_r11 ?_
            refine g_iconst (v := nI 1) h dX11_figures_83 (by decide) ?_
            refine g_iadd h dX11_figures_84 ?_
            refine g_top (nI_1 (s + c)) ?_
            refine g_putI h pfl_X11_97_10 sh_178 (by decide) rfl dX11_figures_85 ?_
            refine g_sto mr_w11 ?_
            refine g_goto (tgt := 19) h dX11_figures_88 (by decide) ?_
            exact absurd n56 (by omega)
    | succ j ih =>
      intro c hj hcL hcd hr
      refine g_aload_n h dX11_figures_19 rfl rfl ?_
      refine g_getI h fl_X11_97_10 sh_178 (by decide) rfl dX11_figures_20 ?_
      refine g_top mr_r11 ?_
      refine g_aload_n h dX11_figures_23 rfl rfl ?_
      refine g_getI h fl_X11_100_10 sh_178 (by decide) rfl dX11_figures_24 ?_
      refine g_top mr_r10 ?_
      refine g_icmp_ge (tgt := 91) h dX11_figures_27 (by decide) (fun c27 => ?_) (fun c27 => ?_)
      · have n27 := le_n (by omega) (by omega) (show nI (L) ≤ nI (s + c) from c27)
        exact HE c hcL hcd (Or.inl (by rw [← hr]; exact run_e (fun z => by have := z.1; omega)))
      · have n27 := nle_n (by omega) (by omega) (show ¬ nI (L) ≤ nI (s + c) from c27)
        refine g_aload_n h dX11_figures_30 rfl rfl ?_
        refine g_aload_n h dX11_figures_31 rfl rfl ?_
        refine g_getI h fl_X11_97_10 sh_178 (by decide) rfl dX11_figures_32 ?_
        refine g_top mr_r11 ?_
        refine g_V h lv_X11_103_X11 sh_178 (by decide) rfl (c_X11_letter B f L (s + c) (-1) (s + c) (by omega) u hf hL hcL) (fitR hR (by first | decide | omega) (by decide) (by omega)) rfl rfl (Nat.le_of_ble_eq_true rfl) dX11_figures_35 ?_
        refine g_bipush (v := nI 48) h dX11_figures_38 (by decide) ?_
        refine g_bipush (v := nI 57) h dX11_figures_40 (by decide) ?_
        refine g_S h ls_X11_72 (c_X11_isIn (f (s + c)) (nI 48) (nI 57) _) (fitR hR (by first | decide | omega) (by decide) (by omega)) rfl rfl (Nat.le_of_ble_eq_true rfl) dX11_figures_42 ?_
        refine g_if_eq (tgt := 91) h dX11_figures_45 (by decide) (fun c45 => ?_) (fun c45 => ?_)
        · exact HE c hcL hcd (Or.inl (by rw [← hr]; exact run_e (fun z => b2_0.mp c45 (of_decide_eq_true z.2))))
        · refine g_aload_n h dX11_figures_48 rfl rfl ?_
          refine g_getI h fl_X11_97_10 sh_178 (by decide) rfl dX11_figures_49 ?_
          refine g_top mr_r11 ?_
          refine g_iload h dX11_figures_52 rfl ?_
          refine g_isub h dX11_figures_54 ?_
          refine g_top (y := nI c) ((pk_sub (a := s + c) (b := s) (by omega)).trans (congrArg nI (by omega))) ?_
          refine g_iload_n h dX11_figures_55 rfl rfl ?_
          refine g_icmp_gt (tgt := 91) h dX11_figures_56 (by decide) (fun c56 => ?_) (fun c56 => ?_)
          · have n56 := lt_n (by omega) (by omega) (show nI (d) < nI (c) from c56)
            exact HE c hcL hcd (Or.inr ⟨by omega, by rw [← hr]; exact (run_b hcL).1⟩)
          · have n56 := nlt_n (by omega) (by omega) (show ¬ nI (d) < nI (c) from c56)
            refine g_bipush (v := nI 10) h dX11_figures_59 (by decide) ?_
            refine g_iload h dX11_figures_61 rfl ?_
            refine g_imul h dX11_figures_63 ?_
            refine g_aload_n h dX11_figures_64 rfl rfl ?_
            refine g_aload_n h dX11_figures_65 rfl rfl ?_
            refine g_getI h fl_X11_97_10 sh_178 (by decide) rfl dX11_figures_66 ?_
            refine g_top mr_r11 ?_
            refine g_V h lv_X11_103_X11 sh_178 (by decide) rfl (c_X11_letter B f L (s + c) (-1) (s + c) (by omega) u hf hL hcL) (fitR hR (by first | decide | omega) (by decide) (by omega)) rfl rfl (Nat.le_of_ble_eq_true rfl) dX11_figures_69 ?_
            refine g_iadd h dX11_figures_72 ?_
            refine g_bipush (v := nI 48) h dX11_figures_73 (by decide) ?_
            refine g_isub h dX11_figures_75 ?_
            refine g_istore (ls' := [(0, _), (1, _), (2, _), (3, _), (4, _), (5, _)]) h dX11_figures_76 (by decide) rfl rfl ?_
            refine g_aload_n h dX11_figures_78 rfl rfl ?_
            refine g_dup h dX11_figures_79 rfl ?_
            refine g_getI h fl_X11_97_10 sh_178 (by decide) rfl dX11_figures_80 ?_
            refine g_top mr_r11 ?_
            refine g_iconst (v := nI 1) h dX11_figures_83 (by decide) ?_
            refine g_iadd h dX11_figures_84 ?_
            refine g_top (nI_1 (s + c)) ?_
            refine g_putI h pfl_X11_97_10 sh_178 (by decide) rfl dX11_figures_85 ?_
            refine g_sto mr_w11 ?_
            refine g_goto (tgt := 19) h dX11_figures_88 (by decide) ?_
            exact g_cv (by rw [nuF, Int32.mul_comm (nI 10)]) (by rw [Nat.add_assoc]) (ih (c + 1) (by omega) (by omega) (by omega) (by rw [← Nat.add_assoc]; exact (run_s (by omega) (decide_eq_true (b2_n0.mp c45))).symm.trans hr))
  refine g_aload_n h dX11_figures_0 rfl rfl ?_
  refine g_getI h fl_X11_25_10 sh_178 (by decide) rfl dX11_figures_1 ?_
  refine g_top mr_r12 ?_
  refine g_iconst (v := -1) h dX11_figures_4 (by decide) ?_
  refine g_icmp_eq (tgt := 10) h dX11_figures_5 (by decide) (fun c5 => ?_) (fun c5 => ?_)
  · refine g_aload_n h dX11_figures_10 rfl rfl ?_
    refine g_V h lv_X11_127_X11 sh_178 (by decide) rfl (c_X11_place B f L p (-1) u hf hL hp) (fitR hR (by first | decide | omega) (by decide) (by omega)) rfl rfl (Nat.le_of_ble_eq_true rfl) dX11_figures_11 ?_
    refine g_top (congrArg nI hsd) ?_
    refine g_sto (mr_pv (congrArg nI hsd)) ?_
    refine g_istore (ls' := [(0, _), (1, _), (2, _), (3, _), (4, _)]) h dX11_figures_14 (by decide) rfl rfl ?_
    refine g_iconst (v := nI 0) h dX11_figures_16 (by decide) ?_
    refine g_istore (ls' := [(0, _), (1, _), (2, _), (3, _), (4, _), (5, _)]) h dX11_figures_17 (by decide) rfl rfl ?_
    exact LP (d + 1) 0 (by omega) hs (by omega) rfl
  · exact absurd rfl c5
set_option maxHeartbeats 1000000 in
theorem c_X11_figures_x {E : EE} (B : Int32) (f : Nat → Int32) (L p : Nat) (w : Int32) (lo hi d : Int32) (hw : ¬ w = -1) (u : Sto) (hf : LF u B f) (hL : L ≤ 400) (hp : p ≤ L) : Ct E 4 0 yX11_figures cX11_figures 6 (some .int) [.ref (E.ad 178), .int lo, .int hi, .int d] (MR u B L p w) (.inl (some (.int (nI 0)))) ((MR u B L p w)) := by
  refine ct_of (by decide) (Nat.le_of_ble_eq_true rfl) (fun X h hR hrt htab hargs hini => ?_)
  refine g_aload_n h dX11_figures_0 rfl rfl ?_
  refine g_getI h fl_X11_25_10 sh_178 (by decide) rfl dX11_figures_1 ?_
  refine g_top mr_r12 ?_
  refine g_iconst (v := -1) h dX11_figures_4 (by decide) ?_
  refine g_icmp_eq (tgt := 10) h dX11_figures_5 (by decide) (fun c5 => ?_) (fun c5 => ?_)
  · exact absurd c5 hw
  · refine g_iconst (v := nI 0) h dX11_figures_8 (by decide) ?_
    exact g_iret h hrt dX11_figures_9 (by omega) (by rfl) rfl
set_option maxHeartbeats 1000000 in
theorem c_X11_must {E : EE} (B : Int32) (f : Nat → Int32) (L p : Nat) (i : Nat) (hi : i < strN) (hi0 : 0 < strLen.getD i 0) (u : Sto) (hf : LF u B f) (hL : L ≤ 400) (hp : p ≤ L) : Ct E 6 0 yX11_must cX11_must 2 none [.ref (E.ad 178), .ref (E.aK i)] (MR u B L p (-1)) (.inl none) ((if wdB f L (skp f L p) i = true then MR u B L (enN f L (skp f L p)) (-1) else MR u B L (skp f L p) (nI (skp f L p)))) := by
  have hs := (skp_b (f := f) hp).2
  refine ct_of (by decide) (Nat.le_of_ble_eq_true rfl) (fun X h hR hrt htab hargs hini => ?_)
  refine g_aload_n h dX11_must_0 rfl rfl ?_
  refine g_getI h fl_X11_25_10 sh_178 (by decide) rfl dX11_must_1 ?_
  refine g_top mr_r12 ?_
  refine g_iconst (v := -1) h dX11_must_4 (by decide) ?_
  refine g_icmp_ne (tgt := 24) h dX11_must_5 (by decide) (fun c5 => ?_) (fun c5 => ?_)
  · exact absurd rfl c5
  · refine g_aload_n h dX11_must_8 rfl rfl ?_
    refine g_aload_n h dX11_must_9 rfl rfl ?_
    refine g_V h lv_X11_119_X11 sh_178 (by decide) rfl (c_X11_has_ B f L p (-1) i hi hi0 u hf hL hp) (fitR hR (by first | decide | omega) (by decide) (by omega)) rfl rfl (Nat.le_of_ble_eq_true rfl) dX11_must_10 ?_
    by_cases n10 : wdB f L (skp f L p) i = true
    · refine g_top (b2_t n10) ?_
      refine g_sto (mr_pv (congrArg nI (if_pos n10))) ?_
      refine g_if_ne (tgt := 24) h dX11_must_13 (by decide) (fun _ => ?_) (fun q => absurd q (by decide))
      exact g_vret h hrt dX11_must_24 (by omega) rfl (if_pos n10)
    · refine g_top (b2_f n10) ?_
      refine g_sto (mr_pv (congrArg nI (if_neg n10))) ?_
      refine g_if_ne (tgt := 24) h dX11_must_13 (by decide) (fun q => absurd q (by decide)) (fun _ => ?_)
      refine g_aload_n h dX11_must_16 rfl rfl ?_
      refine g_aload_n h dX11_must_17 rfl rfl ?_
      refine g_getI h fl_X11_97_10 sh_178 (by decide) rfl dX11_must_18 ?_
      refine g_top mr_r11 ?_
      refine g_V h lv_X11_123_X11 sh_178 (by decide) rfl (c_X11_wrong B f L (skp f L p) (-1) (nI (skp f L p)) u hf hL hs) (fitR hR (by first | decide | omega) (by decide) (by omega)) rfl rfl (Nat.le_of_ble_eq_true rfl) dX11_must_21 ?_
      refine g_sto (mr_wv (if_pos rfl)) ?_
      exact g_vret h hrt dX11_must_24 (by omega) rfl (if_neg n10)
set_option maxHeartbeats 1000000 in
theorem c_X11_must_x {E : EE} (B : Int32) (f : Nat → Int32) (L p : Nat) (w : Int32) (i : Nat) (hw : ¬ w = -1) (u : Sto) (hf : LF u B f) (hL : L ≤ 400) (hp : p ≤ L) : Ct E 6 0 yX11_must cX11_must 2 none [.ref (E.ad 178), .ref (E.aK i)] (MR u B L p w) (.inl none) ((MR u B L p w)) := by
  refine ct_of (by decide) (Nat.le_of_ble_eq_true rfl) (fun X h hR hrt htab hargs hini => ?_)
  refine g_aload_n h dX11_must_0 rfl rfl ?_
  refine g_getI h fl_X11_25_10 sh_178 (by decide) rfl dX11_must_1 ?_
  refine g_top mr_r12 ?_
  refine g_iconst (v := -1) h dX11_must_4 (by decide) ?_
  refine g_icmp_ne (tgt := 24) h dX11_must_5 (by decide) (fun c5 => ?_) (fun c5 => ?_)
  · exact g_vret h hrt dX11_must_24 (by omega) rfl rfl
  · exact absurd c5 hw
