-- after: 38.r 39.s 40.t 47.str 48.tx 49.ty 50.tt 53.lw 59.mc 62.mf 70.na 71.nb 72.nc 73.nd
set_option maxHeartbeats 1000000 in
theorem c_X11_wantLine {E : EE} (B : Int32) (f : Nat → Int32) (L p : Nat) (T W : Nat) (hT : T ≤ 10) (hW : W ≤ 8) (hW8 : W < 8) (u : Sto) (hf : LF u B f) (hL : L ≤ 400) (h0 : p ≤ L) (hT1 : u 179 1 = nI T) (hW1 : u 179 9 = nI W) : CtP E 7 0 yX11_wantLine cX11_wantLine 6 none [.ref (E.ad 178)] (MR u B L (enN f L p) (-1)) (QV u T W B f L (wntD T W (moV u) f L p)) := by
  have q1 := (nx_b (f := f) h0).2
  have q2 := (nx_b (f := f) q1).2
  have q3 := (nx_b (f := f) q2).2
  have q4 := (nx_b (f := f) q3).2
  have q5 := (nx_b (f := f) q4).2
  have q6 := (nx_b (f := f) q5).2
  have q7 := (nx_b (f := f) q6).2
  have q8 := (nx_b (f := f) q7).2
  have e0 := (enN_b (f := f) h0).2
  have e1 := (enN_b (f := f) q1).2
  have e2 := (enN_b (f := f) q2).2
  have e3 := (enN_b (f := f) q3).2
  have e4 := (enN_b (f := f) q4).2
  have e5 := (enN_b (f := f) q5).2
  have e6 := (enN_b (f := f) q6).2
  have e7 := (enN_b (f := f) q7).2
  refine ctp_of (by decide) (Nat.le_of_ble_eq_true rfl) (fun X h hR hrt htab hargs => ?_)
  refine g_aload_n h dX11_wantLine_0 rfl rfl ?_
  refine g_VP h lv_X11_146_X11 sh_178 (by decide) rfl (c_X11_tenantHere B f L (enN f L p) (nx f L p) rfl T hT u hf hL e0 hT1) (by rintro Ex s (⟨_, h, _⟩ | ⟨_, _, _, _, h, _⟩) <;> exact nomatch h) (fitR hR (by first | decide | omega) (by decide) (by omega)) rfl rfl (Nat.le_of_ble_eq_true rfl) dX11_wantLine_1 (fun v1 u1 hs1 => ?_)
  rcases hs1 with ⟨n1, hv1, rfl⟩ | ⟨n1, x1, q9, hq9, hv1, rfl⟩
  · cases hv1
    refine g_istore_n (ls' := [(0, _), (1, _)]) h dX11_wantLine_4 rfl (by decide) rfl rfl ?_
    refine g_aload_n h dX11_wantLine_5 rfl rfl ?_
    refine g_iconst (v := nI 1) h dX11_wantLine_6 (by decide) ?_
    refine g_bipush (v := nI 20) h dX11_wantLine_7 (by decide) ?_
    refine g_iconst (v := nI 3) h dX11_wantLine_9 (by decide) ?_
    refine g_VP h lv_X11_130_X11 sh_178 (by decide) rfl (c_X11_figs B f L (enN f L (nx f L p)) (nx f L (nx f L p)) rfl 3 (by decide) (nI 1) (nI 20) u hf hL e1) (by rintro Ex s (⟨_, h, _⟩ | ⟨_, _, _, _, h, _⟩) <;> exact nomatch h) (fitR hR (by first | decide | omega) (by decide) (by omega)) rfl rfl (Nat.le_of_ble_eq_true rfl) dX11_wantLine_10 (fun v10 u10 hs10 => ?_)
    rcases hs10 with ⟨n10, hv10, rfl⟩ | ⟨n10, x10, q9, hq9, hv10, rfl⟩
    · cases hv10
      refine g_istore_n (ls' := [(0, _), (1, _), (2, _)]) h dX11_wantLine_13 rfl (by decide) rfl rfl ?_
      refine g_aload_n h dX11_wantLine_14 rfl rfl ?_
      refine g_ldcS (tx := "from") (k := 10) h (by decide) dX11_wantLine_15 ?_
      refine g_V h lv_X11_136_X11 sh_178 (by decide) rfl (c_X11_must B f L (enN f L (nx f L (nx f L p))) 10 (by decide) (by decide) u hf hL e2) (fitR hR (by first | decide | omega) (by decide) (by omega)) rfl rfl (Nat.le_of_ble_eq_true rfl) dX11_wantLine_17 ?_
      by_cases n17 : wdB f L (nx f L (nx f L (nx f L p))) 10 = true
      · refine g_sto (if_pos n17) ?_
        refine g_aload_n h dX11_wantLine_20 rfl rfl ?_
        refine g_iconst (v := nI 0) h dX11_wantLine_21 (by decide) ?_
        refine g_bipush (v := nI 23) h dX11_wantLine_22 (by decide) ?_
        refine g_iconst (v := nI 3) h dX11_wantLine_24 (by decide) ?_
        refine g_VP h lv_X11_130_X11 sh_178 (by decide) rfl (c_X11_figs B f L (enN f L (nx f L (nx f L (nx f L p)))) (nx f L (nx f L (nx f L (nx f L p)))) rfl 3 (by decide) (nI 0) (nI 23) u hf hL e3) (by rintro Ex s (⟨_, h, _⟩ | ⟨_, _, _, _, h, _⟩) <;> exact nomatch h) (fitR hR (by first | decide | omega) (by decide) (by omega)) rfl rfl (Nat.le_of_ble_eq_true rfl) dX11_wantLine_25 (fun v25 u25 hs25 => ?_)
        rcases hs25 with ⟨n25, hv25, rfl⟩ | ⟨n25, x25, q9, hq9, hv25, rfl⟩
        · cases hv25
          refine g_istore_n (ls' := [(0, _), (1, _), (2, _), (3, _)]) h dX11_wantLine_28 rfl (by decide) rfl rfl ?_
          refine g_aload_n h dX11_wantLine_29 rfl rfl ?_
          refine g_ldcS (tx := "to") (k := 2) h (by decide) dX11_wantLine_30 ?_
          refine g_V h lv_X11_136_X11 sh_178 (by decide) rfl (c_X11_must B f L (enN f L (nx f L (nx f L (nx f L (nx f L p))))) 2 (by decide) (by decide) u hf hL e4) (fitR hR (by first | decide | omega) (by decide) (by omega)) rfl rfl (Nat.le_of_ble_eq_true rfl) dX11_wantLine_32 ?_
          by_cases n32 : wdB f L (nx f L (nx f L (nx f L (nx f L (nx f L p))))) 2 = true
          · refine g_sto (if_pos n32) ?_
            refine g_aload_n h dX11_wantLine_35 rfl rfl ?_
            refine g_iload_n h dX11_wantLine_36 rfl rfl ?_
            refine g_bipush (v := nI 23) h dX11_wantLine_37 (by decide) ?_
            refine g_iconst (v := nI 3) h dX11_wantLine_39 (by decide) ?_
            refine g_VP h lv_X11_130_X11 sh_178 (by decide) rfl (c_X11_figs B f L (enN f L (nx f L (nx f L (nx f L (nx f L (nx f L p)))))) (nx f L (nx f L (nx f L (nx f L (nx f L (nx f L p)))))) rfl 3 (by decide) (nmI f L (nx f L (nx f L (nx f L (nx f L p))))) (nI 23) u hf hL e5) (by rintro Ex s (⟨_, h, _⟩ | ⟨_, _, _, _, h, _⟩) <;> exact nomatch h) (fitR hR (by first | decide | omega) (by decide) (by omega)) rfl rfl (Nat.le_of_ble_eq_true rfl) dX11_wantLine_40 (fun v40 u40 hs40 => ?_)
            rcases hs40 with ⟨n40, hv40, rfl⟩ | ⟨n40, x40, q9, hq9, hv40, rfl⟩
            · cases hv40
              refine g_istore (ls' := [(0, _), (1, _), (2, _), (3, _), (4, _)]) h dX11_wantLine_43 (by decide) rfl rfl ?_
              refine g_aload_n h dX11_wantLine_45 rfl rfl ?_
              refine g_getI h fl_X11_25_10 sh_178 (by decide) rfl dX11_wantLine_46 ?_
              refine g_top mr_r12 ?_
              refine g_iconst (v := -1) h dX11_wantLine_49 (by decide) ?_
              refine g_icmp_eq (tgt := 54) h dX11_wantLine_50 (by decide) (fun c50 => ?_) (fun c50 => ?_)
              · refine g_bipush (v := nI 56) h dX11_wantLine_54 (by decide) ?_
                refine g_iconst (v := nI 4) h dX11_wantLine_56 (by decide) ?_
                refine g_aload_n h dX11_wantLine_57 rfl rfl ?_
                refine g_getR h fl_X11_7_10 sh_178 (by decide) rfl dX11_wantLine_58 ?_
                refine g_bipush (v := nI 9) h dX11_wantLine_61 (by decide) ?_
                refine g_iald h _ _ _ sh_179 (by decide) (by decide) rfl (by omega) dX11_wantLine_63 ?_
                refine g_top (mr_o (by decide)) ?_
                refine g_top hW1 ?_
                refine g_imul h dX11_wantLine_64 ?_
                refine g_iadd h dX11_wantLine_65 ?_
                refine g_top (y := nI (56 + 4 * W)) (by rw [nI_mul]; exact nI_add 56 (4 * W)) ?_
                refine g_istore (ls' := [(0, _), (1, _), (2, _), (3, _), (4, _), (5, _)]) h dX11_wantLine_66 (by decide) rfl rfl ?_
                refine g_aload_n h dX11_wantLine_68 rfl rfl ?_
                refine g_getR h fl_X11_7_10 sh_178 (by decide) rfl dX11_wantLine_69 ?_
                refine g_iload h dX11_wantLine_72 rfl ?_
                refine g_iload_n h dX11_wantLine_74 rfl rfl ?_
                refine g_iast h _ _ _ sh_179 (by decide) (by decide) rfl (by omega) dX11_wantLine_75 ?_
                refine g_sto (mr_su (by decide)) ?_
                refine g_aload_n h dX11_wantLine_76 rfl rfl ?_
                refine g_getR h fl_X11_7_10 sh_178 (by decide) rfl dX11_wantLine_77 ?_
                refine g_iload h dX11_wantLine_80 rfl ?_
                refine g_iconst (v := nI 1) h dX11_wantLine_82 (by decide) ?_
                refine g_iadd h dX11_wantLine_83 ?_
                refine g_top (y := nI (57 + 4 * W)) ((nI_add (56 + 4 * W) 1).trans (congrArg nI (by omega))) ?_
                refine g_iload_n h dX11_wantLine_84 rfl rfl ?_
                refine g_iast h _ _ _ sh_179 (by decide) (by decide) rfl (by omega) dX11_wantLine_85 ?_
                refine g_sto (mr_su (by decide)) ?_
                refine g_aload_n h dX11_wantLine_86 rfl rfl ?_
                refine g_getR h fl_X11_7_10 sh_178 (by decide) rfl dX11_wantLine_87 ?_
                refine g_iload h dX11_wantLine_90 rfl ?_
                refine g_iconst (v := nI 2) h dX11_wantLine_92 (by decide) ?_
                refine g_iadd h dX11_wantLine_93 ?_
                refine g_top (y := nI (58 + 4 * W)) ((nI_add (56 + 4 * W) 2).trans (congrArg nI (by omega))) ?_
                refine g_iload_n h dX11_wantLine_94 rfl rfl ?_
                refine g_iast h _ _ _ sh_179 (by decide) (by decide) rfl (by omega) dX11_wantLine_95 ?_
                refine g_sto (mr_su (by decide)) ?_
                refine g_aload_n h dX11_wantLine_96 rfl rfl ?_
                refine g_getR h fl_X11_7_10 sh_178 (by decide) rfl dX11_wantLine_97 ?_
                refine g_iload h dX11_wantLine_100 rfl ?_
                refine g_iconst (v := nI 3) h dX11_wantLine_102 (by decide) ?_
                refine g_iadd h dX11_wantLine_103 ?_
                refine g_top (y := nI (59 + 4 * W)) ((nI_add (56 + 4 * W) 3).trans (congrArg nI (by omega))) ?_
                refine g_iload h dX11_wantLine_104 rfl ?_
                refine g_iast h _ _ _ sh_179 (by decide) (by decide) rfl (by omega) dX11_wantLine_106 ?_
                refine g_sto (mr_su (by decide)) ?_
                refine g_aload_n h dX11_wantLine_107 rfl rfl ?_
                refine g_getR h fl_X11_7_10 sh_178 (by decide) rfl dX11_wantLine_108 ?_
                refine g_bipush (v := nI 9) h dX11_wantLine_111 (by decide) ?_
                refine g_dup2 h dX11_wantLine_113 rfl rfl ?_
                refine g_iald h _ _ _ sh_179 (by decide) (by decide) rfl (by omega) dX11_wantLine_114 ?_
                refine g_top (mr_o (by decide)) ?_
                refine g_top (y := nI W) (su_v (by omega) (su_v (by omega) (su_v (by omega) (su_v (by omega) hW1)))) ?_
                refine g_iconst (v := nI 1) h dX11_wantLine_115 (by decide) ?_
                refine g_iadd h dX11_wantLine_116 ?_
                refine g_top (nI_1 W) ?_
                refine g_iast h _ _ _ sh_179 (by decide) (by decide) rfl (by omega) dX11_wantLine_117 ?_
                refine g_sto (mr_su (by decide)) ?_
                exact g_vretP h hrt dX11_wantLine_118 (by omega) (qv_k (by rw [wntD, if_pos hW8, if_pos n1, if_pos n10, if_pos n17, if_pos n25, if_pos n32, if_pos n40]; rfl) e6 rfl rfl)
              · exact absurd rfl c50
            · cases hv40
              have hw9 := nw q6 hL
              refine g_istore (ls' := [(0, _), (1, _), (2, _), (3, _), (4, _)]) h dX11_wantLine_43 (by decide) rfl rfl ?_
              refine g_aload_n h dX11_wantLine_45 rfl rfl ?_
              refine g_getI h fl_X11_25_10 sh_178 (by decide) rfl dX11_wantLine_46 ?_
              refine g_top mr_r12 ?_
              refine g_iconst (v := -1) h dX11_wantLine_49 (by decide) ?_
              refine g_icmp_eq (tgt := 54) h dX11_wantLine_50 (by decide) (fun c50 => ?_) (fun c50 => ?_)
              · exact absurd c50 hw9
              · exact g_vretP h hrt dX11_wantLine_53 (by omega) (qv_e (by rw [wntD, if_pos hW8, if_pos n1, if_pos n10, if_pos n17, if_pos n25, if_pos n32, if_neg n40]) (by first | assumption | exact (skp_b (by assumption)).2 | exact (skp_b (skp_b (by assumption)).2).2))
          · refine g_sto (if_neg n32) ?_
            have hw9 := nw q5 hL
            have hq9 : skp f L (enN f L (nx f L (nx f L (nx f L (nx f L p))))) ≤ L := q5
            refine g_aload_n h dX11_wantLine_35 rfl rfl ?_
            refine g_iload_n h dX11_wantLine_36 rfl rfl ?_
            refine g_bipush (v := nI 23) h dX11_wantLine_37 (by decide) ?_
            refine g_iconst (v := nI 3) h dX11_wantLine_39 (by decide) ?_
            refine g_V h lv_X11_130_X11 sh_178 (by decide) rfl (c_X11_figures_x B f L _ _ _ _ _ hw9 u hf hL (by first | assumption | exact (skp_b (by assumption)).2 | exact (skp_b (skp_b (by assumption)).2).2)) (fitR hR (by first | decide | omega) (by decide) (by omega)) rfl rfl (Nat.le_of_ble_eq_true rfl) dX11_wantLine_40 ?_
            refine g_istore (ls' := [(0, _), (1, _), (2, _), (3, _), (4, _)]) h dX11_wantLine_43 (by decide) rfl rfl ?_
            refine g_aload_n h dX11_wantLine_45 rfl rfl ?_
            refine g_getI h fl_X11_25_10 sh_178 (by decide) rfl dX11_wantLine_46 ?_
            refine g_top mr_r12 ?_
            refine g_iconst (v := -1) h dX11_wantLine_49 (by decide) ?_
            refine g_icmp_eq (tgt := 54) h dX11_wantLine_50 (by decide) (fun c50 => ?_) (fun c50 => ?_)
            · exact absurd c50 hw9
            · exact g_vretP h hrt dX11_wantLine_53 (by omega) (qv_e (by rw [wntD, if_pos hW8, if_pos n1, if_pos n10, if_pos n17, if_pos n25, if_neg n32]) (by first | assumption | exact (skp_b (by assumption)).2 | exact (skp_b (skp_b (by assumption)).2).2))
        · cases hv25
          have hw9 := nw q4 hL
          refine g_istore_n (ls' := [(0, _), (1, _), (2, _), (3, _)]) h dX11_wantLine_28 rfl (by decide) rfl rfl ?_
          refine g_aload_n h dX11_wantLine_29 rfl rfl ?_
          refine g_ldcS (tx := "to") (k := 2) h (by decide) dX11_wantLine_30 ?_
          refine g_V h lv_X11_136_X11 sh_178 (by decide) rfl (c_X11_must_x B f L _ _ _ hw9 u hf hL (by first | assumption | exact (skp_b (by assumption)).2 | exact (skp_b (skp_b (by assumption)).2).2)) (fitR hR (by first | decide | omega) (by decide) (by omega)) rfl rfl (Nat.le_of_ble_eq_true rfl) dX11_wantLine_32 ?_
          refine g_aload_n h dX11_wantLine_35 rfl rfl ?_
          refine g_iload_n h dX11_wantLine_36 rfl rfl ?_
          refine g_bipush (v := nI 23) h dX11_wantLine_37 (by decide) ?_
          refine g_iconst (v := nI 3) h dX11_wantLine_39 (by decide) ?_
          refine g_V h lv_X11_130_X11 sh_178 (by decide) rfl (c_X11_figures_x B f L _ _ _ _ _ hw9 u hf hL (by first | assumption | exact (skp_b (by assumption)).2 | exact (skp_b (skp_b (by assumption)).2).2)) (fitR hR (by first | decide | omega) (by decide) (by omega)) rfl rfl (Nat.le_of_ble_eq_true rfl) dX11_wantLine_40 ?_
          refine g_istore (ls' := [(0, _), (1, _), (2, _), (3, _), (4, _)]) h dX11_wantLine_43 (by decide) rfl rfl ?_
          refine g_aload_n h dX11_wantLine_45 rfl rfl ?_
          refine g_getI h fl_X11_25_10 sh_178 (by decide) rfl dX11_wantLine_46 ?_
          refine g_top mr_r12 ?_
          refine g_iconst (v := -1) h dX11_wantLine_49 (by decide) ?_
          refine g_icmp_eq (tgt := 54) h dX11_wantLine_50 (by decide) (fun c50 => ?_) (fun c50 => ?_)
          · exact absurd c50 hw9
          · exact g_vretP h hrt dX11_wantLine_53 (by omega) (qv_e (by rw [wntD, if_pos hW8, if_pos n1, if_pos n10, if_pos n17, if_neg n25]) (by first | assumption | exact (skp_b (by assumption)).2 | exact (skp_b (skp_b (by assumption)).2).2))
      · refine g_sto (if_neg n17) ?_
        have hw9 := nw q3 hL
        have hq9 : skp f L (enN f L (nx f L (nx f L p))) ≤ L := q3
        refine g_aload_n h dX11_wantLine_20 rfl rfl ?_
        refine g_iconst (v := nI 0) h dX11_wantLine_21 (by decide) ?_
        refine g_bipush (v := nI 23) h dX11_wantLine_22 (by decide) ?_
        refine g_iconst (v := nI 3) h dX11_wantLine_24 (by decide) ?_
        refine g_V h lv_X11_130_X11 sh_178 (by decide) rfl (c_X11_figures_x B f L _ _ _ _ _ hw9 u hf hL (by first | assumption | exact (skp_b (by assumption)).2 | exact (skp_b (skp_b (by assumption)).2).2)) (fitR hR (by first | decide | omega) (by decide) (by omega)) rfl rfl (Nat.le_of_ble_eq_true rfl) dX11_wantLine_25 ?_
        refine g_istore_n (ls' := [(0, _), (1, _), (2, _), (3, _)]) h dX11_wantLine_28 rfl (by decide) rfl rfl ?_
        refine g_aload_n h dX11_wantLine_29 rfl rfl ?_
        refine g_ldcS (tx := "to") (k := 2) h (by decide) dX11_wantLine_30 ?_
        refine g_V h lv_X11_136_X11 sh_178 (by decide) rfl (c_X11_must_x B f L _ _ _ hw9 u hf hL (by first | assumption | exact (skp_b (by assumption)).2 | exact (skp_b (skp_b (by assumption)).2).2)) (fitR hR (by first | decide | omega) (by decide) (by omega)) rfl rfl (Nat.le_of_ble_eq_true rfl) dX11_wantLine_32 ?_
        refine g_aload_n h dX11_wantLine_35 rfl rfl ?_
        refine g_iload_n h dX11_wantLine_36 rfl rfl ?_
        refine g_bipush (v := nI 23) h dX11_wantLine_37 (by decide) ?_
        refine g_iconst (v := nI 3) h dX11_wantLine_39 (by decide) ?_
        refine g_V h lv_X11_130_X11 sh_178 (by decide) rfl (c_X11_figures_x B f L _ _ _ _ _ hw9 u hf hL (by first | assumption | exact (skp_b (by assumption)).2 | exact (skp_b (skp_b (by assumption)).2).2)) (fitR hR (by first | decide | omega) (by decide) (by omega)) rfl rfl (Nat.le_of_ble_eq_true rfl) dX11_wantLine_40 ?_
        refine g_istore (ls' := [(0, _), (1, _), (2, _), (3, _), (4, _)]) h dX11_wantLine_43 (by decide) rfl rfl ?_
        refine g_aload_n h dX11_wantLine_45 rfl rfl ?_
        refine g_getI h fl_X11_25_10 sh_178 (by decide) rfl dX11_wantLine_46 ?_
        refine g_top mr_r12 ?_
        refine g_iconst (v := -1) h dX11_wantLine_49 (by decide) ?_
        refine g_icmp_eq (tgt := 54) h dX11_wantLine_50 (by decide) (fun c50 => ?_) (fun c50 => ?_)
        · exact absurd c50 hw9
        · exact g_vretP h hrt dX11_wantLine_53 (by omega) (qv_e (by rw [wntD, if_pos hW8, if_pos n1, if_pos n10, if_neg n17]) (by first | assumption | exact (skp_b (by assumption)).2 | exact (skp_b (skp_b (by assumption)).2).2))
    · cases hv10
      have hw9 := nw q2 hL
      refine g_istore_n (ls' := [(0, _), (1, _), (2, _)]) h dX11_wantLine_13 rfl (by decide) rfl rfl ?_
      refine g_aload_n h dX11_wantLine_14 rfl rfl ?_
      refine g_ldcS (tx := "from") (k := 10) h (by decide) dX11_wantLine_15 ?_
      refine g_V h lv_X11_136_X11 sh_178 (by decide) rfl (c_X11_must_x B f L _ _ _ hw9 u hf hL (by first | assumption | exact (skp_b (by assumption)).2 | exact (skp_b (skp_b (by assumption)).2).2)) (fitR hR (by first | decide | omega) (by decide) (by omega)) rfl rfl (Nat.le_of_ble_eq_true rfl) dX11_wantLine_17 ?_
      refine g_aload_n h dX11_wantLine_20 rfl rfl ?_
      refine g_iconst (v := nI 0) h dX11_wantLine_21 (by decide) ?_
      refine g_bipush (v := nI 23) h dX11_wantLine_22 (by decide) ?_
      refine g_iconst (v := nI 3) h dX11_wantLine_24 (by decide) ?_
      refine g_V h lv_X11_130_X11 sh_178 (by decide) rfl (c_X11_figures_x B f L _ _ _ _ _ hw9 u hf hL (by first | assumption | exact (skp_b (by assumption)).2 | exact (skp_b (skp_b (by assumption)).2).2)) (fitR hR (by first | decide | omega) (by decide) (by omega)) rfl rfl (Nat.le_of_ble_eq_true rfl) dX11_wantLine_25 ?_
      refine g_istore_n (ls' := [(0, _), (1, _), (2, _), (3, _)]) h dX11_wantLine_28 rfl (by decide) rfl rfl ?_
      refine g_aload_n h dX11_wantLine_29 rfl rfl ?_
      refine g_ldcS (tx := "to") (k := 2) h (by decide) dX11_wantLine_30 ?_
      refine g_V h lv_X11_136_X11 sh_178 (by decide) rfl (c_X11_must_x B f L _ _ _ hw9 u hf hL (by first | assumption | exact (skp_b (by assumption)).2 | exact (skp_b (skp_b (by assumption)).2).2)) (fitR hR (by first | decide | omega) (by decide) (by omega)) rfl rfl (Nat.le_of_ble_eq_true rfl) dX11_wantLine_32 ?_
      refine g_aload_n h dX11_wantLine_35 rfl rfl ?_
      refine g_iload_n h dX11_wantLine_36 rfl rfl ?_
      refine g_bipush (v := nI 23) h dX11_wantLine_37 (by decide) ?_
      refine g_iconst (v := nI 3) h dX11_wantLine_39 (by decide) ?_
      refine g_V h lv_X11_130_X11 sh_178 (by decide) rfl (c_X11_figures_x B f L _ _ _ _ _ hw9 u hf hL (by first | assumption | exact (skp_b (by assumption)).2 | exact (skp_b (skp_b (by assumption)).2).2)) (fitR hR (by first | decide | omega) (by decide) (by omega)) rfl rfl (Nat.le_of_ble_eq_true rfl) dX11_wantLine_40 ?_
      refine g_istore (ls' := [(0, _), (1, _), (2, _), (3, _), (4, _)]) h dX11_wantLine_43 (by decide) rfl rfl ?_
      refine g_aload_n h dX11_wantLine_45 rfl rfl ?_
      refine g_getI h fl_X11_25_10 sh_178 (by decide) rfl dX11_wantLine_46 ?_
      refine g_top mr_r12 ?_
      refine g_iconst (v := -1) h dX11_wantLine_49 (by decide) ?_
      refine g_icmp_eq (tgt := 54) h dX11_wantLine_50 (by decide) (fun c50 => ?_) (fun c50 => ?_)
      · exact absurd c50 hw9
      · exact g_vretP h hrt dX11_wantLine_53 (by omega) (qv_e (by rw [wntD, if_pos hW8, if_pos n1, if_neg n10]) (by first | assumption | exact (skp_b (by assumption)).2 | exact (skp_b (skp_b (by assumption)).2).2))
  · cases hv1
    have hw9 := nw q1 hL
    refine g_istore_n (ls' := [(0, _), (1, _)]) h dX11_wantLine_4 rfl (by decide) rfl rfl ?_
    refine g_aload_n h dX11_wantLine_5 rfl rfl ?_
    refine g_iconst (v := nI 1) h dX11_wantLine_6 (by decide) ?_
    refine g_bipush (v := nI 20) h dX11_wantLine_7 (by decide) ?_
    refine g_iconst (v := nI 3) h dX11_wantLine_9 (by decide) ?_
    refine g_V h lv_X11_130_X11 sh_178 (by decide) rfl (c_X11_figures_x B f L _ _ _ _ _ hw9 u hf hL (by first | assumption | exact (skp_b (by assumption)).2 | exact (skp_b (skp_b (by assumption)).2).2)) (fitR hR (by first | decide | omega) (by decide) (by omega)) rfl rfl (Nat.le_of_ble_eq_true rfl) dX11_wantLine_10 ?_
    refine g_istore_n (ls' := [(0, _), (1, _), (2, _)]) h dX11_wantLine_13 rfl (by decide) rfl rfl ?_
    refine g_aload_n h dX11_wantLine_14 rfl rfl ?_
    refine g_ldcS (tx := "from") (k := 10) h (by decide) dX11_wantLine_15 ?_
    refine g_V h lv_X11_136_X11 sh_178 (by decide) rfl (c_X11_must_x B f L _ _ _ hw9 u hf hL (by first | assumption | exact (skp_b (by assumption)).2 | exact (skp_b (skp_b (by assumption)).2).2)) (fitR hR (by first | decide | omega) (by decide) (by omega)) rfl rfl (Nat.le_of_ble_eq_true rfl) dX11_wantLine_17 ?_
    refine g_aload_n h dX11_wantLine_20 rfl rfl ?_
    refine g_iconst (v := nI 0) h dX11_wantLine_21 (by decide) ?_
    refine g_bipush (v := nI 23) h dX11_wantLine_22 (by decide) ?_
    refine g_iconst (v := nI 3) h dX11_wantLine_24 (by decide) ?_
    refine g_V h lv_X11_130_X11 sh_178 (by decide) rfl (c_X11_figures_x B f L _ _ _ _ _ hw9 u hf hL (by first | assumption | exact (skp_b (by assumption)).2 | exact (skp_b (skp_b (by assumption)).2).2)) (fitR hR (by first | decide | omega) (by decide) (by omega)) rfl rfl (Nat.le_of_ble_eq_true rfl) dX11_wantLine_25 ?_
    refine g_istore_n (ls' := [(0, _), (1, _), (2, _), (3, _)]) h dX11_wantLine_28 rfl (by decide) rfl rfl ?_
    refine g_aload_n h dX11_wantLine_29 rfl rfl ?_
    refine g_ldcS (tx := "to") (k := 2) h (by decide) dX11_wantLine_30 ?_
    refine g_V h lv_X11_136_X11 sh_178 (by decide) rfl (c_X11_must_x B f L _ _ _ hw9 u hf hL (by first | assumption | exact (skp_b (by assumption)).2 | exact (skp_b (skp_b (by assumption)).2).2)) (fitR hR (by first | decide | omega) (by decide) (by omega)) rfl rfl (Nat.le_of_ble_eq_true rfl) dX11_wantLine_32 ?_
    refine g_aload_n h dX11_wantLine_35 rfl rfl ?_
    refine g_iload_n h dX11_wantLine_36 rfl rfl ?_
    refine g_bipush (v := nI 23) h dX11_wantLine_37 (by decide) ?_
    refine g_iconst (v := nI 3) h dX11_wantLine_39 (by decide) ?_
    refine g_V h lv_X11_130_X11 sh_178 (by decide) rfl (c_X11_figures_x B f L _ _ _ _ _ hw9 u hf hL (by first | assumption | exact (skp_b (by assumption)).2 | exact (skp_b (skp_b (by assumption)).2).2)) (fitR hR (by first | decide | omega) (by decide) (by omega)) rfl rfl (Nat.le_of_ble_eq_true rfl) dX11_wantLine_40 ?_
    refine g_istore (ls' := [(0, _), (1, _), (2, _), (3, _), (4, _)]) h dX11_wantLine_43 (by decide) rfl rfl ?_
    refine g_aload_n h dX11_wantLine_45 rfl rfl ?_
    refine g_getI h fl_X11_25_10 sh_178 (by decide) rfl dX11_wantLine_46 ?_
    refine g_top mr_r12 ?_
    refine g_iconst (v := -1) h dX11_wantLine_49 (by decide) ?_
    refine g_icmp_eq (tgt := 54) h dX11_wantLine_50 (by decide) (fun c50 => ?_) (fun c50 => ?_)
    · exact absurd c50 hw9
    · exact g_vretP h hrt dX11_wantLine_53 (by omega) (qv_e (by rw [wntD, if_pos hW8, if_neg n1]) (by first | assumption | exact (skp_b (by assumption)).2 | exact (skp_b (skp_b (by assumption)).2).2))
set_option maxHeartbeats 1000000 in
theorem c_X11_wantLine_x {E : EE} (B : Int32) (f : Nat → Int32) (L p : Nat) (w : Int32) (hw9 : ¬ w = -1) (T : Nat) (u : Sto) (hf : LF u B f) (hL : L ≤ 400) (hp : p ≤ L) (hT1 : u 179 1 = nI T) : CtP E 7 0 yX11_wantLine cX11_wantLine 6 none [.ref (E.ad 178)] (MR u B L p w) (fun o t => o = .inl none ∧ ∃ q, q ≤ L ∧ t = MR u B L q w) := by
  have hq9 := (skp_b (f := f) hp).2
  refine ctp_of (by decide) (Nat.le_of_ble_eq_true rfl) (fun X h hR hrt htab hargs => ?_)
  refine g_aload_n h dX11_wantLine_0 rfl rfl ?_
  refine g_V h lv_X11_146_X11 sh_178 (by decide) rfl (c_X11_tenantHere_x B f L p w hw9 T u hf hL hp hT1) (fitR hR (by first | decide | omega) (by decide) (by omega)) rfl rfl (Nat.le_of_ble_eq_true rfl) dX11_wantLine_1 ?_
  refine g_istore_n (ls' := [(0, _), (1, _)]) h dX11_wantLine_4 rfl (by decide) rfl rfl ?_
  refine g_aload_n h dX11_wantLine_5 rfl rfl ?_
  refine g_iconst (v := nI 1) h dX11_wantLine_6 (by decide) ?_
  refine g_bipush (v := nI 20) h dX11_wantLine_7 (by decide) ?_
  refine g_iconst (v := nI 3) h dX11_wantLine_9 (by decide) ?_
  refine g_V h lv_X11_130_X11 sh_178 (by decide) rfl (c_X11_figures_x B f L _ _ _ _ _ hw9 u hf hL hq9) (fitR hR (by first | decide | omega) (by decide) (by omega)) rfl rfl (Nat.le_of_ble_eq_true rfl) dX11_wantLine_10 ?_
  refine g_istore_n (ls' := [(0, _), (1, _), (2, _)]) h dX11_wantLine_13 rfl (by decide) rfl rfl ?_
  refine g_aload_n h dX11_wantLine_14 rfl rfl ?_
  refine g_ldcS (tx := "from") (k := 10) h (by decide) dX11_wantLine_15 ?_
  refine g_V h lv_X11_136_X11 sh_178 (by decide) rfl (c_X11_must_x B f L _ _ _ hw9 u hf hL hq9) (fitR hR (by first | decide | omega) (by decide) (by omega)) rfl rfl (Nat.le_of_ble_eq_true rfl) dX11_wantLine_17 ?_
  refine g_aload_n h dX11_wantLine_20 rfl rfl ?_
  refine g_iconst (v := nI 0) h dX11_wantLine_21 (by decide) ?_
  refine g_bipush (v := nI 23) h dX11_wantLine_22 (by decide) ?_
  refine g_iconst (v := nI 3) h dX11_wantLine_24 (by decide) ?_
  refine g_V h lv_X11_130_X11 sh_178 (by decide) rfl (c_X11_figures_x B f L _ _ _ _ _ hw9 u hf hL hq9) (fitR hR (by first | decide | omega) (by decide) (by omega)) rfl rfl (Nat.le_of_ble_eq_true rfl) dX11_wantLine_25 ?_
  refine g_istore_n (ls' := [(0, _), (1, _), (2, _), (3, _)]) h dX11_wantLine_28 rfl (by decide) rfl rfl ?_
  refine g_aload_n h dX11_wantLine_29 rfl rfl ?_
  refine g_ldcS (tx := "to") (k := 2) h (by decide) dX11_wantLine_30 ?_
  refine g_V h lv_X11_136_X11 sh_178 (by decide) rfl (c_X11_must_x B f L _ _ _ hw9 u hf hL hq9) (fitR hR (by first | decide | omega) (by decide) (by omega)) rfl rfl (Nat.le_of_ble_eq_true rfl) dX11_wantLine_32 ?_
  refine g_aload_n h dX11_wantLine_35 rfl rfl ?_
  refine g_iload_n h dX11_wantLine_36 rfl rfl ?_
  refine g_bipush (v := nI 23) h dX11_wantLine_37 (by decide) ?_
  refine g_iconst (v := nI 3) h dX11_wantLine_39 (by decide) ?_
  refine g_V h lv_X11_130_X11 sh_178 (by decide) rfl (c_X11_figures_x B f L _ _ _ _ _ hw9 u hf hL hq9) (fitR hR (by first | decide | omega) (by decide) (by omega)) rfl rfl (Nat.le_of_ble_eq_true rfl) dX11_wantLine_40 ?_
  refine g_istore (ls' := [(0, _), (1, _), (2, _), (3, _), (4, _)]) h dX11_wantLine_43 (by decide) rfl rfl ?_
  refine g_aload_n h dX11_wantLine_45 rfl rfl ?_
  refine g_getI h fl_X11_25_10 sh_178 (by decide) rfl dX11_wantLine_46 ?_
  refine g_top mr_r12 ?_
  refine g_iconst (v := -1) h dX11_wantLine_49 (by decide) ?_
  refine g_icmp_eq (tgt := 54) h dX11_wantLine_50 (by decide) (fun c50 => ?_) (fun c50 => ?_)
  · exact absurd c50 hw9
  · exact g_vretP h hrt dX11_wantLine_53 (by omega) ⟨rfl, _, hq9, rfl⟩
theorem rh_t {x O : Int32} (h : ¬ x = -1) (hO : O = nI 0 ∨ O = nI 1) : (O = nI 1 ↔ ¬ x = -1) ↔ nI 1 = O := by
  rcases hO with rfl | rfl
  · simp [h]; decide
  · simp [h]
theorem rh_f {x O : Int32} (h : x = -1) (hO : O = nI 0 ∨ O = nI 1) : (O = nI 1 ↔ ¬ x = -1) ↔ nI 0 = O := by
  rcases hO with rfl | rfl
  · simp [h]; decide
  · simp [h]; decide
set_option maxHeartbeats 1000000 in
theorem c_X11_roomHere {E : EE} (B : Int32) (f : Nat → Int32) (L p : Nat) (O : Int32) (hO : O = nI 0 ∨ O = nI 1) (u : Sto) (hf : LF u B f) (hL : L ≤ 400) (h0 : p ≤ L) : CtP E 5 0 yX11_roomHere cX11_roomHere 5 (some .int) [.ref (E.ad 178), .int O] (MR u B L (enN f L p) (-1)) (fun o t => (¬ nuP f L (nx f L p) 3 (nI 0) (nI 6) ∧ ∃ x q, q ≤ L ∧ o = .inl (some (.int x)) ∧ t = MR u B L q (nI (nx f L p))) ∨ (nuP f L (nx f L p) 3 (nI 0) (nI 6) ∧ ¬ nuP f L (nx f L (nx f L p)) 3 (nI 0) (nI 23) ∧ ∃ x q, q ≤ L ∧ o = .inl (some (.int x)) ∧ t = MR u B L q (nI (nx f L (nx f L p)))) ∨ (nuP f L (nx f L p) 3 (nI 0) (nI 6) ∧ nuP f L (nx f L (nx f L p)) 3 (nI 0) (nI 23) ∧ ¬ (O = nI 1 ↔ ¬ owV u (ix (nmI f L (nx f L p)) * 24 + ix (nmI f L (nx f L (nx f L p)))) = -1) ∧ ∃ x q, q ≤ L ∧ o = .inl (some (.int x)) ∧ t = MR u B L q (nI (nx f L (nx f L p)))) ∨ (nuP f L (nx f L p) 3 (nI 0) (nI 6) ∧ nuP f L (nx f L (nx f L p)) 3 (nI 0) (nI 23) ∧ (O = nI 1 ↔ ¬ owV u (ix (nmI f L (nx f L p)) * 24 + ix (nmI f L (nx f L (nx f L p)))) = -1) ∧ o = .inl (some (.int (nI (ix (nmI f L (nx f L p)) * 24 + ix (nmI f L (nx f L (nx f L p))))))) ∧ t = MR u B L (enN f L (nx f L (nx f L p))) (-1))) := by
  have q1 := (nx_b (f := f) h0).2
  have q2 := (nx_b (f := f) q1).2
  have q3 := (nx_b (f := f) q2).2
  have q4 := (nx_b (f := f) q3).2
  have q5 := (nx_b (f := f) q4).2
  have q6 := (nx_b (f := f) q5).2
  have q7 := (nx_b (f := f) q6).2
  have q8 := (nx_b (f := f) q7).2
  have e0 := (enN_b (f := f) h0).2
  have e1 := (enN_b (f := f) q1).2
  have e2 := (enN_b (f := f) q2).2
  have e3 := (enN_b (f := f) q3).2
  have e4 := (enN_b (f := f) q4).2
  have e5 := (enN_b (f := f) q5).2
  have e6 := (enN_b (f := f) q6).2
  have e7 := (enN_b (f := f) q7).2
  refine ctp_of (by decide) (Nat.le_of_ble_eq_true rfl) (fun X h hR hrt htab hargs => ?_)
  refine g_aload_n h dX11_roomHere_0 rfl rfl ?_
  refine g_iconst (v := nI 0) h dX11_roomHere_1 (by decide) ?_
  refine g_bipush (v := nI 6) h dX11_roomHere_2 (by decide) ?_
  refine g_iconst (v := nI 3) h dX11_roomHere_4 (by decide) ?_
  refine g_VP h lv_X11_130_X11 sh_178 (by decide) rfl (c_X11_figs B f L (enN f L p) (nx f L p) rfl 3 (by decide) (nI 0) (nI 6) u hf hL e0) (by rintro Ex s (⟨_, h, _⟩ | ⟨_, _, _, _, h, _⟩) <;> exact nomatch h) (fitR hR (by first | decide | omega) (by decide) (by omega)) rfl rfl (Nat.le_of_ble_eq_true rfl) dX11_roomHere_5 (fun v5 u5 hs5 => ?_)
  rcases hs5 with ⟨n5, hv5, rfl⟩ | ⟨n5, x5, q9, hq9, hv5, rfl⟩
  · cases hv5
    refine g_istore_n (ls' := [(0, _), (1, _), (2, _)]) h dX11_roomHere_8 rfl (by decide) rfl rfl ?_
    refine g_aload_n h dX11_roomHere_9 rfl rfl ?_
    refine g_V h lv_X11_127_X11 sh_178 (by decide) rfl (c_X11_place B f L (enN f L (nx f L p)) (-1) u hf hL e1) (fitR hR (by first | decide | omega) (by decide) (by omega)) rfl rfl (Nat.le_of_ble_eq_true rfl) dX11_roomHere_10 ?_
    refine g_istore_n (ls' := [(0, _), (1, _), (2, _), (3, _)]) h dX11_roomHere_13 rfl (by decide) rfl rfl ?_
    refine g_aload_n h dX11_roomHere_14 rfl rfl ?_
    refine g_iconst (v := nI 0) h dX11_roomHere_15 (by decide) ?_
    refine g_bipush (v := nI 23) h dX11_roomHere_16 (by decide) ?_
    refine g_iconst (v := nI 3) h dX11_roomHere_18 (by decide) ?_
    refine g_VP h lv_X11_130_X11 sh_178 (by decide) rfl (c_X11_figs B f L (nx f L (nx f L p)) (nx f L (nx f L p)) (sk_sk (Nat.le_refl _)) 3 (by decide) (nI 0) (nI 23) u hf hL q2) (by rintro Ex s (⟨_, h, _⟩ | ⟨_, _, _, _, h, _⟩) <;> exact nomatch h) (fitR hR (by first | decide | omega) (by decide) (by omega)) rfl rfl (Nat.le_of_ble_eq_true rfl) dX11_roomHere_19 (fun v19 u19 hs19 => ?_)
    rcases hs19 with ⟨n19, hv19, rfl⟩ | ⟨n19, x19, q9, hq9, hv19, rfl⟩
    · cases hv19
      refine g_istore (ls' := [(0, _), (1, _), (2, _), (3, _), (4, _)]) h dX11_roomHere_22 (by decide) rfl rfl ?_
      refine g_aload_n h dX11_roomHere_24 rfl rfl ?_
      refine g_getI h fl_X11_25_10 sh_178 (by decide) rfl dX11_roomHere_25 ?_
      refine g_top mr_r12 ?_
      refine g_iconst (v := -1) h dX11_roomHere_28 (by decide) ?_
      refine g_icmp_ne (tgt := 62) h dX11_roomHere_29 (by decide) (fun c29 => ?_) (fun c29 => ?_)
      · exact absurd rfl c29
      · obtain ⟨k1, z1, _, f1⟩ := nu_ix n5
        obtain ⟨k2, z2, _, f2⟩ := nu_ix n19
        have x1 : ix (nmI f L (nx f L p)) = k1 := by rw [z1]; exact ix_nI (by omega)
        have x2 : ix (nmI f L (nx f L (nx f L p))) = k2 := by rw [z2]; exact ix_nI (by omega)
        have hr9 : ix (nmI f L (nx f L p)) * 24 + ix (nmI f L (nx f L (nx f L p))) < 168 := by rw [x1, x2]; omega
        refine g_aload_n h dX11_roomHere_32 rfl rfl ?_
        refine g_bipush (v := nI 24) h dX11_roomHere_33 (by decide) ?_
        refine g_iload_n h dX11_roomHere_35 rfl rfl ?_
        refine g_imul h dX11_roomHere_36 ?_
        refine g_iload h dX11_roomHere_37 rfl ?_
        refine g_iadd h dX11_roomHere_39 ?_
        refine g_top (y := nI (ix (nmI f L (nx f L p)) * 24 + ix (nmI f L (nx f L (nx f L p))))) (by rw [x1, x2, z1, z2, nI_mul, Nat.mul_comm]; exact nI_add _ _) ?_
        refine g_iconst (v := nI 0) h dX11_roomHere_40 (by decide) ?_
        refine g_V h lv_X11_84_X11 sh_178 (by decide) rfl (c_X11_ofRoom (ix (nmI f L (nx f L p)) * 24 + ix (nmI f L (nx f L (nx f L p)))) 0 hr9 (by decide) _) (fitR hR (by first | decide | omega) (by decide) (by omega)) rfl rfl (Nat.le_of_ble_eq_true rfl) dX11_roomHere_41 ?_
        refine g_top (y := owV u (ix (nmI f L (nx f L p)) * 24 + ix (nmI f L (nx f L (nx f L p))))) (congrFun (mr_oc (by decide)) _) ?_
        refine g_iconst (v := -1) h dX11_roomHere_44 (by decide) ?_
        refine g_icmp_eq (tgt := 52) h dX11_roomHere_45 (by decide) (fun c45 => ?_) (fun c45 => ?_)
        · have hz0 : owV u (ix (nmI f L (nx f L p)) * 24 + ix (nmI f L (nx f L (nx f L p)))) = -1 := c45
          refine g_iconst (v := nI 0) h dX11_roomHere_52 (by decide) ?_
          refine g_iload_n h dX11_roomHere_53 rfl rfl ?_
          refine g_icmp_eq (tgt := 62) h dX11_roomHere_54 (by decide) (fun c54 => ?_) (fun c54 => ?_)
          · refine g_aload_n h dX11_roomHere_62 rfl rfl ?_
            refine g_getI h fl_X11_25_10 sh_178 (by decide) rfl dX11_roomHere_63 ?_
            refine g_top mr_r12 ?_
            refine g_iconst (v := -1) h dX11_roomHere_66 (by decide) ?_
            refine g_icmp_ne (tgt := 80) h dX11_roomHere_67 (by decide) (fun c67 => ?_) (fun c67 => ?_)
            · exact absurd rfl c67
            · refine g_bipush (v := nI 24) h dX11_roomHere_70 (by decide) ?_
              refine g_iload_n h dX11_roomHere_72 rfl rfl ?_
              refine g_imul h dX11_roomHere_73 ?_
              refine g_iload h dX11_roomHere_74 rfl ?_
              refine g_iadd h dX11_roomHere_76 ?_
              refine g_top (y := nI (ix (nmI f L (nx f L p)) * 24 + ix (nmI f L (nx f L (nx f L p))))) (by rw [x1, x2, z1, z2, nI_mul, Nat.mul_comm]; exact nI_add _ _) ?_
              refine g_goto (tgt := 81) h dX11_roomHere_77 (by decide) ?_
              exact g_iretP h hrt dX11_roomHere_81 (by omega) (Or.inr (Or.inr (Or.inr ⟨n5, n19, (rh_f hz0 hO).mpr c54, rfl, rfl⟩)))
          · refine g_aload_n h dX11_roomHere_57 rfl rfl ?_
            refine g_iload_n h dX11_roomHere_58 rfl rfl ?_
            refine g_V h lv_X11_123_X11 sh_178 (by decide) rfl (c_X11_wrong B f L (enN f L (nx f L (nx f L p))) (-1) (nI (nx f L (nx f L p))) u hf hL e2) (fitR hR (by first | decide | omega) (by decide) (by omega)) rfl rfl (Nat.le_of_ble_eq_true rfl) dX11_roomHere_59 ?_
            refine g_sto (mr_wv (if_pos rfl)) ?_
            have hw9 := nw q2 hL
            refine g_aload_n h dX11_roomHere_62 rfl rfl ?_
            refine g_getI h fl_X11_25_10 sh_178 (by decide) rfl dX11_roomHere_63 ?_
            refine g_top mr_r12 ?_
            refine g_iconst (v := -1) h dX11_roomHere_66 (by decide) ?_
            refine g_icmp_ne (tgt := 80) h dX11_roomHere_67 (by decide) (fun c67 => ?_) (fun c67 => ?_)
            · refine g_iconst (v := nI 0) h dX11_roomHere_80 (by decide) ?_
              exact g_iretP h hrt dX11_roomHere_81 (by omega) (Or.inr (Or.inr (Or.inl ⟨n5, n19, fun z => c54 ((rh_f hz0 hO).mp z), _, _, e2, rfl, rfl⟩)))
            · exact absurd c67 hw9
        · have hz0 : ¬ owV u (ix (nmI f L (nx f L p)) * 24 + ix (nmI f L (nx f L (nx f L p)))) = -1 := c45
          refine g_iconst (v := nI 1) h dX11_roomHere_48 (by decide) ?_
          refine g_goto (tgt := 53) h dX11_roomHere_49 (by decide) ?_
          refine g_iload_n h dX11_roomHere_53 rfl rfl ?_
          refine g_icmp_eq (tgt := 62) h dX11_roomHere_54 (by decide) (fun c54 => ?_) (fun c54 => ?_)
          · refine g_aload_n h dX11_roomHere_62 rfl rfl ?_
            refine g_getI h fl_X11_25_10 sh_178 (by decide) rfl dX11_roomHere_63 ?_
            refine g_top mr_r12 ?_
            refine g_iconst (v := -1) h dX11_roomHere_66 (by decide) ?_
            refine g_icmp_ne (tgt := 80) h dX11_roomHere_67 (by decide) (fun c67 => ?_) (fun c67 => ?_)
            · exact absurd rfl c67
            · refine g_bipush (v := nI 24) h dX11_roomHere_70 (by decide) ?_
              refine g_iload_n h dX11_roomHere_72 rfl rfl ?_
              refine g_imul h dX11_roomHere_73 ?_
              refine g_iload h dX11_roomHere_74 rfl ?_
              refine g_iadd h dX11_roomHere_76 ?_
              refine g_top (y := nI (ix (nmI f L (nx f L p)) * 24 + ix (nmI f L (nx f L (nx f L p))))) (by rw [x1, x2, z1, z2, nI_mul, Nat.mul_comm]; exact nI_add _ _) ?_
              refine g_goto (tgt := 81) h dX11_roomHere_77 (by decide) ?_
              exact g_iretP h hrt dX11_roomHere_81 (by omega) (Or.inr (Or.inr (Or.inr ⟨n5, n19, (rh_t hz0 hO).mpr c54, rfl, rfl⟩)))
          · refine g_aload_n h dX11_roomHere_57 rfl rfl ?_
            refine g_iload_n h dX11_roomHere_58 rfl rfl ?_
            refine g_V h lv_X11_123_X11 sh_178 (by decide) rfl (c_X11_wrong B f L (enN f L (nx f L (nx f L p))) (-1) (nI (nx f L (nx f L p))) u hf hL e2) (fitR hR (by first | decide | omega) (by decide) (by omega)) rfl rfl (Nat.le_of_ble_eq_true rfl) dX11_roomHere_59 ?_
            refine g_sto (mr_wv (if_pos rfl)) ?_
            have hw9 := nw q2 hL
            refine g_aload_n h dX11_roomHere_62 rfl rfl ?_
            refine g_getI h fl_X11_25_10 sh_178 (by decide) rfl dX11_roomHere_63 ?_
            refine g_top mr_r12 ?_
            refine g_iconst (v := -1) h dX11_roomHere_66 (by decide) ?_
            refine g_icmp_ne (tgt := 80) h dX11_roomHere_67 (by decide) (fun c67 => ?_) (fun c67 => ?_)
            · refine g_iconst (v := nI 0) h dX11_roomHere_80 (by decide) ?_
              exact g_iretP h hrt dX11_roomHere_81 (by omega) (Or.inr (Or.inr (Or.inl ⟨n5, n19, fun z => c54 ((rh_t hz0 hO).mp z), _, _, e2, rfl, rfl⟩)))
            · exact absurd c67 hw9
    · cases hv19
      have hw9 := nw q2 hL
      refine g_istore (ls' := [(0, _), (1, _), (2, _), (3, _), (4, _)]) h dX11_roomHere_22 (by decide) rfl rfl ?_
      refine g_aload_n h dX11_roomHere_24 rfl rfl ?_
      refine g_getI h fl_X11_25_10 sh_178 (by decide) rfl dX11_roomHere_25 ?_
      refine g_top mr_r12 ?_
      refine g_iconst (v := -1) h dX11_roomHere_28 (by decide) ?_
      refine g_icmp_ne (tgt := 62) h dX11_roomHere_29 (by decide) (fun c29 => ?_) (fun c29 => ?_)
      · refine g_aload_n h dX11_roomHere_62 rfl rfl ?_
        refine g_getI h fl_X11_25_10 sh_178 (by decide) rfl dX11_roomHere_63 ?_
        refine g_top mr_r12 ?_
        refine g_iconst (v := -1) h dX11_roomHere_66 (by decide) ?_
        refine g_icmp_ne (tgt := 80) h dX11_roomHere_67 (by decide) (fun c67 => ?_) (fun c67 => ?_)
        · refine g_iconst (v := nI 0) h dX11_roomHere_80 (by decide) ?_
          exact g_iretP h hrt dX11_roomHere_81 (by omega) (Or.inr (Or.inl ⟨n5, n19, _, _, (by first | assumption | exact (skp_b (by assumption)).2 | exact (skp_b (skp_b (by assumption)).2).2), rfl, rfl⟩))
        · exact absurd c67 hw9
      · exact absurd c29 hw9
  · cases hv5
    have hw9 := nw q1 hL
    refine g_istore_n (ls' := [(0, _), (1, _), (2, _)]) h dX11_roomHere_8 rfl (by decide) rfl rfl ?_
    refine g_aload_n h dX11_roomHere_9 rfl rfl ?_
    refine g_V h lv_X11_127_X11 sh_178 (by decide) rfl (c_X11_place B f L _ _ u hf hL (by first | assumption | exact (skp_b (by assumption)).2 | exact (skp_b (skp_b (by assumption)).2).2)) (fitR hR (by first | decide | omega) (by decide) (by omega)) rfl rfl (Nat.le_of_ble_eq_true rfl) dX11_roomHere_10 ?_
    refine g_istore_n (ls' := [(0, _), (1, _), (2, _), (3, _)]) h dX11_roomHere_13 rfl (by decide) rfl rfl ?_
    refine g_aload_n h dX11_roomHere_14 rfl rfl ?_
    refine g_iconst (v := nI 0) h dX11_roomHere_15 (by decide) ?_
    refine g_bipush (v := nI 23) h dX11_roomHere_16 (by decide) ?_
    refine g_iconst (v := nI 3) h dX11_roomHere_18 (by decide) ?_
    refine g_V h lv_X11_130_X11 sh_178 (by decide) rfl (c_X11_figures_x B f L _ _ _ _ _ hw9 u hf hL (by first | assumption | exact (skp_b (by assumption)).2 | exact (skp_b (skp_b (by assumption)).2).2)) (fitR hR (by first | decide | omega) (by decide) (by omega)) rfl rfl (Nat.le_of_ble_eq_true rfl) dX11_roomHere_19 ?_
    refine g_istore (ls' := [(0, _), (1, _), (2, _), (3, _), (4, _)]) h dX11_roomHere_22 (by decide) rfl rfl ?_
    refine g_aload_n h dX11_roomHere_24 rfl rfl ?_
    refine g_getI h fl_X11_25_10 sh_178 (by decide) rfl dX11_roomHere_25 ?_
    refine g_top mr_r12 ?_
    refine g_iconst (v := -1) h dX11_roomHere_28 (by decide) ?_
    refine g_icmp_ne (tgt := 62) h dX11_roomHere_29 (by decide) (fun c29 => ?_) (fun c29 => ?_)
    · refine g_aload_n h dX11_roomHere_62 rfl rfl ?_
      refine g_getI h fl_X11_25_10 sh_178 (by decide) rfl dX11_roomHere_63 ?_
      refine g_top mr_r12 ?_
      refine g_iconst (v := -1) h dX11_roomHere_66 (by decide) ?_
      refine g_icmp_ne (tgt := 80) h dX11_roomHere_67 (by decide) (fun c67 => ?_) (fun c67 => ?_)
      · refine g_iconst (v := nI 0) h dX11_roomHere_80 (by decide) ?_
        exact g_iretP h hrt dX11_roomHere_81 (by omega) (Or.inl ⟨n5, _, _, (by first | assumption | exact (skp_b (by assumption)).2 | exact (skp_b (skp_b (by assumption)).2).2), rfl, rfl⟩)
      · exact absurd c67 hw9
    · exact absurd c29 hw9
