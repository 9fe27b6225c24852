-- after: 38.r 39.s 40.t 47.str 48.tx 49.ty 50.tt 51.tu 52.tv 53.lw 59.mc 62.mf 70.na 71.nb 72.nc 73.nd 74.ne
set_option maxHeartbeats 1000000 in
theorem c_X11_letLine {E : EE} (B : Int32) (f : Nat → Int32) (L p : Nat) (T W : Nat) (hT : T ≤ 10) (hW : W ≤ 8) (u : Sto) (hf : LF u B f) (hL : L ≤ 400) (h0 : p ≤ L) (hT1 : u 179 1 = nI T) (hW1 : u 179 9 = nI W) (hsh : ∀ r, r < 168 → shV u r = nI 0 ∨ shV u r = nI 1) : CtP E 7 0 yX11_letLine cX11_letLine 7 none [.ref (E.ad 178)] (MR u B L (enN f L p) (-1)) (QV u T W B f L (letD T (moV u) (owV u) (shV u) f L p)) := by
  have q1 := (nx_b (f := f) h0).2
  have q2 := (nx_b (f := f) q1).2
  have q3 := (nx_b (f := f) q2).2
  have q4 := (nx_b (f := f) q3).2
  have q5 := (nx_b (f := f) q4).2
  have q6 := (nx_b (f := f) q5).2
  have q7 := (nx_b (f := f) q6).2
  have q8 := (nx_b (f := f) q7).2
  have e0 := (enN_b (f := f) h0).2
  have e1 := (enN_b (f := f) q1).2
  have e2 := (enN_b (f := f) q2).2
  have e3 := (enN_b (f := f) q3).2
  have e4 := (enN_b (f := f) q4).2
  have e5 := (enN_b (f := f) q5).2
  have e6 := (enN_b (f := f) q6).2
  have e7 := (enN_b (f := f) q7).2
  refine ctp_of (by decide) (Nat.le_of_ble_eq_true rfl) (fun X h hR hrt htab hargs => ?_)
  have XN : ∀ (y1 y2 y3 y4 y5 : Int32) (q9 e9 : Nat), q9 ≤ L → ¬ nI e9 = -1 → letD T (moV u) (owV u) (shV u) f L p = .error e9 → G E X (QMP E X (QV u T W B f L (letD T (moV u) (owV u) (shV u) f L p)) 0) 7 0 42 [(0, .ref (E.ad 178)), (1, .int y1), (2, .int y2), (3, .int y3), (4, .int y4), (5, .int y5)] [] (MR u B L q9 (nI e9)) := by
    intro y1 y2 y3 y4 y5 q9 e9 hq9 hw9 hr
    refine g_iload h dX11_letLine_42 rfl ?_
    refine g_iload h dX11_letLine_44 rfl ?_
    refine g_icmp_gt (tgt := 100) h dX11_letLine_46 (by decide) (fun c46 => ?_) (fun c46 => ?_)
    · refine g_aload_n h dX11_letLine_100 rfl rfl ?_
      refine g_V h lv_X11_146_X11 sh_178 (by decide) rfl (c_X11_tenantHere_x B f L _ _ hw9 T u hf hL hq9 hT1) (fitR hR (by first | decide | omega) (by decide) (by omega)) rfl rfl (Nat.le_of_ble_eq_true rfl) dX11_letLine_101 ?_
      refine g_istore (ls' := [(0, _), (1, _), (2, _), (3, _), (4, _), (5, _)]) h dX11_letLine_104 (by decide) rfl rfl ?_
      refine g_iload_n h dX11_letLine_106 rfl rfl ?_
      refine g_istore (ls' := [(0, _), (1, _), (2, _), (3, _), (4, _), (5, _), (6, _)]) h dX11_letLine_107 (by decide) rfl rfl ?_
      refine g_iload h dX11_letLine_109 rfl ?_
      refine g_iload h dX11_letLine_111 rfl ?_
      refine g_icmp_gt (tgt := 145) h dX11_letLine_113 (by decide) (fun c113 => ?_) (fun c113 => ?_)
      · exact g_vretP h hrt dX11_letLine_145 (by omega) (qv_e hr (skp_b hq9).2)
      · refine g_aload_n h dX11_letLine_116 rfl rfl ?_
        refine g_getI h fl_X11_25_10 sh_178 (by decide) rfl dX11_letLine_117 ?_
        refine g_top mr_r12 ?_
        refine g_iconst (v := -1) h dX11_letLine_120 (by decide) ?_
        refine g_icmp_ne (tgt := 145) h dX11_letLine_121 (by decide) (fun c121 => ?_) (fun c121 => ?_)
        · exact g_vretP h hrt dX11_letLine_145 (by omega) (qv_e hr (skp_b hq9).2)
        · exact absurd c121 hw9
    · refine g_aload_n h dX11_letLine_49 rfl rfl ?_
      refine g_getI h fl_X11_25_10 sh_178 (by decide) rfl dX11_letLine_50 ?_
      refine g_top mr_r12 ?_
      refine g_iconst (v := -1) h dX11_letLine_53 (by decide) ?_
      refine g_icmp_ne (tgt := 100) h dX11_letLine_54 (by decide) (fun c54 => ?_) (fun c54 => ?_)
      · refine g_aload_n h dX11_letLine_100 rfl rfl ?_
        refine g_V h lv_X11_146_X11 sh_178 (by decide) rfl (c_X11_tenantHere_x B f L _ _ hw9 T u hf hL hq9 hT1) (fitR hR (by first | decide | omega) (by decide) (by omega)) rfl rfl (Nat.le_of_ble_eq_true rfl) dX11_letLine_101 ?_
        refine g_istore (ls' := [(0, _), (1, _), (2, _), (3, _), (4, _), (5, _)]) h dX11_letLine_104 (by decide) rfl rfl ?_
        refine g_iload_n h dX11_letLine_106 rfl rfl ?_
        refine g_istore (ls' := [(0, _), (1, _), (2, _), (3, _), (4, _), (5, _), (6, _)]) h dX11_letLine_107 (by decide) rfl rfl ?_
        refine g_iload h dX11_letLine_109 rfl ?_
        refine g_iload h dX11_letLine_111 rfl ?_
        refine g_icmp_gt (tgt := 145) h dX11_letLine_113 (by decide) (fun c113 => ?_) (fun c113 => ?_)
        · exact g_vretP h hrt dX11_letLine_145 (by omega) (qv_e hr (skp_b hq9).2)
        · refine g_aload_n h dX11_letLine_116 rfl rfl ?_
          refine g_getI h fl_X11_25_10 sh_178 (by decide) rfl dX11_letLine_117 ?_
          refine g_top mr_r12 ?_
          refine g_iconst (v := -1) h dX11_letLine_120 (by decide) ?_
          refine g_icmp_ne (tgt := 145) h dX11_letLine_121 (by decide) (fun c121 => ?_) (fun c121 => ?_)
          · exact g_vretP h hrt dX11_letLine_145 (by omega) (qv_e hr (skp_b hq9).2)
          · exact absurd c121 hw9
      · exact absurd c54 hw9
  refine g_aload_n h dX11_letLine_0 rfl rfl ?_
  refine g_iconst (v := nI 0) h dX11_letLine_1 (by decide) ?_
  refine g_bipush (v := nI 6) h dX11_letLine_2 (by decide) ?_
  refine g_iconst (v := nI 3) h dX11_letLine_4 (by decide) ?_
  refine g_VP h lv_X11_130_X11 sh_178 (by decide) rfl (c_X11_figs B f L (enN f L p) (nx f L p) rfl 3 (by decide) (nI 0) (nI 6) u hf hL e0) (by rintro Ex s (⟨_, h, _⟩ | ⟨_, _, _, _, h, _⟩) <;> exact nomatch h) (fitR hR (by first | decide | omega) (by decide) (by omega)) rfl rfl (Nat.le_of_ble_eq_true rfl) dX11_letLine_5 (fun v5 u5 hs5 => ?_)
  rcases hs5 with ⟨n5, hv5, rfl⟩ | ⟨n5, x5, q9, hq9, hv5, rfl⟩
  · cases hv5
    refine g_istore_n (ls' := [(0, _), (1, _)]) h dX11_letLine_8 rfl (by decide) rfl rfl ?_
    refine g_aload_n h dX11_letLine_9 rfl rfl ?_
    refine g_iconst (v := nI 0) h dX11_letLine_10 (by decide) ?_
    refine g_bipush (v := nI 23) h dX11_letLine_11 (by decide) ?_
    refine g_iconst (v := nI 3) h dX11_letLine_13 (by decide) ?_
    refine g_VP h lv_X11_130_X11 sh_178 (by decide) rfl (c_X11_figs B f L (enN f L (nx f L p)) (nx f L (nx f L p)) rfl 3 (by decide) (nI 0) (nI 23) u hf hL e1) (by rintro Ex s (⟨_, h, _⟩ | ⟨_, _, _, _, h, _⟩) <;> exact nomatch h) (fitR hR (by first | decide | omega) (by decide) (by omega)) rfl rfl (Nat.le_of_ble_eq_true rfl) dX11_letLine_14 (fun v14 u14 hs14 => ?_)
    rcases hs14 with ⟨n14, hv14, rfl⟩ | ⟨n14, x14, q9, hq9, hv14, rfl⟩
    · cases hv14
      refine g_istore_n (ls' := [(0, _), (1, _), (2, _)]) h dX11_letLine_17 rfl (by decide) rfl rfl ?_
      refine g_aload_n h dX11_letLine_18 rfl rfl ?_
      refine g_ldcS (tx := "to") (k := 2) h (by decide) dX11_letLine_19 ?_
      refine g_V h lv_X11_136_X11 sh_178 (by decide) rfl (c_X11_must B f L (enN f L (nx f L (nx f L p))) 2 (by decide) (by decide) u hf hL e2) (fitR hR (by first | decide | omega) (by decide) (by omega)) rfl rfl (Nat.le_of_ble_eq_true rfl) dX11_letLine_21 ?_
      by_cases n21 : wdB f L (nx f L (nx f L (nx f L p))) 2 = true
      · refine g_sto (if_pos n21) ?_
        refine g_aload_n h dX11_letLine_24 rfl rfl ?_
        refine g_V h lv_X11_127_X11 sh_178 (by decide) rfl (c_X11_place B f L (enN f L (nx f L (nx f L (nx f L p)))) (-1) u hf hL e3) (fitR hR (by first | decide | omega) (by decide) (by omega)) rfl rfl (Nat.le_of_ble_eq_true rfl) dX11_letLine_25 ?_
        refine g_istore_n (ls' := [(0, _), (1, _), (2, _), (3, _)]) h dX11_letLine_28 rfl (by decide) rfl rfl ?_
        refine g_aload_n h dX11_letLine_29 rfl rfl ?_
        refine g_iload_n h dX11_letLine_30 rfl rfl ?_
        refine g_bipush (v := nI 23) h dX11_letLine_31 (by decide) ?_
        refine g_iconst (v := nI 3) h dX11_letLine_33 (by decide) ?_
        refine g_VP h lv_X11_130_X11 sh_178 (by decide) rfl (c_X11_figs B f L (nx f L (nx f L (nx f L (nx f L p)))) (nx f L (nx f L (nx f L (nx f L p)))) (sk_sk (Nat.le_refl _)) 3 (by decide) (nmI f L (nx f L (nx f L p))) (nI 23) u hf hL q4) (by rintro Ex s (⟨_, h, _⟩ | ⟨_, _, _, _, h, _⟩) <;> exact nomatch h) (fitR hR (by first | decide | omega) (by decide) (by omega)) rfl rfl (Nat.le_of_ble_eq_true rfl) dX11_letLine_34 (fun v34 u34 hs34 => ?_)
        rcases hs34 with ⟨n34, hv34, rfl⟩ | ⟨n34, x34, q9, hq9, hv34, rfl⟩
        · cases hv34
          refine g_istore (ls' := [(0, _), (1, _), (2, _), (3, _), (4, _)]) h dX11_letLine_37 (by decide) rfl rfl ?_
          refine g_iload_n h dX11_letLine_39 rfl rfl ?_
          refine g_istore (ls' := [(0, _), (1, _), (2, _), (3, _), (4, _), (5, _)]) h dX11_letLine_40 (by decide) rfl rfl ?_
          obtain ⟨A, hA, _, hA2⟩ := nu_ix n14
          have n34B := n34
          rw [hA] at n34B
          obtain ⟨BB, hB, hAB, hB2⟩ := nu_ix n34B
          obtain ⟨k1, z1, _, f1⟩ := nu_ix n5
          have x1 : ix (nmI f L (nx f L p)) = k1 := by rw [z1]; exact ix_nI (by omega)
          have hAx : (ix (nmI f L (nx f L (nx f L p)))) = A := by rw [hA]; exact ix_nI (by omega)
          have hBx : (ix (nmI f L (nx f L (nx f L (nx f L (nx f L p)))))) = BB := by rw [hB]; exact ix_nI (by omega)
          refine g_cv (ls2 := [(0, .ref (E.ad 178)), (1, .int (nmI f L (nx f L p))), (2, .int (nmI f L (nx f L (nx f L p)))), (3, .int (nI (nx f L (nx f L (nx f L (nx f L p)))))), (4, .int (nmI f L (nx f L (nx f L (nx f L (nx f L p)))))), (5, .int (nI A))]) (by rw [← hA]; rfl) rfl ?_
          have LP : ∀ j k : Nat, BB + 1 - k ≤ j → A ≤ k → k ≤ BB + 1 → (∀ y, A ≤ y → y < k → owV u (ix (nmI f L (nx f L p)) * 24 + y) = -1 ∧ shV u (ix (nmI f L (nx f L p)) * 24 + y) = 0) → G E X (QMP E X (QV u T W B f L (letD T (moV u) (owV u) (shV u) f L p)) 0) 7 0 42 [(0, .ref (E.ad 178)), (1, .int (nmI f L (nx f L p))), (2, .int (nmI f L (nx f L (nx f L p)))), (3, .int (nI (nx f L (nx f L (nx f L (nx f L p)))))), (4, .int (nmI f L (nx f L (nx f L (nx f L (nx f L p)))))), (5, .int (nI k))] [] (MR u B L (enN f L (nx f L (nx f L (nx f L (nx f L p))))) (-1)) := by
            intro j
            induction j with
            | zero =>
              intro k hj hk1 hk2 hall
              refine g_iload h dX11_letLine_42 rfl ?_
              refine g_iload h dX11_letLine_44 rfl ?_
              refine g_top hB ?_
              refine g_icmp_gt (tgt := 100) h dX11_letLine_46 (by decide) (fun c46 => ?_) (fun c46 => ?_)
              · have n46 := lt_n (by omega) (by omega) (show nI (BB) < nI (k) from c46)
                have hz : lfB (owV u) (shV u) (ix (nmI f L (nx f L p)) * 24) (ix (nmI f L (nx f L (nx f L p)))) (ix (nmI f L (nx f L (nx f L (nx f L (nx f L p)))))) = true := by rw [hAx, hBx]; exact lf_1 (fun y y1 y2 => hall y y1 (by omega))
                refine g_aload_n h dX11_letLine_100 rfl rfl ?_
                refine g_VP h lv_X11_146_X11 sh_178 (by decide) rfl (c_X11_tenantHere B f L (enN f L (nx f L (nx f L (nx f L (nx f L p))))) (nx f L (nx f L (nx f L (nx f L (nx f L p))))) rfl T hT u hf hL e4 hT1) (by rintro Ex s (⟨_, h, _⟩ | ⟨_, _, _, _, h, _⟩) <;> exact nomatch h) (fitR hR (by first | decide | omega) (by decide) (by omega)) rfl rfl (Nat.le_of_ble_eq_true rfl) dX11_letLine_101 (fun v101 u101 hs101 => ?_)
                rcases hs101 with ⟨n101, hv101, rfl⟩ | ⟨n101, x101, q9, hq9, hv101, rfl⟩
                · cases hv101
                  refine g_istore (ls' := [(0, _), (1, _), (2, _), (3, _), (4, _), (5, _)]) h dX11_letLine_104 (by decide) rfl rfl ?_
                  refine g_iload_n h dX11_letLine_106 rfl rfl ?_
                  refine g_istore (ls' := [(0, _), (1, _), (2, _), (3, _), (4, _), (5, _), (6, _)]) h dX11_letLine_107 (by decide) rfl rfl ?_
                  obtain ⟨mm, hm, hmT⟩ := nu_T hT n101.1
                  have hmx : (ix (nmI f L (nx f L (nx f L (nx f L (nx f L (nx f L p))))))) = mm := by rw [hm]; exact ix_nI (by omega)
                  refine g_cv (ls2 := [(0, .ref (E.ad 178)), (1, .int (nmI f L (nx f L p))), (2, .int (nmI f L (nx f L (nx f L p)))), (3, .int (nI (nx f L (nx f L (nx f L (nx f L p)))))), (4, .int (nmI f L (nx f L (nx f L (nx f L (nx f L p)))))), (5, .int (nmI f L (nx f L (nx f L (nx f L (nx f L (nx f L p))))))), (6, .int (nI (A + 0)))]) (by rw [Nat.add_zero, ← hA]) rfl ?_
                  have LQ : ∀ j k : Nat, BB + 1 - (A + k) ≤ j → A + k ≤ BB + 1 → G E X (QMP E X (QV u T W B f L (letD T (moV u) (owV u) (shV u) f L p)) 0) 7 0 109 [(0, .ref (E.ad 178)), (1, .int (nmI f L (nx f L p))), (2, .int (nmI f L (nx f L (nx f L p)))), (3, .int (nI (nx f L (nx f L (nx f L (nx f L p)))))), (4, .int (nmI f L (nx f L (nx f L (nx f L (nx f L p)))))), (5, .int (nmI f L (nx f L (nx f L (nx f L (nx f L (nx f L p))))))), (6, .int (nI (A + k)))] [] (MR (ltM u (ix (nmI f L (nx f L p)) * 24) mm A k) B L (enN f L (nx f L (nx f L (nx f L (nx f L (nx f L p)))))) (-1)) := by
                    intro j2
                    induction j2 with
                    | zero =>
                      intro k hj3 hk3
                      refine g_iload h dX11_letLine_109 rfl ?_
                      refine g_iload h dX11_letLine_111 rfl ?_
                      refine g_top hB ?_
                      refine g_icmp_gt (tgt := 145) h dX11_letLine_113 (by decide) (fun c113 => ?_) (fun c113 => ?_)
                      · have n113 := lt_n (by omega) (by omega) (show nI (BB) < nI (A + k) from c113)
                        exact g_vretP h hrt dX11_letLine_145 (by omega) (qv_k (by rw [letD, if_pos n5, if_pos n14, if_pos n21, if_pos n34, if_pos hz, if_pos n101]; rfl) e5 rfl (by rw [show apM u T W (.lt (ix (nmI f L (nx f L p)) * 24) (ix (nmI f L (nx f L (nx f L p)))) (ix (nmI f L (nx f L (nx f L (nx f L (nx f L p)))))) (ix (nmI f L (nx f L (nx f L (nx f L (nx f L (nx f L p)))))))) = ltM u (ix (nmI f L (nx f L p)) * 24) (ix (nmI f L (nx f L (nx f L (nx f L (nx f L (nx f L p))))))) (ix (nmI f L (nx f L (nx f L p)))) ((ix (nmI f L (nx f L (nx f L (nx f L (nx f L p)))))) + 1 - (ix (nmI f L (nx f L (nx f L p))))) from rfl, hAx, hBx, hmx, show BB + 1 - A = k by omega]))
                      · have n113 := nlt_n (by omega) (by omega) (show ¬ nI (BB) < nI (A + k) from c113)
                        refine g_aload_n h dX11_letLine_116 rfl rfl ?_
                        refine g_getI h fl_X11_25_10 sh_178 (by decide) rfl dX11_letLine_117 ?_
                        refine g_top mr_r12 ?_
                        refine g_iconst (v := -1) h dX11_letLine_120 (by decide) ?_
                        refine g_icmp_ne (tgt := 145) h dX11_letLine_121 (by decide) (fun c121 => ?_) (fun c121 => ?_)
                        · exact absurd rfl c121
                        · refine g_aload_n h dX11_letLine_124 rfl rfl ?_
                          refine g_bipush (v := nI 24) h dX11_letLine_125 (by decide) ?_
                          refine g_iload_n h dX11_letLine_127 rfl rfl ?_
                          refine g_imul h dX11_letLine_128 ?_
                          refine g_iload h dX11_letLine_129 rfl ?_
                          refine g_iadd h dX11_letLine_131 ?_
                          refine g_top (y := nI (ix (nmI f L (nx f L p)) * 24 + (A + k))) (by rw [x1, z1, nI_mul, Nat.mul_comm]; exact nI_add _ _) ?_
                          refine g_iload h dX11_letLine_132 rfl ?_
                          refine g_top hm ?_
                          refine g_iload h dX11_letLine_134 rfl ?_
                          refine g_top hm ?_
                          refine g_V h lv_X11_149_X11 sh_178 (by decide) rfl (c_X11_has (ix (nmI f L (nx f L p)) * 24 + (A + k)) (by omega) (nI mm) (nI mm) _) (fitR hR (by first | decide | omega) (by decide) (by omega)) rfl rfl (Nat.le_of_ble_eq_true rfl) dX11_letLine_136 ?_
                          refine g_sto (hs_MR (u := ltM u (ix (nmI f L (nx f L p)) * 24) mm A k)) ?_
                          refine g_iinc (v := nI (A + (k + 1))) (ls' := [(0, _), (1, _), (2, _), (3, _), (4, _), (5, _), (6, _)]) h dX11_letLine_139 rfl (nI_1 (A + k)) (by decide) rfl rfl ?_
                          refine g_goto (tgt := 109) h dX11_letLine_142 (by decide) ?_
                          exact absurd n113 (by omega)
                    | succ j2 ih2 =>
                      intro k hj3 hk3
                      refine g_iload h dX11_letLine_109 rfl ?_
                      refine g_iload h dX11_letLine_111 rfl ?_
                      refine g_top hB ?_
                      refine g_icmp_gt (tgt := 145) h dX11_letLine_113 (by decide) (fun c113 => ?_) (fun c113 => ?_)
                      · have n113 := lt_n (by omega) (by omega) (show nI (BB) < nI (A + k) from c113)
                        exact g_vretP h hrt dX11_letLine_145 (by omega) (qv_k (by rw [letD, if_pos n5, if_pos n14, if_pos n21, if_pos n34, if_pos hz, if_pos n101]; rfl) e5 rfl (by rw [show apM u T W (.lt (ix (nmI f L (nx f L p)) * 24) (ix (nmI f L (nx f L (nx f L p)))) (ix (nmI f L (nx f L (nx f L (nx f L (nx f L p)))))) (ix (nmI f L (nx f L (nx f L (nx f L (nx f L (nx f L p)))))))) = ltM u (ix (nmI f L (nx f L p)) * 24) (ix (nmI f L (nx f L (nx f L (nx f L (nx f L (nx f L p))))))) (ix (nmI f L (nx f L (nx f L p)))) ((ix (nmI f L (nx f L (nx f L (nx f L (nx f L p)))))) + 1 - (ix (nmI f L (nx f L (nx f L p))))) from rfl, hAx, hBx, hmx, show BB + 1 - A = k by omega]))
                      · have n113 := nlt_n (by omega) (by omega) (show ¬ nI (BB) < nI (A + k) from c113)
                        refine g_aload_n h dX11_letLine_116 rfl rfl ?_
                        refine g_getI h fl_X11_25_10 sh_178 (by decide) rfl dX11_letLine_117 ?_
                        refine g_top mr_r12 ?_
                        refine g_iconst (v := -1) h dX11_letLine_120 (by decide) ?_
                        refine g_icmp_ne (tgt := 145) h dX11_letLine_121 (by decide) (fun c121 => ?_) (fun c121 => ?_)
                        · exact absurd rfl c121
                        · refine g_aload_n h dX11_letLine_124 rfl rfl ?_
                          refine g_bipush (v := nI 24) h dX11_letLine_125 (by decide) ?_
                          refine g_iload_n h dX11_letLine_127 rfl rfl ?_
                          refine g_imul h dX11_letLine_128 ?_
                          refine g_iload h dX11_letLine_129 rfl ?_
                          refine g_iadd h dX11_letLine_131 ?_
                          refine g_top (y := nI (ix (nmI f L (nx f L p)) * 24 + (A + k))) (by rw [x1, z1, nI_mul, Nat.mul_comm]; exact nI_add _ _) ?_
                          refine g_iload h dX11_letLine_132 rfl ?_
                          refine g_top hm ?_
                          refine g_iload h dX11_letLine_134 rfl ?_
                          refine g_top hm ?_
                          refine g_V h lv_X11_149_X11 sh_178 (by decide) rfl (c_X11_has (ix (nmI f L (nx f L p)) * 24 + (A + k)) (by omega) (nI mm) (nI mm) _) (fitR hR (by first | decide | omega) (by decide) (by omega)) rfl rfl (Nat.le_of_ble_eq_true rfl) dX11_letLine_136 ?_
                          refine g_sto (hs_MR (u := ltM u (ix (nmI f L (nx f L p)) * 24) mm A k)) ?_
                          refine g_iinc (v := nI (A + (k + 1))) (ls' := [(0, _), (1, _), (2, _), (3, _), (4, _), (5, _), (6, _)]) h dX11_letLine_139 rfl (nI_1 (A + k)) (by decide) rfl rfl ?_
                          refine g_goto (tgt := 109) h dX11_letLine_142 (by decide) ?_
                          exact ih2 (k + 1) (by omega) (by omega)
                  exact LQ (BB + 1) 0 (by omega) (by omega)
                  
                · cases hv101
                  have hw9 := nw q5 hL
                  refine g_istore (ls' := [(0, _), (1, _), (2, _), (3, _), (4, _), (5, _)]) h dX11_letLine_104 (by decide) rfl rfl ?_
                  refine g_iload_n h dX11_letLine_106 rfl rfl ?_
                  refine g_istore (ls' := [(0, _), (1, _), (2, _), (3, _), (4, _), (5, _), (6, _)]) h dX11_letLine_107 (by decide) rfl rfl ?_
                  refine g_iload h dX11_letLine_109 rfl ?_
                  refine g_iload h dX11_letLine_111 rfl ?_
                  refine g_top hB ?_
                  refine g_icmp_gt (tgt := 145) h dX11_letLine_113 (by decide) (fun c113 => ?_) (fun c113 => ?_)
                  · exact g_vretP h hrt dX11_letLine_145 (by omega) (qv_e (by rw [letD, if_pos n5, if_pos n14, if_pos n21, if_pos n34, if_pos hz, if_neg n101]) (by first | assumption | exact (skp_b (by assumption)).2 | exact (skp_b (skp_b (by assumption)).2).2))
                  · refine g_aload_n h dX11_letLine_116 rfl rfl ?_
                    refine g_getI h fl_X11_25_10 sh_178 (by decide) rfl dX11_letLine_117 ?_
                    refine g_top mr_r12 ?_
                    refine g_iconst (v := -1) h dX11_letLine_120 (by decide) ?_
                    refine g_icmp_ne (tgt := 145) h dX11_letLine_121 (by decide) (fun c121 => ?_) (fun c121 => ?_)
                    · exact g_vretP h hrt dX11_letLine_145 (by omega) (qv_e (by rw [letD, if_pos n5, if_pos n14, if_pos n21, if_pos n34, if_pos hz, if_neg n101]) (by first | assumption | exact (skp_b (by assumption)).2 | exact (skp_b (skp_b (by assumption)).2).2))
                    · exact absurd c121 hw9
              · have n46 := nlt_n (by omega) (by omega) (show ¬ nI (BB) < nI (k) from c46)
                refine g_aload_n h dX11_letLine_49 rfl rfl ?_
                refine g_getI h fl_X11_25_10 sh_178 (by decide) rfl dX11_letLine_50 ?_
                refine g_top mr_r12 ?_
                refine g_iconst (v := -1) h dX11_letLine_53 (by decide) ?_
                refine g_icmp_ne (tgt := 100) h dX11_letLine_54 (by decide) (fun c54 => ?_) (fun c54 => ?_)
                · exact absurd rfl c54
                · refine g_aload_n h dX11_letLine_57 rfl rfl ?_
                  refine g_bipush (v := nI 24) h dX11_letLine_58 (by decide) ?_
                  refine g_iload_n h dX11_letLine_60 rfl rfl ?_
                  refine g_imul h dX11_letLine_61 ?_
                  refine g_iload h dX11_letLine_62 rfl ?_
                  refine g_iadd h dX11_letLine_64 ?_
                  refine g_top (y := nI (ix (nmI f L (nx f L p)) * 24 + k)) (by rw [x1, z1, nI_mul, Nat.mul_comm]; exact nI_add _ _) ?_
                  refine g_iconst (v := nI 0) h dX11_letLine_65 (by decide) ?_
                  refine g_V h lv_X11_84_X11 sh_178 (by decide) rfl (c_X11_ofRoom (ix (nmI f L (nx f L p)) * 24 + k) 0 (by omega) (by decide) _) (fitR hR (by first | decide | omega) (by decide) (by omega)) rfl rfl (Nat.le_of_ble_eq_true rfl) dX11_letLine_66 ?_
                  refine g_top (y := owV u (ix (nmI f L (nx f L p)) * 24 + k)) (congrFun (mr_oc (by decide)) _) ?_
                  refine g_iconst (v := -1) h dX11_letLine_69 (by decide) ?_
                  refine g_icmp_ne (tgt := 89) h dX11_letLine_70 (by decide) (fun c70 => ?_) (fun c70 => ?_)
                  · have hz : ¬ lfB (owV u) (shV u) (ix (nmI f L (nx f L p)) * 24) (ix (nmI f L (nx f L (nx f L p)))) (ix (nmI f L (nx f L (nx f L (nx f L (nx f L p)))))) = true := by rw [hAx, hBx]; exact lf_0 hk1 n46 (fun z => c70 z.1)
                    refine g_aload_n h dX11_letLine_89 rfl rfl ?_
                    refine g_iload_n h dX11_letLine_90 rfl rfl ?_
                    refine g_V h lv_X11_123_X11 sh_178 (by decide) rfl (c_X11_wrong B f L (enN f L (nx f L (nx f L (nx f L (nx f L p))))) (-1) (nI (nx f L (nx f L (nx f L (nx f L p))))) u hf hL e4) (fitR hR (by first | decide | omega) (by decide) (by omega)) rfl rfl (Nat.le_of_ble_eq_true rfl) dX11_letLine_91 ?_
                    refine g_sto (mr_wv (if_pos rfl)) ?_
                    refine g_iinc (v := nI (k + 1)) (ls' := [(0, _), (1, _), (2, _), (3, _), (4, _), (5, _)]) h dX11_letLine_94 rfl (nI_1 k) (by decide) rfl rfl ?_
                    refine g_goto (tgt := 42) h dX11_letLine_97 (by decide) ?_
                    exact XN _ _ _ _ _ _ _ e4 (nw q4 hL) (by rw [letD, if_pos n5, if_pos n14, if_pos n21, if_pos n34, if_neg hz])
                  · refine g_aload_n h dX11_letLine_73 rfl rfl ?_
                    refine g_bipush (v := nI 24) h dX11_letLine_74 (by decide) ?_
                    refine g_iload_n h dX11_letLine_76 rfl rfl ?_
                    refine g_imul h dX11_letLine_77 ?_
                    refine g_iload h dX11_letLine_78 rfl ?_
                    refine g_iadd h dX11_letLine_80 ?_
                    refine g_top (y := nI (ix (nmI f L (nx f L p)) * 24 + k)) (by rw [x1, z1, nI_mul, Nat.mul_comm]; exact nI_add _ _) ?_
                    refine g_iconst (v := nI 3) h dX11_letLine_81 (by decide) ?_
                    refine g_V h lv_X11_84_X11 sh_178 (by decide) rfl (c_X11_ofRoom (ix (nmI f L (nx f L p)) * 24 + k) 3 (by omega) (by decide) _) (fitR hR (by first | decide | omega) (by decide) (by omega)) rfl rfl (Nat.le_of_ble_eq_true rfl) dX11_letLine_82 ?_
                    refine g_top (y := shV u (ix (nmI f L (nx f L p)) * 24 + k)) ((congrFun (mr_oc (by decide)) _).trans (congrArg (u 179) (by omega))) ?_
                    refine g_iconst (v := nI 1) h dX11_letLine_85 (by decide) ?_
                    refine g_icmp_ne (tgt := 94) h dX11_letLine_86 (by decide) (fun c86 => ?_) (fun c86 => ?_)
                    · have hsh0 : shV u (ix (nmI f L (nx f L p)) * 24 + k) = 0 := (hsh (ix (nmI f L (nx f L p)) * 24 + k) (by omega)).resolve_right c86
                      refine g_iinc (v := nI (k + 1)) (ls' := [(0, _), (1, _), (2, _), (3, _), (4, _), (5, _)]) h dX11_letLine_94 rfl (nI_1 k) (by decide) rfl rfl ?_
                      refine g_goto (tgt := 42) h dX11_letLine_97 (by decide) ?_
                      exact absurd n46 (by omega)
                    · have hz : ¬ lfB (owV u) (shV u) (ix (nmI f L (nx f L p)) * 24) (ix (nmI f L (nx f L (nx f L p)))) (ix (nmI f L (nx f L (nx f L (nx f L (nx f L p)))))) = true := by rw [hAx, hBx]; exact lf_0 hk1 n46 (fun z => absurd (c86.symm.trans z.2) (by decide))
                      refine g_aload_n h dX11_letLine_89 rfl rfl ?_
                      refine g_iload_n h dX11_letLine_90 rfl rfl ?_
                      refine g_V h lv_X11_123_X11 sh_178 (by decide) rfl (c_X11_wrong B f L (enN f L (nx f L (nx f L (nx f L (nx f L p))))) (-1) (nI (nx f L (nx f L (nx f L (nx f L p))))) u hf hL e4) (fitR hR (by first | decide | omega) (by decide) (by omega)) rfl rfl (Nat.le_of_ble_eq_true rfl) dX11_letLine_91 ?_
                      refine g_sto (mr_wv (if_pos rfl)) ?_
                      refine g_iinc (v := nI (k + 1)) (ls' := [(0, _), (1, _), (2, _), (3, _), (4, _), (5, _)]) h dX11_letLine_94 rfl (nI_1 k) (by decide) rfl rfl ?_
                      refine g_goto (tgt := 42) h dX11_letLine_97 (by decide) ?_
                      exact XN _ _ _ _ _ _ _ e4 (nw q4 hL) (by rw [letD, if_pos n5, if_pos n14, if_pos n21, if_pos n34, if_neg hz])
            | succ j ih =>
              intro k hj hk1 hk2 hall
              refine g_iload h dX11_letLine_42 rfl ?_
              refine g_iload h dX11_letLine_44 rfl ?_
              refine g_top hB ?_
              refine g_icmp_gt (tgt := 100) h dX11_letLine_46 (by decide) (fun c46 => ?_) (fun c46 => ?_)
              · have n46 := lt_n (by omega) (by omega) (show nI (BB) < nI (k) from c46)
                have hz : lfB (owV u) (shV u) (ix (nmI f L (nx f L p)) * 24) (ix (nmI f L (nx f L (nx f L p)))) (ix (nmI f L (nx f L (nx f L (nx f L (nx f L p)))))) = true := by rw [hAx, hBx]; exact lf_1 (fun y y1 y2 => hall y y1 (by omega))
                refine g_aload_n h dX11_letLine_100 rfl rfl ?_
                refine g_VP h lv_X11_146_X11 sh_178 (by decide) rfl (c_X11_tenantHere B f L (enN f L (nx f L (nx f L (nx f L (nx f L p))))) (nx f L (nx f L (nx f L (nx f L (nx f L p))))) rfl T hT u hf hL e4 hT1) (by rintro Ex s (⟨_, h, _⟩ | ⟨_, _, _, _, h, _⟩) <;> exact nomatch h) (fitR hR (by first | decide | omega) (by decide) (by omega)) rfl rfl (Nat.le_of_ble_eq_true rfl) dX11_letLine_101 (fun v101 u101 hs101 => ?_)
                rcases hs101 with ⟨n101, hv101, rfl⟩ | ⟨n101, x101, q9, hq9, hv101, rfl⟩
                · cases hv101
                  refine g_istore (ls' := [(0, _), (1, _), (2, _), (3, _), (4, _), (5, _)]) h dX11_letLine_104 (by decide) rfl rfl ?_
                  refine g_iload_n h dX11_letLine_106 rfl rfl ?_
                  refine g_istore (ls' := [(0, _), (1, _), (2, _), (3, _), (4, _), (5, _), (6, _)]) h dX11_letLine_107 (by decide) rfl rfl ?_
                  obtain ⟨mm, hm, hmT⟩ := nu_T hT n101.1
                  have hmx : (ix (nmI f L (nx f L (nx f L (nx f L (nx f L (nx f L p))))))) = mm := by rw [hm]; exact ix_nI (by omega)
                  refine g_cv (ls2 := [(0, .ref (E.ad 178)), (1, .int (nmI f L (nx f L p))), (2, .int (nmI f L (nx f L (nx f L p)))), (3, .int (nI (nx f L (nx f L (nx f L (nx f L p)))))), (4, .int (nmI f L (nx f L (nx f L (nx f L (nx f L p)))))), (5, .int (nmI f L (nx f L (nx f L (nx f L (nx f L (nx f L p))))))), (6, .int (nI (A + 0)))]) (by rw [Nat.add_zero, ← hA]) rfl ?_
                  have LQ : ∀ j k : Nat, BB + 1 - (A + k) ≤ j → A + k ≤ BB + 1 → G E X (QMP E X (QV u T W B f L (letD T (moV u) (owV u) (shV u) f L p)) 0) 7 0 109 [(0, .ref (E.ad 178)), (1, .int (nmI f L (nx f L p))), (2, .int (nmI f L (nx f L (nx f L p)))), (3, .int (nI (nx f L (nx f L (nx f L (nx f L p)))))), (4, .int (nmI f L (nx f L (nx f L (nx f L (nx f L p)))))), (5, .int (nmI f L (nx f L (nx f L (nx f L (nx f L (nx f L p))))))), (6, .int (nI (A + k)))] [] (MR (ltM u (ix (nmI f L (nx f L p)) * 24) mm A k) B L (enN f L (nx f L (nx f L (nx f L (nx f L (nx f L p)))))) (-1)) := by
                    intro j2
                    induction j2 with
                    | zero =>
                      intro k hj3 hk3
                      refine g_iload h dX11_letLine_109 rfl ?_
                      refine g_iload h dX11_letLine_111 rfl ?_
                      refine g_top hB ?_
                      refine g_icmp_gt (tgt := 145) h dX11_letLine_113 (by decide) (fun c113 => ?_) (fun c113 => ?_)
                      · have n113 := lt_n (by omega) (by omega) (show nI (BB) < nI (A + k) from c113)
                        exact g_vretP h hrt dX11_letLine_145 (by omega) (qv_k (by rw [letD, if_pos n5, if_pos n14, if_pos n21, if_pos n34, if_pos hz, if_pos n101]; rfl) e5 rfl (by rw [show apM u T W (.lt (ix (nmI f L (nx f L p)) * 24) (ix (nmI f L (nx f L (nx f L p)))) (ix (nmI f L (nx f L (nx f L (nx f L (nx f L p)))))) (ix (nmI f L (nx f L (nx f L (nx f L (nx f L (nx f L p)))))))) = ltM u (ix (nmI f L (nx f L p)) * 24) (ix (nmI f L (nx f L (nx f L (nx f L (nx f L (nx f L p))))))) (ix (nmI f L (nx f L (nx f L p)))) ((ix (nmI f L (nx f L (nx f L (nx f L (nx f L p)))))) + 1 - (ix (nmI f L (nx f L (nx f L p))))) from rfl, hAx, hBx, hmx, show BB + 1 - A = k by omega]))
                      · have n113 := nlt_n (by omega) (by omega) (show ¬ nI (BB) < nI (A + k) from c113)
                        refine g_aload_n h dX11_letLine_116 rfl rfl ?_
                        refine g_getI h fl_X11_25_10 sh_178 (by decide) rfl dX11_letLine_117 ?_
                        refine g_top mr_r12 ?_
                        refine g_iconst (v := -1) h dX11_letLine_120 (by decide) ?_
                        refine g_icmp_ne (tgt := 145) h dX11_letLine_121 (by decide) (fun c121 => ?_) (fun c121 => ?_)
                        · exact absurd rfl c121
                        · refine g_aload_n h dX11_letLine_124 rfl rfl ?_
                          refine g_bipush (v := nI 24) h dX11_letLine_125 (by decide) ?_
                          refine g_iload_n h dX11_letLine_127 rfl rfl ?_
                          refine g_imul h dX11_letLine_128 ?_
                          refine g_iload h dX11_letLine_129 rfl ?_
                          refine g_iadd h dX11_letLine_131 ?_
                          refine g_top (y := nI (ix (nmI f L (nx f L p)) * 24 + (A + k))) (by rw [x1, z1, nI_mul, Nat.mul_comm]; exact nI_add _ _) ?_
                          refine g_iload h dX11_letLine_132 rfl ?_
                          refine g_top hm ?_
                          refine g_iload h dX11_letLine_134 rfl ?_
                          refine g_top hm ?_
                          refine g_V h lv_X11_149_X11 sh_178 (by decide) rfl (c_X11_has (ix (nmI f L (nx f L p)) * 24 + (A + k)) (by omega) (nI mm) (nI mm) _) (fitR hR (by first | decide | omega) (by decide) (by omega)) rfl rfl (Nat.le_of_ble_eq_true rfl) dX11_letLine_136 ?_
                          refine g_sto (hs_MR (u := ltM u (ix (nmI f L (nx f L p)) * 24) mm A k)) ?_
                          refine g_iinc (v := nI (A + (k + 1))) (ls' := [(0, _), (1, _), (2, _), (3, _), (4, _), (5, _), (6, _)]) h dX11_letLine_139 rfl (nI_1 (A + k)) (by decide) rfl rfl ?_
                          refine g_goto (tgt := 109) h dX11_letLine_142 (by decide) ?_
                          exact absurd n113 (by omega)
                    | succ j2 ih2 =>
                      intro k hj3 hk3
                      refine g_iload h dX11_letLine_109 rfl ?_
                      refine g_iload h dX11_letLine_111 rfl ?_
                      refine g_top hB ?_
                      refine g_icmp_gt (tgt := 145) h dX11_letLine_113 (by decide) (fun c113 => ?_) (fun c113 => ?_)
                      · have n113 := lt_n (by omega) (by omega) (show nI (BB) < nI (A + k) from c113)
                        exact g_vretP h hrt dX11_letLine_145 (by omega) (qv_k (by rw [letD, if_pos n5, if_pos n14, if_pos n21, if_pos n34, if_pos hz, if_pos n101]; rfl) e5 rfl (by rw [show apM u T W (.lt (ix (nmI f L (nx f L p)) * 24) (ix (nmI f L (nx f L (nx f L p)))) (ix (nmI f L (nx f L (nx f L (nx f L (nx f L p)))))) (ix (nmI f L (nx f L (nx f L (nx f L (nx f L (nx f L p)))))))) = ltM u (ix (nmI f L (nx f L p)) * 24) (ix (nmI f L (nx f L (nx f L (nx f L (nx f L (nx f L p))))))) (ix (nmI f L (nx f L (nx f L p)))) ((ix (nmI f L (nx f L (nx f L (nx f L (nx f L p)))))) + 1 - (ix (nmI f L (nx f L (nx f L p))))) from rfl, hAx, hBx, hmx, show BB + 1 - A = k by omega]))
                      · have n113 := nlt_n (by omega) (by omega) (show ¬ nI (BB) < nI (A + k) from c113)
                        refine g_aload_n h dX11_letLine_116 rfl rfl ?_
                        refine g_getI h fl_X11_25_10 sh_178 (by decide) rfl dX11_letLine_117 ?_
                        refine g_top mr_r12 ?_
                        refine g_iconst (v := -1) h dX11_letLine_120 (by decide) ?_
                        refine g_icmp_ne (tgt := 145) h dX11_letLine_121 (by decide) (fun c121 => ?_) (fun c121 => ?_)
                        · exact absurd rfl c121
                        · refine g_aload_n h dX11_letLine_124 rfl rfl ?_
                          refine g_bipush (v := nI 24) h dX11_letLine_125 (by decide) ?_
                          refine g_iload_n h dX11_letLine_127 rfl rfl ?_
                          refine g_imul h dX11_letLine_128 ?_
                          refine g_iload h dX11_letLine_129 rfl ?_
                          refine g_iadd h dX11_letLine_131 ?_
                          refine g_top (y := nI (ix (nmI f L (nx f L p)) * 24 + (A + k))) (by rw [x1, z1, nI_mul, Nat.mul_comm]; exact nI_add _ _) ?_
                          refine g_iload h dX11_letLine_132 rfl ?_
                          refine g_top hm ?_
                          refine g_iload h dX11_letLine_134 rfl ?_
                          refine g_top hm ?_
                          refine g_V h lv_X11_149_X11 sh_178 (by decide) rfl (c_X11_has (ix (nmI f L (nx f L p)) * 24 + (A + k)) (by omega) (nI mm) (nI mm) _) (fitR hR (by first | decide | omega) (by decide) (by omega)) rfl rfl (Nat.le_of_ble_eq_true rfl) dX11_letLine_136 ?_
                          refine g_sto (hs_MR (u := ltM u (ix (nmI f L (nx f L p)) * 24) mm A k)) ?_
                          refine g_iinc (v := nI (A + (k + 1))) (ls' := [(0, _), (1, _), (2, _), (3, _), (4, _), (5, _), (6, _)]) h dX11_letLine_139 rfl (nI_1 (A + k)) (by decide) rfl rfl ?_
                          refine g_goto (tgt := 109) h dX11_letLine_142 (by decide) ?_
                          exact ih2 (k + 1) (by omega) (by omega)
                  exact LQ (BB + 1) 0 (by omega) (by omega)
                  
                · cases hv101
                  have hw9 := nw q5 hL
                  refine g_istore (ls' := [(0, _), (1, _), (2, _), (3, _), (4, _), (5, _)]) h dX11_letLine_104 (by decide) rfl rfl ?_
                  refine g_iload_n h dX11_letLine_106 rfl rfl ?_
                  refine g_istore (ls' := [(0, _), (1, _), (2, _), (3, _), (4, _), (5, _), (6, _)]) h dX11_letLine_107 (by decide) rfl rfl ?_
                  refine g_iload h dX11_letLine_109 rfl ?_
                  refine g_iload h dX11_letLine_111 rfl ?_
                  refine g_top hB ?_
                  refine g_icmp_gt (tgt := 145) h dX11_letLine_113 (by decide) (fun c113 => ?_) (fun c113 => ?_)
                  · exact g_vretP h hrt dX11_letLine_145 (by omega) (qv_e (by rw [letD, if_pos n5, if_pos n14, if_pos n21, if_pos n34, if_pos hz, if_neg n101]) (by first | assumption | exact (skp_b (by assumption)).2 | exact (skp_b (skp_b (by assumption)).2).2))
                  · refine g_aload_n h dX11_letLine_116 rfl rfl ?_
                    refine g_getI h fl_X11_25_10 sh_178 (by decide) rfl dX11_letLine_117 ?_
                    refine g_top mr_r12 ?_
                    refine g_iconst (v := -1) h dX11_letLine_120 (by decide) ?_
                    refine g_icmp_ne (tgt := 145) h dX11_letLine_121 (by decide) (fun c121 => ?_) (fun c121 => ?_)
                    · exact g_vretP h hrt dX11_letLine_145 (by omega) (qv_e (by rw [letD, if_pos n5, if_pos n14, if_pos n21, if_pos n34, if_pos hz, if_neg n101]) (by first | assumption | exact (skp_b (by assumption)).2 | exact (skp_b (skp_b (by assumption)).2).2))
                    · exact absurd c121 hw9
              · have n46 := nlt_n (by omega) (by omega) (show ¬ nI (BB) < nI (k) from c46)
                refine g_aload_n h dX11_letLine_49 rfl rfl ?_
                refine g_getI h fl_X11_25_10 sh_178 (by decide) rfl dX11_letLine_50 ?_
                refine g_top mr_r12 ?_
                refine g_iconst (v := -1) h dX11_letLine_53 (by decide) ?_
                refine g_icmp_ne (tgt := 100) h dX11_letLine_54 (by decide) (fun c54 => ?_) (fun c54 => ?_)
                · exact absurd rfl c54
                · refine g_aload_n h dX11_letLine_57 rfl rfl ?_
                  refine g_bipush (v := nI 24) h dX11_letLine_58 (by decide) ?_
                  refine g_iload_n h dX11_letLine_60 rfl rfl ?_
                  refine g_imul h dX11_letLine_61 ?_
                  refine g_iload h dX11_letLine_62 rfl ?_
                  refine g_iadd h dX11_letLine_64 ?_
                  refine g_top (y := nI (ix (nmI f L (nx f L p)) * 24 + k)) (by rw [x1, z1, nI_mul, Nat.mul_comm]; exact nI_add _ _) ?_
                  refine g_iconst (v := nI 0) h dX11_letLine_65 (by decide) ?_
                  refine g_V h lv_X11_84_X11 sh_178 (by decide) rfl (c_X11_ofRoom (ix (nmI f L (nx f L p)) * 24 + k) 0 (by omega) (by decide) _) (fitR hR (by first | decide | omega) (by decide) (by omega)) rfl rfl (Nat.le_of_ble_eq_true rfl) dX11_letLine_66 ?_
                  refine g_top (y := owV u (ix (nmI f L (nx f L p)) * 24 + k)) (congrFun (mr_oc (by decide)) _) ?_
                  refine g_iconst (v := -1) h dX11_letLine_69 (by decide) ?_
                  refine g_icmp_ne (tgt := 89) h dX11_letLine_70 (by decide) (fun c70 => ?_) (fun c70 => ?_)
                  · have hz : ¬ lfB (owV u) (shV u) (ix (nmI f L (nx f L p)) * 24) (ix (nmI f L (nx f L (nx f L p)))) (ix (nmI f L (nx f L (nx f L (nx f L (nx f L p)))))) = true := by rw [hAx, hBx]; exact lf_0 hk1 n46 (fun z => c70 z.1)
                    refine g_aload_n h dX11_letLine_89 rfl rfl ?_
                    refine g_iload_n h dX11_letLine_90 rfl rfl ?_
                    refine g_V h lv_X11_123_X11 sh_178 (by decide) rfl (c_X11_wrong B f L (enN f L (nx f L (nx f L (nx f L (nx f L p))))) (-1) (nI (nx f L (nx f L (nx f L (nx f L p))))) u hf hL e4) (fitR hR (by first | decide | omega) (by decide) (by omega)) rfl rfl (Nat.le_of_ble_eq_true rfl) dX11_letLine_91 ?_
                    refine g_sto (mr_wv (if_pos rfl)) ?_
                    refine g_iinc (v := nI (k + 1)) (ls' := [(0, _), (1, _), (2, _), (3, _), (4, _), (5, _)]) h dX11_letLine_94 rfl (nI_1 k) (by decide) rfl rfl ?_
                    refine g_goto (tgt := 42) h dX11_letLine_97 (by decide) ?_
                    exact XN _ _ _ _ _ _ _ e4 (nw q4 hL) (by rw [letD, if_pos n5, if_pos n14, if_pos n21, if_pos n34, if_neg hz])
                  · refine g_aload_n h dX11_letLine_73 rfl rfl ?_
                    refine g_bipush (v := nI 24) h dX11_letLine_74 (by decide) ?_
                    refine g_iload_n h dX11_letLine_76 rfl rfl ?_
                    refine g_imul h dX11_letLine_77 ?_
                    refine g_iload h dX11_letLine_78 rfl ?_
                    refine g_iadd h dX11_letLine_80 ?_
                    refine g_top (y := nI (ix (nmI f L (nx f L p)) * 24 + k)) (by rw [x1, z1, nI_mul, Nat.mul_comm]; exact nI_add _ _) ?_
                    refine g_iconst (v := nI 3) h dX11_letLine_81 (by decide) ?_
                    refine g_V h lv_X11_84_X11 sh_178 (by decide) rfl (c_X11_ofRoom (ix (nmI f L (nx f L p)) * 24 + k) 3 (by omega) (by decide) _) (fitR hR (by first | decide | omega) (by decide) (by omega)) rfl rfl (Nat.le_of_ble_eq_true rfl) dX11_letLine_82 ?_
                    refine g_top (y := shV u (ix (nmI f L (nx f L p)) * 24 + k)) ((congrFun (mr_oc (by decide)) _).trans (congrArg (u 179) (by omega))) ?_
                    refine g_iconst (v := nI 1) h dX11_letLine_85 (by decide) ?_
                    refine g_icmp_ne (tgt := 94) h dX11_letLine_86 (by decide) (fun c86 => ?_) (fun c86 => ?_)
                    · have hsh0 : shV u (ix (nmI f L (nx f L p)) * 24 + k) = 0 := (hsh (ix (nmI f L (nx f L p)) * 24 + k) (by omega)).resolve_right c86
                      refine g_iinc (v := nI (k + 1)) (ls' := [(0, _), (1, _), (2, _), (3, _), (4, _), (5, _)]) h dX11_letLine_94 rfl (nI_1 k) (by decide) rfl rfl ?_
                      refine g_goto (tgt := 42) h dX11_letLine_97 (by decide) ?_
                      exact ih (k + 1) (by omega) (by omega) (by omega) (fun y y1 y2 => by
                        by_cases q : y = k
                        · subst q; exact ⟨c70, hsh0⟩
                        · exact hall y y1 (by omega))
                    · have hz : ¬ lfB (owV u) (shV u) (ix (nmI f L (nx f L p)) * 24) (ix (nmI f L (nx f L (nx f L p)))) (ix (nmI f L (nx f L (nx f L (nx f L (nx f L p)))))) = true := by rw [hAx, hBx]; exact lf_0 hk1 n46 (fun z => absurd (c86.symm.trans z.2) (by decide))
                      refine g_aload_n h dX11_letLine_89 rfl rfl ?_
                      refine g_iload_n h dX11_letLine_90 rfl rfl ?_
                      refine g_V h lv_X11_123_X11 sh_178 (by decide) rfl (c_X11_wrong B f L (enN f L (nx f L (nx f L (nx f L (nx f L p))))) (-1) (nI (nx f L (nx f L (nx f L (nx f L p))))) u hf hL e4) (fitR hR (by first | decide | omega) (by decide) (by omega)) rfl rfl (Nat.le_of_ble_eq_true rfl) dX11_letLine_91 ?_
                      refine g_sto (mr_wv (if_pos rfl)) ?_
                      refine g_iinc (v := nI (k + 1)) (ls' := [(0, _), (1, _), (2, _), (3, _), (4, _), (5, _)]) h dX11_letLine_94 rfl (nI_1 k) (by decide) rfl rfl ?_
                      refine g_goto (tgt := 42) h dX11_letLine_97 (by decide) ?_
                      exact XN _ _ _ _ _ _ _ e4 (nw q4 hL) (by rw [letD, if_pos n5, if_pos n14, if_pos n21, if_pos n34, if_neg hz])
          exact LP (BB + 1) A (by omega) (Nat.le_refl _) (by omega) (fun y y1 y2 => absurd y2 (by omega))
          
        · cases hv34
          have hw9 := nw q4 hL
          refine g_istore (ls' := [(0, _), (1, _), (2, _), (3, _), (4, _)]) h dX11_letLine_37 (by decide) rfl rfl ?_
          refine g_iload_n h dX11_letLine_39 rfl rfl ?_
          refine g_istore (ls' := [(0, _), (1, _), (2, _), (3, _), (4, _), (5, _)]) h dX11_letLine_40 (by decide) rfl rfl ?_
          exact XN _ _ _ _ _ _ _ (by first | assumption | exact (skp_b (by assumption)).2 | exact (skp_b (skp_b (by assumption)).2).2) hw9 (by rw [letD, if_pos n5, if_pos n14, if_pos n21, if_neg n34])
      · refine g_sto (if_neg n21) ?_
        have hw9 := nw q3 hL
        have hq9 : skp f L (enN f L (nx f L (nx f L p))) ≤ L := q3
        refine g_aload_n h dX11_letLine_24 rfl rfl ?_
        refine g_V h lv_X11_127_X11 sh_178 (by decide) rfl (c_X11_place B f L _ _ u hf hL (by first | assumption | exact (skp_b (by assumption)).2 | exact (skp_b (skp_b (by assumption)).2).2)) (fitR hR (by first | decide | omega) (by decide) (by omega)) rfl rfl (Nat.le_of_ble_eq_true rfl) dX11_letLine_25 ?_
        refine g_istore_n (ls' := [(0, _), (1, _), (2, _), (3, _)]) h dX11_letLine_28 rfl (by decide) rfl rfl ?_
        refine g_aload_n h dX11_letLine_29 rfl rfl ?_
        refine g_iload_n h dX11_letLine_30 rfl rfl ?_
        refine g_bipush (v := nI 23) h dX11_letLine_31 (by decide) ?_
        refine g_iconst (v := nI 3) h dX11_letLine_33 (by decide) ?_
        refine g_V h lv_X11_130_X11 sh_178 (by decide) rfl (c_X11_figures_x B f L _ _ _ _ _ hw9 u hf hL (by first | assumption | exact (skp_b (by assumption)).2 | exact (skp_b (skp_b (by assumption)).2).2)) (fitR hR (by first | decide | omega) (by decide) (by omega)) rfl rfl (Nat.le_of_ble_eq_true rfl) dX11_letLine_34 ?_
        refine g_istore (ls' := [(0, _), (1, _), (2, _), (3, _), (4, _)]) h dX11_letLine_37 (by decide) rfl rfl ?_
        refine g_iload_n h dX11_letLine_39 rfl rfl ?_
        refine g_istore (ls' := [(0, _), (1, _), (2, _), (3, _), (4, _), (5, _)]) h dX11_letLine_40 (by decide) rfl rfl ?_
        exact XN _ _ _ _ _ _ _ (by first | assumption | exact (skp_b (by assumption)).2 | exact (skp_b (skp_b (by assumption)).2).2) hw9 (by rw [letD, if_pos n5, if_pos n14, if_neg n21])
    · cases hv14
      have hw9 := nw q2 hL
      refine g_istore_n (ls' := [(0, _), (1, _), (2, _)]) h dX11_letLine_17 rfl (by decide) rfl rfl ?_
      refine g_aload_n h dX11_letLine_18 rfl rfl ?_
      refine g_ldcS (tx := "to") (k := 2) h (by decide) dX11_letLine_19 ?_
      refine g_V h lv_X11_136_X11 sh_178 (by decide) rfl (c_X11_must_x B f L _ _ _ hw9 u hf hL (by first | assumption | exact (skp_b (by assumption)).2 | exact (skp_b (skp_b (by assumption)).2).2)) (fitR hR (by first | decide | omega) (by decide) (by omega)) rfl rfl (Nat.le_of_ble_eq_true rfl) dX11_letLine_21 ?_
      refine g_aload_n h dX11_letLine_24 rfl rfl ?_
      refine g_V h lv_X11_127_X11 sh_178 (by decide) rfl (c_X11_place B f L _ _ u hf hL (by first | assumption | exact (skp_b (by assumption)).2 | exact (skp_b (skp_b (by assumption)).2).2)) (fitR hR (by first | decide | omega) (by decide) (by omega)) rfl rfl (Nat.le_of_ble_eq_true rfl) dX11_letLine_25 ?_
      refine g_istore_n (ls' := [(0, _), (1, _), (2, _), (3, _)]) h dX11_letLine_28 rfl (by decide) rfl rfl ?_
      refine g_aload_n h dX11_letLine_29 rfl rfl ?_
      refine g_iload_n h dX11_letLine_30 rfl rfl ?_
      refine g_bipush (v := nI 23) h dX11_letLine_31 (by decide) ?_
      refine g_iconst (v := nI 3) h dX11_letLine_33 (by decide) ?_
      refine g_V h lv_X11_130_X11 sh_178 (by decide) rfl (c_X11_figures_x B f L _ _ _ _ _ hw9 u hf hL (by first | assumption | exact (skp_b (by assumption)).2 | exact (skp_b (skp_b (by assumption)).2).2)) (fitR hR (by first | decide | omega) (by decide) (by omega)) rfl rfl (Nat.le_of_ble_eq_true rfl) dX11_letLine_34 ?_
      refine g_istore (ls' := [(0, _), (1, _), (2, _), (3, _), (4, _)]) h dX11_letLine_37 (by decide) rfl rfl ?_
      refine g_iload_n h dX11_letLine_39 rfl rfl ?_
      refine g_istore (ls' := [(0, _), (1, _), (2, _), (3, _), (4, _), (5, _)]) h dX11_letLine_40 (by decide) rfl rfl ?_
      exact XN _ _ _ _ _ _ _ (by first | assumption | exact (skp_b (by assumption)).2 | exact (skp_b (skp_b (by assumption)).2).2) hw9 (by rw [letD, if_pos n5, if_neg n14])
  · cases hv5
    have hw9 := nw q1 hL
    refine g_istore_n (ls' := [(0, _), (1, _)]) h dX11_letLine_8 rfl (by decide) rfl rfl ?_
    refine g_aload_n h dX11_letLine_9 rfl rfl ?_
    refine g_iconst (v := nI 0) h dX11_letLine_10 (by decide) ?_
    refine g_bipush (v := nI 23) h dX11_letLine_11 (by decide) ?_
    refine g_iconst (v := nI 3) h dX11_letLine_13 (by decide) ?_
    refine g_V h lv_X11_130_X11 sh_178 (by decide) rfl (c_X11_figures_x B f L _ _ _ _ _ hw9 u hf hL (by first | assumption | exact (skp_b (by assumption)).2 | exact (skp_b (skp_b (by assumption)).2).2)) (fitR hR (by first | decide | omega) (by decide) (by omega)) rfl rfl (Nat.le_of_ble_eq_true rfl) dX11_letLine_14 ?_
    refine g_istore_n (ls' := [(0, _), (1, _), (2, _)]) h dX11_letLine_17 rfl (by decide) rfl rfl ?_
    refine g_aload_n h dX11_letLine_18 rfl rfl ?_
    refine g_ldcS (tx := "to") (k := 2) h (by decide) dX11_letLine_19 ?_
    refine g_V h lv_X11_136_X11 sh_178 (by decide) rfl (c_X11_must_x B f L _ _ _ hw9 u hf hL (by first | assumption | exact (skp_b (by assumption)).2 | exact (skp_b (skp_b (by assumption)).2).2)) (fitR hR (by first | decide | omega) (by decide) (by omega)) rfl rfl (Nat.le_of_ble_eq_true rfl) dX11_letLine_21 ?_
    refine g_aload_n h dX11_letLine_24 rfl rfl ?_
    refine g_V h lv_X11_127_X11 sh_178 (by decide) rfl (c_X11_place B f L _ _ u hf hL (by first | assumption | exact (skp_b (by assumption)).2 | exact (skp_b (skp_b (by assumption)).2).2)) (fitR hR (by first | decide | omega) (by decide) (by omega)) rfl rfl (Nat.le_of_ble_eq_true rfl) dX11_letLine_25 ?_
    refine g_istore_n (ls' := [(0, _), (1, _), (2, _), (3, _)]) h dX11_letLine_28 rfl (by decide) rfl rfl ?_
    refine g_aload_n h dX11_letLine_29 rfl rfl ?_
    refine g_iload_n h dX11_letLine_30 rfl rfl ?_
    refine g_bipush (v := nI 23) h dX11_letLine_31 (by decide) ?_
    refine g_iconst (v := nI 3) h dX11_letLine_33 (by decide) ?_
    refine g_V h lv_X11_130_X11 sh_178 (by decide) rfl (c_X11_figures_x B f L _ _ _ _ _ hw9 u hf hL (by first | assumption | exact (skp_b (by assumption)).2 | exact (skp_b (skp_b (by assumption)).2).2)) (fitR hR (by first | decide | omega) (by decide) (by omega)) rfl rfl (Nat.le_of_ble_eq_true rfl) dX11_letLine_34 ?_
    refine g_istore (ls' := [(0, _), (1, _), (2, _), (3, _), (4, _)]) h dX11_letLine_37 (by decide) rfl rfl ?_
    refine g_iload_n h dX11_letLine_39 rfl rfl ?_
    refine g_istore (ls' := [(0, _), (1, _), (2, _), (3, _), (4, _), (5, _)]) h dX11_letLine_40 (by decide) rfl rfl ?_
    exact XN _ _ _ _ _ _ _ (by first | assumption | exact (skp_b (by assumption)).2 | exact (skp_b (skp_b (by assumption)).2).2) hw9 (by rw [letD, if_neg n5])
