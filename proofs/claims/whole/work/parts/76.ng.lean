-- after: 38.r 39.s 40.t 47.str 48.tx 49.ty 50.tt 51.tu 52.tv 53.lw 59.mc 62.mf 70.na 71.nb 72.nc 73.nd 74.ne 75.nf
theorem c_X11_hass {E : EE} (B : Int32) (f : Nat → Int32) (L p s : Nat) (hs : skp f L p = s) (w : Int32) (i : Nat) (hi : i < strN) (hi0 : 0 < strLen.getD i 0) (u : Sto) (hf : LF u B f) (hL : L ≤ 400) (hp : p ≤ L) : Ct E 5 0 yX11_has_ cX11_has_ 4 (some .boolean) [.ref (E.ad 178), .ref (E.aK i)] (MR u B L p w) (.inl (some (.int (b2 (wdB f L s i = true))))) (MR u B L (if wdB f L s i = true then enN f L s else s) w) := by
  subst hs
  exact c_X11_has_ B f L p w i hi hi0 u hf hL hp
theorem rmz0 {x : Int32} : (nI 0 = nI 1 ↔ ¬ x = -1) ↔ x = -1 := by
  constructor
  · intro h
    by_cases e : x = -1
    · exact e
    · exact absurd (h.mpr e) (by decide)
  · intro h; exact ⟨fun z => absurd z (by decide), fun z => absurd h z⟩
theorem rmz1 {x : Int32} : (nI 1 = nI 1 ↔ ¬ x = -1) ↔ ¬ x = -1 := ⟨fun h => h.mp rfl, fun h => ⟨fun _ => h, fun _ => rfl⟩⟩
set_option maxHeartbeats 1000000 in
theorem c_X11_townLine {E : EE} (B : Int32) (f : Nat → Int32) (L p : Nat) (T W : Nat) (hT : T ≤ 10) (hW : W ≤ 8) (a0 : Nat) (hs0 : skp f L a0 = p) (ha0 : a0 ≤ L) (u : Sto) (hf : LF u B f) (hL : L ≤ 400) (h0 : p ≤ L) (hT1 : u 179 1 = nI T) (hW1 : u 179 9 = nI W) (hsh : ∀ r, r < 168 → shV u r = nI 0 ∨ shV u r = nI 1) : CtP E 8 0 yX11_townLine cX11_townLine 5 none [.ref (E.ad 178)] (MR u B L a0 (-1)) (QV u T W B f L (twD T W (moV u) (owV u) (shV u) f L p)) := by
  have q1 := (nx_b (f := f) h0).2
  have q2 := (nx_b (f := f) q1).2
  have q3 := (nx_b (f := f) q2).2
  have q4 := (nx_b (f := f) q3).2
  have q5 := (nx_b (f := f) q4).2
  have q6 := (nx_b (f := f) q5).2
  have q7 := (nx_b (f := f) q6).2
  have q8 := (nx_b (f := f) q7).2
  have e0 := (enN_b (f := f) h0).2
  have e1 := (enN_b (f := f) q1).2
  have e2 := (enN_b (f := f) q2).2
  have e3 := (enN_b (f := f) q3).2
  have e4 := (enN_b (f := f) q4).2
  have e5 := (enN_b (f := f) q5).2
  have e6 := (enN_b (f := f) q6).2
  have e7 := (enN_b (f := f) q7).2
  have hpp : skp f L p = p := by rw [← hs0]; exact sk_sk (Nat.le_refl _)
  refine ctp_of (by decide) (Nat.le_of_ble_eq_true rfl) (fun X h hR hrt htab hargs => ?_)
  refine g_aload_n h dX11_townLine_0 rfl rfl ?_
  refine g_V h lv_X11_127_X11 sh_178 (by decide) rfl (c_X11_place B f L a0 (-1) u hf hL ha0) (fitR hR (by first | decide | omega) (by decide) (by omega)) rfl rfl (Nat.le_of_ble_eq_true rfl) dX11_townLine_1 ?_
  refine g_top (congrArg nI hs0) ?_
  refine g_sto (mr_pv (congrArg nI hs0)) ?_
  refine g_istore_n (ls' := [(0, _), (1, _)]) h dX11_townLine_4 rfl (by decide) rfl rfl ?_
  refine g_aload_n h dX11_townLine_5 rfl rfl ?_
  refine g_ldcS (tx := "tenant") (k := 0) h (by decide) dX11_townLine_6 ?_
  refine g_V h lv_X11_119_X11 sh_178 (by decide) rfl (c_X11_hass B f L p p hpp (-1) 0 (by decide) (by decide) u hf hL h0) (fitR hR (by first | decide | omega) (by decide) (by omega)) rfl rfl (Nat.le_of_ble_eq_true rfl) dX11_townLine_8 ?_
  by_cases n8 : wdB f L p 0 = true
  · refine g_top (b2_t n8) ?_
    refine g_sto (mr_pv (congrArg nI (if_pos n8))) ?_
    refine g_if_eq (tgt := 22) h dX11_townLine_11 (by decide) (fun q => absurd q (by decide)) (fun _ => ?_)
    refine g_aload_n h dX11_townLine_14 rfl rfl ?_
    refine g_iload_n h dX11_townLine_15 rfl rfl ?_
    refine g_VP h lv_X11_154_X11 sh_178 (by decide) rfl (c_X11_tenantLine B f L p T W hT hW u hf hL h0 hT1 hW1) qv_nx (fitR hR (by first | decide | omega) (by decide) (by omega)) rfl rfl (Nat.le_of_ble_eq_true rfl) dX11_townLine_16 (fun v16 u16 hs16 => ?_)
    obtain ⟨hv16, hs16⟩ := hs16
    cases hv16
    refine g_goto (tgt := 355) h dX11_townLine_19 (by decide) ?_
    exact g_vretP h hrt dX11_townLine_355 (by omega) ⟨rfl, by rw [twD, if_pos n8]; exact hs16⟩
  · refine g_top (b2_f n8) ?_
    refine g_sto (mr_pv (congrArg nI (if_neg n8))) ?_
    refine g_if_eq (tgt := 22) h dX11_townLine_11 (by decide) (fun _ => ?_) (fun q => absurd q (by decide))
    refine g_aload_n h dX11_townLine_22 rfl rfl ?_
    refine g_ldcS (tx := "child") (k := 3) h (by decide) dX11_townLine_23 ?_
    refine g_V h lv_X11_119_X11 sh_178 (by decide) rfl (c_X11_hass B f L p p hpp (-1) 3 (by decide) (by decide) u hf hL h0) (fitR hR (by first | decide | omega) (by decide) (by omega)) rfl rfl (Nat.le_of_ble_eq_true rfl) dX11_townLine_25 ?_
    by_cases n25 : wdB f L p 3 = true
    · refine g_top (b2_t n25) ?_
      refine g_sto (mr_pv (congrArg nI (if_pos n25))) ?_
      refine g_if_eq (tgt := 77) h dX11_townLine_28 (by decide) (fun q => absurd q (by decide)) (fun _ => ?_)
      refine g_aload_n h dX11_townLine_31 rfl rfl ?_
      refine g_getR h fl_X11_7_10 sh_178 (by decide) rfl dX11_townLine_32 ?_
      refine g_iconst (v := nI 1) h dX11_townLine_35 (by decide) ?_
      refine g_iald h _ _ _ sh_179 (by decide) (by decide) rfl (by omega) dX11_townLine_36 ?_
      refine g_top (mr_o (by decide)) ?_
      refine g_top hT1 ?_
      refine g_bipush (v := nI 10) h dX11_townLine_37 (by decide) ?_
      refine g_icmp_ne (tgt := 47) h dX11_townLine_39 (by decide) (fun c39 => ?_) (fun c39 => ?_)
      · have n39 := ne_n (show ¬ nI (T) = nI (10) from c39)
        refine g_aload_n h dX11_townLine_47 rfl rfl ?_
        refine g_ldcS (tx := "of") (k := 4) h (by decide) dX11_townLine_48 ?_
        refine g_V h lv_X11_136_X11 sh_178 (by decide) rfl (c_X11_must B f L (enN f L p) 4 (by decide) (by decide) u hf hL e0) (fitR hR (by first | decide | omega) (by decide) (by omega)) rfl rfl (Nat.le_of_ble_eq_true rfl) dX11_townLine_50 ?_
        by_cases n50 : wdB f L (nx f L p) 4 = true
        · refine g_sto (if_pos n50) ?_
          refine g_aload_n h dX11_townLine_53 rfl rfl ?_
          refine g_VP h lv_X11_146_X11 sh_178 (by decide) rfl (c_X11_tenantHere B f L (enN f L (nx f L p)) (nx f L (nx f L p)) rfl T hT u hf hL e1 hT1) (by rintro Ex s (⟨_, h, _⟩ | ⟨_, _, _, _, h, _⟩) <;> exact nomatch h) (fitR hR (by first | decide | omega) (by decide) (by omega)) rfl rfl (Nat.le_of_ble_eq_true rfl) dX11_townLine_54 (fun v54 u54 hs54 => ?_)
          rcases hs54 with ⟨n54, hv54, rfl⟩ | ⟨n54, x54, q9, hq9, hv54, rfl⟩
          · cases hv54
            refine g_istore_n (ls' := [(0, _), (1, _), (2, _)]) h dX11_townLine_57 rfl (by decide) rfl rfl ?_
            refine g_aload_n h dX11_townLine_58 rfl rfl ?_
            refine g_getI h fl_X11_25_10 sh_178 (by decide) rfl dX11_townLine_59 ?_
            refine g_top mr_r12 ?_
            refine g_iconst (v := -1) h dX11_townLine_62 (by decide) ?_
            refine g_icmp_ne (tgt := 74) h dX11_townLine_63 (by decide) (fun c63 => ?_) (fun c63 => ?_)
            · exact absurd rfl c63
            · refine g_aload_n h dX11_townLine_66 rfl rfl ?_
              refine g_iconst (v := nI 0) h dX11_townLine_67 (by decide) ?_
              refine g_iconst (v := -1) h dX11_townLine_68 (by decide) ?_
              refine g_iconst (v := -1) h dX11_townLine_69 (by decide) ?_
              refine g_iload_n h dX11_townLine_70 rfl rfl ?_
              refine g_V h lv_X11_142_X11 sh_178 (by decide) rfl (c_X11_comes T (by omega) _ _ _ _ _ ((congrFun (mr_oc (by decide)) 1).trans hT1)) (fitR hR (by first | decide | omega) (by decide) (by omega)) rfl rfl (Nat.le_of_ble_eq_true rfl) dX11_townLine_71 ?_
              refine g_sto cm_MR ?_
              refine g_goto (tgt := 355) h dX11_townLine_74 (by decide) ?_
              exact g_vretP h hrt dX11_townLine_355 (by omega) (qv_k (by rw [twD, if_neg n8, if_pos n25, chlD, if_pos (show T < 10 by omega), if_pos n50, if_pos n54]; rfl) e2 rfl rfl)
          · cases hv54
            have hw9 := nw q2 hL
            refine g_istore_n (ls' := [(0, _), (1, _), (2, _)]) h dX11_townLine_57 rfl (by decide) rfl rfl ?_
            refine g_aload_n h dX11_townLine_58 rfl rfl ?_
            refine g_getI h fl_X11_25_10 sh_178 (by decide) rfl dX11_townLine_59 ?_
            refine g_top mr_r12 ?_
            refine g_iconst (v := -1) h dX11_townLine_62 (by decide) ?_
            refine g_icmp_ne (tgt := 74) h dX11_townLine_63 (by decide) (fun c63 => ?_) (fun c63 => ?_)
            · refine g_goto (tgt := 355) h dX11_townLine_74 (by decide) ?_
              exact g_vretP h hrt dX11_townLine_355 (by omega) (qv_e (by rw [twD, if_neg n8, if_pos n25, chlD, if_pos (show T < 10 by omega), if_pos n50, if_neg n54]) (by first | assumption | exact (skp_b (by assumption)).2 | exact (skp_b (skp_b (by assumption)).2).2))
            · exact absurd c63 hw9
        · refine g_sto (if_neg n50) ?_
          have hw9 := nw q1 hL
          have hq9 : skp f L (enN f L p) ≤ L := q1
          refine g_aload_n h dX11_townLine_53 rfl rfl ?_
          refine g_V h lv_X11_146_X11 sh_178 (by decide) rfl (c_X11_tenantHere_x B f L _ _ hw9 T u hf hL (by first | assumption | exact (skp_b (by assumption)).2 | exact (skp_b (skp_b (by assumption)).2).2) hT1) (fitR hR (by first | decide | omega) (by decide) (by omega)) rfl rfl (Nat.le_of_ble_eq_true rfl) dX11_townLine_54 ?_
          refine g_istore_n (ls' := [(0, _), (1, _), (2, _)]) h dX11_townLine_57 rfl (by decide) rfl rfl ?_
          refine g_aload_n h dX11_townLine_58 rfl rfl ?_
          refine g_getI h fl_X11_25_10 sh_178 (by decide) rfl dX11_townLine_59 ?_
          refine g_top mr_r12 ?_
          refine g_iconst (v := -1) h dX11_townLine_62 (by decide) ?_
          refine g_icmp_ne (tgt := 74) h dX11_townLine_63 (by decide) (fun c63 => ?_) (fun c63 => ?_)
          · refine g_goto (tgt := 355) h dX11_townLine_74 (by decide) ?_
            exact g_vretP h hrt dX11_townLine_355 (by omega) (qv_e (by rw [twD, if_neg n8, if_pos n25, chlD, if_pos (show T < 10 by omega), if_neg n50]) (by first | assumption | exact (skp_b (by assumption)).2 | exact (skp_b (skp_b (by assumption)).2).2))
          · exact absurd c63 hw9
      · have n39 := eq_n (by omega) (by omega) (show nI (T) = nI (10) from c39)
        refine g_aload_n h dX11_townLine_42 rfl rfl ?_
        refine g_iload_n h dX11_townLine_43 rfl rfl ?_
        refine g_V h lv_X11_123_X11 sh_178 (by decide) rfl (c_X11_wrong B f L (enN f L p) (-1) (nI p) u hf hL e0) (fitR hR (by first | decide | omega) (by decide) (by omega)) rfl rfl (Nat.le_of_ble_eq_true rfl) dX11_townLine_44 ?_
        refine g_sto (mr_wv (if_pos rfl)) ?_
        have hw9 := nw h0 hL
        refine g_aload_n h dX11_townLine_47 rfl rfl ?_
        refine g_ldcS (tx := "of") (k := 4) h (by decide) dX11_townLine_48 ?_
        refine g_V h lv_X11_136_X11 sh_178 (by decide) rfl (c_X11_must_x B f L _ _ _ hw9 u hf hL (by first | assumption | exact (skp_b (by assumption)).2 | exact (skp_b (skp_b (by assumption)).2).2)) (fitR hR (by first | decide | omega) (by decide) (by omega)) rfl rfl (Nat.le_of_ble_eq_true rfl) dX11_townLine_50 ?_
        refine g_aload_n h dX11_townLine_53 rfl rfl ?_
        refine g_V h lv_X11_146_X11 sh_178 (by decide) rfl (c_X11_tenantHere_x B f L _ _ hw9 T u hf hL (by first | assumption | exact (skp_b (by assumption)).2 | exact (skp_b (skp_b (by assumption)).2).2) hT1) (fitR hR (by first | decide | omega) (by decide) (by omega)) rfl rfl (Nat.le_of_ble_eq_true rfl) dX11_townLine_54 ?_
        refine g_istore_n (ls' := [(0, _), (1, _), (2, _)]) h dX11_townLine_57 rfl (by decide) rfl rfl ?_
        refine g_aload_n h dX11_townLine_58 rfl rfl ?_
        refine g_getI h fl_X11_25_10 sh_178 (by decide) rfl dX11_townLine_59 ?_
        refine g_top mr_r12 ?_
        refine g_iconst (v := -1) h dX11_townLine_62 (by decide) ?_
        refine g_icmp_ne (tgt := 74) h dX11_townLine_63 (by decide) (fun c63 => ?_) (fun c63 => ?_)
        · refine g_goto (tgt := 355) h dX11_townLine_74 (by decide) ?_
          exact g_vretP h hrt dX11_townLine_355 (by omega) (qv_e (by rw [twD, if_neg n8, if_pos n25, chlD, if_neg (show ¬ T < 10 by omega)]) (by first | assumption | exact (skp_b (by assumption)).2 | exact (skp_b (skp_b (by assumption)).2).2))
        · exact absurd c63 hw9
    · refine g_top (b2_f n25) ?_
      refine g_sto (mr_pv (congrArg nI (if_neg n25))) ?_
      refine g_if_eq (tgt := 77) h dX11_townLine_28 (by decide) (fun _ => ?_) (fun q => absurd q (by decide))
      refine g_aload_n h dX11_townLine_77 rfl rfl ?_
      refine g_ldcS (tx := "let") (k := 5) h (by decide) dX11_townLine_78 ?_
      refine g_V h lv_X11_119_X11 sh_178 (by decide) rfl (c_X11_hass B f L p p hpp (-1) 5 (by decide) (by decide) u hf hL h0) (fitR hR (by first | decide | omega) (by decide) (by omega)) rfl rfl (Nat.le_of_ble_eq_true rfl) dX11_townLine_80 ?_
      by_cases n80 : wdB f L p 5 = true
      · refine g_top (b2_t n80) ?_
        refine g_sto (mr_pv (congrArg nI (if_pos n80))) ?_
        refine g_if_eq (tgt := 93) h dX11_townLine_83 (by decide) (fun q => absurd q (by decide)) (fun _ => ?_)
        refine g_aload_n h dX11_townLine_86 rfl rfl ?_
        refine g_VP h lv_X11_162_X11 sh_178 (by decide) rfl (c_X11_letLine B f L p T W hT hW u hf hL h0 hT1 hW1 hsh) qv_nx (fitR hR (by first | decide | omega) (by decide) (by omega)) rfl rfl (Nat.le_of_ble_eq_true rfl) dX11_townLine_87 (fun v87 u87 hs87 => ?_)
        obtain ⟨hv87, hs87⟩ := hs87
        cases hv87
        refine g_goto (tgt := 355) h dX11_townLine_90 (by decide) ?_
        exact g_vretP h hrt dX11_townLine_355 (by omega) ⟨rfl, by rw [twD, if_neg n8, if_neg n25, if_pos n80]; exact hs87⟩
      · refine g_top (b2_f n80) ?_
        refine g_sto (mr_pv (congrArg nI (if_neg n80))) ?_
        refine g_if_eq (tgt := 93) h dX11_townLine_83 (by decide) (fun _ => ?_) (fun q => absurd q (by decide))
        refine g_aload_n h dX11_townLine_93 rfl rfl ?_
        refine g_ldcS (tx := "goods") (k := 6) h (by decide) dX11_townLine_94 ?_
        refine g_V h lv_X11_119_X11 sh_178 (by decide) rfl (c_X11_hass B f L p p hpp (-1) 6 (by decide) (by decide) u hf hL h0) (fitR hR (by first | decide | omega) (by decide) (by omega)) rfl rfl (Nat.le_of_ble_eq_true rfl) dX11_townLine_96 ?_
        by_cases n96 : wdB f L p 6 = true
        · refine g_top (b2_t n96) ?_
          refine g_sto (mr_pv (congrArg nI (if_pos n96))) ?_
          refine g_if_eq (tgt := 161) h dX11_townLine_99 (by decide) (fun q => absurd q (by decide)) (fun _ => ?_)
          refine g_aload_n h dX11_townLine_102 rfl rfl ?_
          refine g_iconst (v := nI 0) h dX11_townLine_103 (by decide) ?_
          refine g_bipush (v := nI 6) h dX11_townLine_104 (by decide) ?_
          refine g_iconst (v := nI 3) h dX11_townLine_106 (by decide) ?_
          refine g_VP h lv_X11_130_X11 sh_178 (by decide) rfl (c_X11_figs B f L (enN f L p) (nx f L p) rfl 3 (by decide) (nI 0) (nI 6) u hf hL e0) (by rintro Ex s (⟨_, h, _⟩ | ⟨_, _, _, _, h, _⟩) <;> exact nomatch h) (fitR hR (by first | decide | omega) (by decide) (by omega)) rfl rfl (Nat.le_of_ble_eq_true rfl) dX11_townLine_107 (fun v107 u107 hs107 => ?_)
          rcases hs107 with ⟨n107, hv107, rfl⟩ | ⟨n107, x107, q9, hq9, hv107, rfl⟩
          · cases hv107
            refine g_istore_n (ls' := [(0, _), (1, _), (2, _)]) h dX11_townLine_110 rfl (by decide) rfl rfl ?_
            refine g_aload_n h dX11_townLine_111 rfl rfl ?_
            refine g_iconst (v := nI 0) h dX11_townLine_112 (by decide) ?_
            refine g_bipush (v := nI 23) h dX11_townLine_113 (by decide) ?_
            refine g_iconst (v := nI 3) h dX11_townLine_115 (by decide) ?_
            refine g_VP h lv_X11_130_X11 sh_178 (by decide) rfl (c_X11_figs B f L (enN f L (nx f L p)) (nx f L (nx f L p)) rfl 3 (by decide) (nI 0) (nI 23) u hf hL e1) (by rintro Ex s (⟨_, h, _⟩ | ⟨_, _, _, _, h, _⟩) <;> exact nomatch h) (fitR hR (by first | decide | omega) (by decide) (by omega)) rfl rfl (Nat.le_of_ble_eq_true rfl) dX11_townLine_116 (fun v116 u116 hs116 => ?_)
            rcases hs116 with ⟨n116, hv116, rfl⟩ | ⟨n116, x116, q9, hq9, hv116, rfl⟩
            · cases hv116
              refine g_istore_n (ls' := [(0, _), (1, _), (2, _), (3, _)]) h dX11_townLine_119 rfl (by decide) rfl rfl ?_
              refine g_aload_n h dX11_townLine_120 rfl rfl ?_
              refine g_iconst (v := nI 0) h dX11_townLine_121 (by decide) ?_
              refine g_bipush (v := nI 99) h dX11_townLine_122 (by decide) ?_
              refine g_iconst (v := nI 3) h dX11_townLine_124 (by decide) ?_
              refine g_VP h lv_X11_130_X11 sh_178 (by decide) rfl (c_X11_figs B f L (enN f L (nx f L (nx f L p))) (nx f L (nx f L (nx f L p))) rfl 3 (by decide) (nI 0) (nI 99) u hf hL e2) (by rintro Ex s (⟨_, h, _⟩ | ⟨_, _, _, _, h, _⟩) <;> exact nomatch h) (fitR hR (by first | decide | omega) (by decide) (by omega)) rfl rfl (Nat.le_of_ble_eq_true rfl) dX11_townLine_125 (fun v125 u125 hs125 => ?_)
              rcases hs125 with ⟨n125, hv125, rfl⟩ | ⟨n125, x125, q9, hq9, hv125, rfl⟩
              · cases hv125
                refine g_istore (ls' := [(0, _), (1, _), (2, _), (3, _), (4, _)]) h dX11_townLine_128 (by decide) rfl rfl ?_
                refine g_aload_n h dX11_townLine_130 rfl rfl ?_
                refine g_getI h fl_X11_25_10 sh_178 (by decide) rfl dX11_townLine_131 ?_
                refine g_top mr_r12 ?_
                refine g_iconst (v := -1) h dX11_townLine_134 (by decide) ?_
                refine g_icmp_ne (tgt := 158) h dX11_townLine_135 (by decide) (fun c135 => ?_) (fun c135 => ?_)
                · exact absurd rfl c135
                · refine g_aload_n h dX11_townLine_138 rfl rfl ?_
                  refine g_getR h fl_X11_7_10 sh_178 (by decide) rfl dX11_townLine_139 ?_
                  refine g_bipush (v := nI 88) h dX11_townLine_142 (by decide) ?_
                  refine g_iconst (v := nI 4) h dX11_townLine_144 (by decide) ?_
                  refine g_bipush (v := nI 24) h dX11_townLine_145 (by decide) ?_
                  refine g_iload_n h dX11_townLine_147 rfl rfl ?_
                  refine g_imul h dX11_townLine_148 ?_
                  refine g_iload_n h dX11_townLine_149 rfl rfl ?_
                  refine g_iadd h dX11_townLine_150 ?_
                  obtain ⟨k1, z1, _, f1⟩ := nu_ix n107
                  obtain ⟨k2, z2, _, f2⟩ := nu_ix n116
                  have x1 : ix (nmI f L (nx f L p)) = k1 := by rw [z1]; exact ix_nI (by omega)
                  have x2 : ix (nmI f L (nx f L (nx f L p))) = k2 := by rw [z2]; exact ix_nI (by omega)
                  have hr9 : ix (nmI f L (nx f L p)) * 24 + ix (nmI f L (nx f L (nx f L p))) < 168 := by rw [x1, x2]; omega
                  refine g_top (y := nI (ix (nmI f L (nx f L p)) * 24 + ix (nmI f L (nx f L (nx f L p))))) (by rw [x1, x2, z1, z2, nI_mul, Nat.mul_comm]; exact nI_add _ _) ?_
                  refine g_imul h dX11_townLine_151 ?_
                  refine g_iadd h dX11_townLine_152 ?_
                  refine g_iconst (v := nI 2) h dX11_townLine_153 (by decide) ?_
                  refine g_iadd h dX11_townLine_154 ?_
                  refine g_top (y := nI (90 + 4 * (ix (nmI f L (nx f L p)) * 24 + ix (nmI f L (nx f L (nx f L p)))))) ((ix88 (t := ix (nmI f L (nx f L p)) * 24 + ix (nmI f L (nx f L (nx f L p)))) (w := 2) (by omega) (by omega)).trans (congrArg nI (by omega))) ?_
                  refine g_iload h dX11_townLine_155 rfl ?_
                  refine g_iast h _ _ _ sh_179 (by decide) (by decide) rfl (by omega) dX11_townLine_157 ?_
                  refine g_sto (mr_su (by decide)) ?_
                  refine g_goto (tgt := 355) h dX11_townLine_158 (by decide) ?_
                  exact g_vretP h hrt dX11_townLine_355 (by omega) (qv_k (by rw [twD, if_neg n8, if_neg n25, if_neg n80, if_pos n96, gdsD, if_pos n107, if_pos n116, if_pos n125]; rfl) e3 rfl rfl)
              · cases hv125
                have hw9 := nw q3 hL
                refine g_istore (ls' := [(0, _), (1, _), (2, _), (3, _), (4, _)]) h dX11_townLine_128 (by decide) rfl rfl ?_
                refine g_aload_n h dX11_townLine_130 rfl rfl ?_
                refine g_getI h fl_X11_25_10 sh_178 (by decide) rfl dX11_townLine_131 ?_
                refine g_top mr_r12 ?_
                refine g_iconst (v := -1) h dX11_townLine_134 (by decide) ?_
                refine g_icmp_ne (tgt := 158) h dX11_townLine_135 (by decide) (fun c135 => ?_) (fun c135 => ?_)
                · refine g_goto (tgt := 355) h dX11_townLine_158 (by decide) ?_
                  exact g_vretP h hrt dX11_townLine_355 (by omega) (qv_e (by rw [twD, if_neg n8, if_neg n25, if_neg n80, if_pos n96, gdsD, if_pos n107, if_pos n116, if_neg n125]) (by first | assumption | exact (skp_b (by assumption)).2 | exact (skp_b (skp_b (by assumption)).2).2))
                · exact absurd c135 hw9
            · cases hv116
              have hw9 := nw q2 hL
              refine g_istore_n (ls' := [(0, _), (1, _), (2, _), (3, _)]) h dX11_townLine_119 rfl (by decide) rfl rfl ?_
              refine g_aload_n h dX11_townLine_120 rfl rfl ?_
              refine g_iconst (v := nI 0) h dX11_townLine_121 (by decide) ?_
              refine g_bipush (v := nI 99) h dX11_townLine_122 (by decide) ?_
              refine g_iconst (v := nI 3) h dX11_townLine_124 (by decide) ?_
              refine g_V h lv_X11_130_X11 sh_178 (by decide) rfl (c_X11_figures_x B f L _ _ _ _ _ hw9 u hf hL (by first | assumption | exact (skp_b (by assumption)).2 | exact (skp_b (skp_b (by assumption)).2).2)) (fitR hR (by first | decide | omega) (by decide) (by omega)) rfl rfl (Nat.le_of_ble_eq_true rfl) dX11_townLine_125 ?_
              refine g_istore (ls' := [(0, _), (1, _), (2, _), (3, _), (4, _)]) h dX11_townLine_128 (by decide) rfl rfl ?_
              refine g_aload_n h dX11_townLine_130 rfl rfl ?_
              refine g_getI h fl_X11_25_10 sh_178 (by decide) rfl dX11_townLine_131 ?_
              refine g_top mr_r12 ?_
              refine g_iconst (v := -1) h dX11_townLine_134 (by decide) ?_
              refine g_icmp_ne (tgt := 158) h dX11_townLine_135 (by decide) (fun c135 => ?_) (fun c135 => ?_)
              · refine g_goto (tgt := 355) h dX11_townLine_158 (by decide) ?_
                exact g_vretP h hrt dX11_townLine_355 (by omega) (qv_e (by rw [twD, if_neg n8, if_neg n25, if_neg n80, if_pos n96, gdsD, if_pos n107, if_neg n116]) (by first | assumption | exact (skp_b (by assumption)).2 | exact (skp_b (skp_b (by assumption)).2).2))
              · exact absurd c135 hw9
          · cases hv107
            have hw9 := nw q1 hL
            refine g_istore_n (ls' := [(0, _), (1, _), (2, _)]) h dX11_townLine_110 rfl (by decide) rfl rfl ?_
            refine g_aload_n h dX11_townLine_111 rfl rfl ?_
            refine g_iconst (v := nI 0) h dX11_townLine_112 (by decide) ?_
            refine g_bipush (v := nI 23) h dX11_townLine_113 (by decide) ?_
            refine g_iconst (v := nI 3) h dX11_townLine_115 (by decide) ?_
            refine g_V h lv_X11_130_X11 sh_178 (by decide) rfl (c_X11_figures_x B f L _ _ _ _ _ hw9 u hf hL (by first | assumption | exact (skp_b (by assumption)).2 | exact (skp_b (skp_b (by assumption)).2).2)) (fitR hR (by first | decide | omega) (by decide) (by omega)) rfl rfl (Nat.le_of_ble_eq_true rfl) dX11_townLine_116 ?_
            refine g_istore_n (ls' := [(0, _), (1, _), (2, _), (3, _)]) h dX11_townLine_119 rfl (by decide) rfl rfl ?_
            refine g_aload_n h dX11_townLine_120 rfl rfl ?_
            refine g_iconst (v := nI 0) h dX11_townLine_121 (by decide) ?_
            refine g_bipush (v := nI 99) h dX11_townLine_122 (by decide) ?_
            refine g_iconst (v := nI 3) h dX11_townLine_124 (by decide) ?_
            refine g_V h lv_X11_130_X11 sh_178 (by decide) rfl (c_X11_figures_x B f L _ _ _ _ _ hw9 u hf hL (by first | assumption | exact (skp_b (by assumption)).2 | exact (skp_b (skp_b (by assumption)).2).2)) (fitR hR (by first | decide | omega) (by decide) (by omega)) rfl rfl (Nat.le_of_ble_eq_true rfl) dX11_townLine_125 ?_
            refine g_istore (ls' := [(0, _), (1, _), (2, _), (3, _), (4, _)]) h dX11_townLine_128 (by decide) rfl rfl ?_
            refine g_aload_n h dX11_townLine_130 rfl rfl ?_
            refine g_getI h fl_X11_25_10 sh_178 (by decide) rfl dX11_townLine_131 ?_
            refine g_top mr_r12 ?_
            refine g_iconst (v := -1) h dX11_townLine_134 (by decide) ?_
            refine g_icmp_ne (tgt := 158) h dX11_townLine_135 (by decide) (fun c135 => ?_) (fun c135 => ?_)
            · refine g_goto (tgt := 355) h dX11_townLine_158 (by decide) ?_
              exact g_vretP h hrt dX11_townLine_355 (by omega) (qv_e (by rw [twD, if_neg n8, if_neg n25, if_neg n80, if_pos n96, gdsD, if_neg n107]) (by first | assumption | exact (skp_b (by assumption)).2 | exact (skp_b (skp_b (by assumption)).2).2))
            · exact absurd c135 hw9
        · refine g_top (b2_f n96) ?_
          refine g_sto (mr_pv (congrArg nI (if_neg n96))) ?_
          refine g_if_eq (tgt := 161) h dX11_townLine_99 (by decide) (fun _ => ?_) (fun q => absurd q (by decide))
          refine g_aload_n h dX11_townLine_161 rfl rfl ?_
          refine g_ldcS (tx := "shut") (k := 7) h (by decide) dX11_townLine_162 ?_
          refine g_V h lv_X11_119_X11 sh_178 (by decide) rfl (c_X11_hass B f L p p hpp (-1) 7 (by decide) (by decide) u hf hL h0) (fitR hR (by first | decide | omega) (by decide) (by omega)) rfl rfl (Nat.le_of_ble_eq_true rfl) dX11_townLine_164 ?_
          by_cases n164 : wdB f L p 7 = true
          · refine g_top (b2_t n164) ?_
            refine g_sto (mr_pv (congrArg nI (if_pos n164))) ?_
            refine g_if_eq (tgt := 201) h dX11_townLine_167 (by decide) (fun q => absurd q (by decide)) (fun _ => ?_)
            refine g_aload_n h dX11_townLine_170 rfl rfl ?_
            refine g_iconst (v := nI 0) h dX11_townLine_171 (by decide) ?_
            refine g_VP h lv_X11_169_X11 sh_178 (by decide) rfl (c_X11_roomHere B f L p (nI 0) (by decide) u hf hL h0) (by rintro Ex s (⟨_, _, _, _, h, _⟩ | ⟨_, _, _, _, _, h, _⟩ | ⟨_, _, _, _, _, _, h, _⟩ | ⟨_, _, _, h, _⟩) <;> exact nomatch h) (fitR hR (by first | decide | omega) (by decide) (by omega)) rfl rfl (Nat.le_of_ble_eq_true rfl) dX11_townLine_172 (fun v172 u172 hs172 => ?_)
            rcases hs172 with ⟨n172, x9, q9, hq9, hv172, rfl⟩ | ⟨n172, m172, x9, q9, hq9, hv172, rfl⟩ | ⟨n172, m172, o172, x9, q9, hq9, hv172, rfl⟩ | ⟨n172, m172, o172, hv172, rfl⟩
            · cases hv172
              have hw9 := nw q1 hL
              refine g_istore_n (ls' := [(0, _), (1, _), (2, _)]) h dX11_townLine_175 rfl (by decide) rfl rfl ?_
              refine g_aload_n h dX11_townLine_176 rfl rfl ?_
              refine g_getI h fl_X11_25_10 sh_178 (by decide) rfl dX11_townLine_177 ?_
              refine g_top mr_r12 ?_
              refine g_iconst (v := -1) h dX11_townLine_180 (by decide) ?_
              refine g_icmp_ne (tgt := 198) h dX11_townLine_181 (by decide) (fun c181 => ?_) (fun c181 => ?_)
              · refine g_goto (tgt := 355) h dX11_townLine_198 (by decide) ?_
                exact g_vretP h hrt dX11_townLine_355 (by omega) (qv_e (by rw [twD, if_neg n8, if_neg n25, if_neg n80, if_neg n96, if_pos n164, shtD, if_neg n172]) (by first | assumption | exact (skp_b (by assumption)).2 | exact (skp_b (skp_b (by assumption)).2).2))
              · exact absurd c181 hw9
            · cases hv172
              have hw9 := nw q2 hL
              refine g_istore_n (ls' := [(0, _), (1, _), (2, _)]) h dX11_townLine_175 rfl (by decide) rfl rfl ?_
              refine g_aload_n h dX11_townLine_176 rfl rfl ?_
              refine g_getI h fl_X11_25_10 sh_178 (by decide) rfl dX11_townLine_177 ?_
              refine g_top mr_r12 ?_
              refine g_iconst (v := -1) h dX11_townLine_180 (by decide) ?_
              refine g_icmp_ne (tgt := 198) h dX11_townLine_181 (by decide) (fun c181 => ?_) (fun c181 => ?_)
              · refine g_goto (tgt := 355) h dX11_townLine_198 (by decide) ?_
                exact g_vretP h hrt dX11_townLine_355 (by omega) (qv_e (by rw [twD, if_neg n8, if_neg n25, if_neg n80, if_neg n96, if_pos n164, shtD, if_pos n172, if_neg m172]) (by first | assumption | exact (skp_b (by assumption)).2 | exact (skp_b (skp_b (by assumption)).2).2))
              · exact absurd c181 hw9
            · cases hv172
              have hw9 := nw q2 hL
              replace o172 : ¬ (owV u (ix (nmI f L (nx f L p)) * 24 + ix (nmI f L (nx f L (nx f L p)))) = -1) := fun z => o172 (rmz0.mpr z)
              refine g_istore_n (ls' := [(0, _), (1, _), (2, _)]) h dX11_townLine_175 rfl (by decide) rfl rfl ?_
              refine g_aload_n h dX11_townLine_176 rfl rfl ?_
              refine g_getI h fl_X11_25_10 sh_178 (by decide) rfl dX11_townLine_177 ?_
              refine g_top mr_r12 ?_
              refine g_iconst (v := -1) h dX11_townLine_180 (by decide) ?_
              refine g_icmp_ne (tgt := 198) h dX11_townLine_181 (by decide) (fun c181 => ?_) (fun c181 => ?_)
              · refine g_goto (tgt := 355) h dX11_townLine_198 (by decide) ?_
                exact g_vretP h hrt dX11_townLine_355 (by omega) (qv_e (by rw [twD, if_neg n8, if_neg n25, if_neg n80, if_neg n96, if_pos n164, shtD, if_pos n172, if_pos m172, if_neg o172]) (by first | assumption | exact (skp_b (by assumption)).2 | exact (skp_b (skp_b (by assumption)).2).2))
              · exact absurd c181 hw9
            · cases hv172
              replace o172 : owV u (ix (nmI f L (nx f L p)) * 24 + ix (nmI f L (nx f L (nx f L p)))) = -1 := rmz0.mp o172
              obtain ⟨k1, z1, _, f1⟩ := nu_ix n172
              obtain ⟨k2, z2, _, f2⟩ := nu_ix m172
              have x1 : ix (nmI f L (nx f L p)) = k1 := by rw [z1]; exact ix_nI (by omega)
              have x2 : ix (nmI f L (nx f L (nx f L p))) = k2 := by rw [z2]; exact ix_nI (by omega)
              have hr9 : ix (nmI f L (nx f L p)) * 24 + ix (nmI f L (nx f L (nx f L p))) < 168 := by rw [x1, x2]; omega
              refine g_istore_n (ls' := [(0, _), (1, _), (2, _)]) h dX11_townLine_175 rfl (by decide) rfl rfl ?_
              refine g_aload_n h dX11_townLine_176 rfl rfl ?_
              refine g_getI h fl_X11_25_10 sh_178 (by decide) rfl dX11_townLine_177 ?_
              refine g_top mr_r12 ?_
              refine g_iconst (v := -1) h dX11_townLine_180 (by decide) ?_
              refine g_icmp_ne (tgt := 198) h dX11_townLine_181 (by decide) (fun c181 => ?_) (fun c181 => ?_)
              · exact absurd rfl c181
              · refine g_aload_n h dX11_townLine_184 rfl rfl ?_
                refine g_getR h fl_X11_7_10 sh_178 (by decide) rfl dX11_townLine_185 ?_
                refine g_bipush (v := nI 88) h dX11_townLine_188 (by decide) ?_
                refine g_iconst (v := nI 4) h dX11_townLine_190 (by decide) ?_
                refine g_iload_n h dX11_townLine_191 rfl rfl ?_
                refine g_imul h dX11_townLine_192 ?_
                refine g_iadd h dX11_townLine_193 ?_
                refine g_iconst (v := nI 3) h dX11_townLine_194 (by decide) ?_
                refine g_iadd h dX11_townLine_195 ?_
                refine g_top (y := nI (91 + 4 * (ix (nmI f L (nx f L p)) * 24 + ix (nmI f L (nx f L (nx f L p)))))) ((ix88 (t := ix (nmI f L (nx f L p)) * 24 + ix (nmI f L (nx f L (nx f L p)))) (w := 3) (by omega) (by omega)).trans (congrArg nI (by omega))) ?_
                refine g_iconst (v := nI 1) h dX11_townLine_196 (by decide) ?_
                refine g_iast h _ _ _ sh_179 (by decide) (by decide) rfl (by omega) dX11_townLine_197 ?_
                refine g_sto (mr_su (by decide)) ?_
                refine g_goto (tgt := 355) h dX11_townLine_198 (by decide) ?_
                exact g_vretP h hrt dX11_townLine_355 (by omega) (qv_k (by rw [twD, if_neg n8, if_neg n25, if_neg n80, if_neg n96, if_pos n164, shtD, if_pos n172, if_pos m172, if_pos o172]; rfl) e2 rfl rfl)
          · refine g_top (b2_f n164) ?_
            refine g_sto (mr_pv (congrArg nI (if_neg n164))) ?_
            refine g_if_eq (tgt := 201) h dX11_townLine_167 (by decide) (fun _ => ?_) (fun q => absurd q (by decide))
            refine g_aload_n h dX11_townLine_201 rfl rfl ?_
            refine g_ldcS (tx := "sub") (k := 8) h (by decide) dX11_townLine_202 ?_
            refine g_V h lv_X11_119_X11 sh_178 (by decide) rfl (c_X11_hass B f L p p hpp (-1) 8 (by decide) (by decide) u hf hL h0) (fitR hR (by first | decide | omega) (by decide) (by omega)) rfl rfl (Nat.le_of_ble_eq_true rfl) dX11_townLine_204 ?_
            by_cases n204 : wdB f L p 8 = true
            · refine g_top (b2_t n204) ?_
              refine g_sto (mr_pv (congrArg nI (if_pos n204))) ?_
              refine g_if_eq (tgt := 277) h dX11_townLine_207 (by decide) (fun q => absurd q (by decide)) (fun _ => ?_)
              refine g_aload_n h dX11_townLine_210 rfl rfl ?_
              refine g_iconst (v := nI 1) h dX11_townLine_211 (by decide) ?_
              refine g_VP h lv_X11_169_X11 sh_178 (by decide) rfl (c_X11_roomHere B f L p (nI 1) (by decide) u hf hL h0) (by rintro Ex s (⟨_, _, _, _, h, _⟩ | ⟨_, _, _, _, _, h, _⟩ | ⟨_, _, _, _, _, _, h, _⟩ | ⟨_, _, _, h, _⟩) <;> exact nomatch h) (fitR hR (by first | decide | omega) (by decide) (by omega)) rfl rfl (Nat.le_of_ble_eq_true rfl) dX11_townLine_212 (fun v212 u212 hs212 => ?_)
              rcases hs212 with ⟨n212, x9, q9, hq9, hv212, rfl⟩ | ⟨n212, m212, x9, q9, hq9, hv212, rfl⟩ | ⟨n212, m212, o212, x9, q9, hq9, hv212, rfl⟩ | ⟨n212, m212, o212, hv212, rfl⟩
              · cases hv212
                have hw9 := nw q1 hL
                refine g_istore_n (ls' := [(0, _), (1, _), (2, _)]) h dX11_townLine_215 rfl (by decide) rfl rfl ?_
                refine g_aload_n h dX11_townLine_216 rfl rfl ?_
                refine g_V h lv_X11_127_X11 sh_178 (by decide) rfl (c_X11_place B f L _ _ u hf hL (by first | assumption | exact (skp_b (by assumption)).2 | exact (skp_b (skp_b (by assumption)).2).2)) (fitR hR (by first | decide | omega) (by decide) (by omega)) rfl rfl (Nat.le_of_ble_eq_true rfl) dX11_townLine_217 ?_
                refine g_istore_n (ls' := [(0, _), (1, _), (2, _), (3, _)]) h dX11_townLine_220 rfl (by decide) rfl rfl ?_
                refine g_aload_n h dX11_townLine_221 rfl rfl ?_
                refine g_V h lv_X11_146_X11 sh_178 (by decide) rfl (c_X11_tenantHere_x B f L _ _ hw9 T u hf hL (by first | assumption | exact (skp_b (by assumption)).2 | exact (skp_b (skp_b (by assumption)).2).2) hT1) (fitR hR (by first | decide | omega) (by decide) (by omega)) rfl rfl (Nat.le_of_ble_eq_true rfl) dX11_townLine_222 ?_
                refine g_istore (ls' := [(0, _), (1, _), (2, _), (3, _), (4, _)]) h dX11_townLine_225 (by decide) rfl rfl ?_
                refine g_aload_n h dX11_townLine_227 rfl rfl ?_
                refine g_getI h fl_X11_25_10 sh_178 (by decide) rfl dX11_townLine_228 ?_
                refine g_top mr_r12 ?_
                refine g_iconst (v := -1) h dX11_townLine_231 (by decide) ?_
                refine g_icmp_ne (tgt := 251) h dX11_townLine_232 (by decide) (fun c232 => ?_) (fun c232 => ?_)
                · refine g_aload_n h dX11_townLine_251 rfl rfl ?_
                  refine g_getI h fl_X11_25_10 sh_178 (by decide) rfl dX11_townLine_252 ?_
                  refine g_top mr_r12 ?_
                  refine g_iconst (v := -1) h dX11_townLine_255 (by decide) ?_
                  refine g_icmp_ne (tgt := 274) h dX11_townLine_256 (by decide) (fun c256 => ?_) (fun c256 => ?_)
                  · refine g_goto (tgt := 355) h dX11_townLine_274 (by decide) ?_
                    exact g_vretP h hrt dX11_townLine_355 (by omega) (qv_e (by rw [twD, if_neg n8, if_neg n25, if_neg n80, if_neg n96, if_neg n164, if_pos n204, sbtD, if_neg n212]) (by first | assumption | exact (skp_b (by assumption)).2 | exact (skp_b (skp_b (by assumption)).2).2))
                  · exact absurd c256 hw9
                · exact absurd c232 hw9
              · cases hv212
                have hw9 := nw q2 hL
                refine g_istore_n (ls' := [(0, _), (1, _), (2, _)]) h dX11_townLine_215 rfl (by decide) rfl rfl ?_
                refine g_aload_n h dX11_townLine_216 rfl rfl ?_
                refine g_V h lv_X11_127_X11 sh_178 (by decide) rfl (c_X11_place B f L _ _ u hf hL (by first | assumption | exact (skp_b (by assumption)).2 | exact (skp_b (skp_b (by assumption)).2).2)) (fitR hR (by first | decide | omega) (by decide) (by omega)) rfl rfl (Nat.le_of_ble_eq_true rfl) dX11_townLine_217 ?_
                refine g_istore_n (ls' := [(0, _), (1, _), (2, _), (3, _)]) h dX11_townLine_220 rfl (by decide) rfl rfl ?_
                refine g_aload_n h dX11_townLine_221 rfl rfl ?_
                refine g_V h lv_X11_146_X11 sh_178 (by decide) rfl (c_X11_tenantHere_x B f L _ _ hw9 T u hf hL (by first | assumption | exact (skp_b (by assumption)).2 | exact (skp_b (skp_b (by assumption)).2).2) hT1) (fitR hR (by first | decide | omega) (by decide) (by omega)) rfl rfl (Nat.le_of_ble_eq_true rfl) dX11_townLine_222 ?_
                refine g_istore (ls' := [(0, _), (1, _), (2, _), (3, _), (4, _)]) h dX11_townLine_225 (by decide) rfl rfl ?_
                refine g_aload_n h dX11_townLine_227 rfl rfl ?_
                refine g_getI h fl_X11_25_10 sh_178 (by decide) rfl dX11_townLine_228 ?_
                refine g_top mr_r12 ?_
                refine g_iconst (v := -1) h dX11_townLine_231 (by decide) ?_
                refine g_icmp_ne (tgt := 251) h dX11_townLine_232 (by decide) (fun c232 => ?_) (fun c232 => ?_)
                · refine g_aload_n h dX11_townLine_251 rfl rfl ?_
                  refine g_getI h fl_X11_25_10 sh_178 (by decide) rfl dX11_townLine_252 ?_
                  refine g_top mr_r12 ?_
                  refine g_iconst (v := -1) h dX11_townLine_255 (by decide) ?_
                  refine g_icmp_ne (tgt := 274) h dX11_townLine_256 (by decide) (fun c256 => ?_) (fun c256 => ?_)
                  · refine g_goto (tgt := 355) h dX11_townLine_274 (by decide) ?_
                    exact g_vretP h hrt dX11_townLine_355 (by omega) (qv_e (by rw [twD, if_neg n8, if_neg n25, if_neg n80, if_neg n96, if_neg n164, if_pos n204, sbtD, if_pos n212, if_neg m212]) (by first | assumption | exact (skp_b (by assumption)).2 | exact (skp_b (skp_b (by assumption)).2).2))
                  · exact absurd c256 hw9
                · exact absurd c232 hw9
              · cases hv212
                have hw9 := nw q2 hL
                replace o212 : ¬ (¬ owV u (ix (nmI f L (nx f L p)) * 24 + ix (nmI f L (nx f L (nx f L p)))) = -1) := fun z => o212 (rmz1.mpr z)
                refine g_istore_n (ls' := [(0, _), (1, _), (2, _)]) h dX11_townLine_215 rfl (by decide) rfl rfl ?_
                refine g_aload_n h dX11_townLine_216 rfl rfl ?_
                refine g_V h lv_X11_127_X11 sh_178 (by decide) rfl (c_X11_place B f L _ _ u hf hL (by first | assumption | exact (skp_b (by assumption)).2 | exact (skp_b (skp_b (by assumption)).2).2)) (fitR hR (by first | decide | omega) (by decide) (by omega)) rfl rfl (Nat.le_of_ble_eq_true rfl) dX11_townLine_217 ?_
                refine g_istore_n (ls' := [(0, _), (1, _), (2, _), (3, _)]) h dX11_townLine_220 rfl (by decide) rfl rfl ?_
                refine g_aload_n h dX11_townLine_221 rfl rfl ?_
                refine g_V h lv_X11_146_X11 sh_178 (by decide) rfl (c_X11_tenantHere_x B f L _ _ hw9 T u hf hL (by first | assumption | exact (skp_b (by assumption)).2 | exact (skp_b (skp_b (by assumption)).2).2) hT1) (fitR hR (by first | decide | omega) (by decide) (by omega)) rfl rfl (Nat.le_of_ble_eq_true rfl) dX11_townLine_222 ?_
                refine g_istore (ls' := [(0, _), (1, _), (2, _), (3, _), (4, _)]) h dX11_townLine_225 (by decide) rfl rfl ?_
                refine g_aload_n h dX11_townLine_227 rfl rfl ?_
                refine g_getI h fl_X11_25_10 sh_178 (by decide) rfl dX11_townLine_228 ?_
                refine g_top mr_r12 ?_
                refine g_iconst (v := -1) h dX11_townLine_231 (by decide) ?_
                refine g_icmp_ne (tgt := 251) h dX11_townLine_232 (by decide) (fun c232 => ?_) (fun c232 => ?_)
                · refine g_aload_n h dX11_townLine_251 rfl rfl ?_
                  refine g_getI h fl_X11_25_10 sh_178 (by decide) rfl dX11_townLine_252 ?_
                  refine g_top mr_r12 ?_
                  refine g_iconst (v := -1) h dX11_townLine_255 (by decide) ?_
                  refine g_icmp_ne (tgt := 274) h dX11_townLine_256 (by decide) (fun c256 => ?_) (fun c256 => ?_)
                  · refine g_goto (tgt := 355) h dX11_townLine_274 (by decide) ?_
                    exact g_vretP h hrt dX11_townLine_355 (by omega) (qv_e (by rw [twD, if_neg n8, if_neg n25, if_neg n80, if_neg n96, if_neg n164, if_pos n204, sbtD, if_pos n212, if_pos m212, if_neg o212]) (by first | assumption | exact (skp_b (by assumption)).2 | exact (skp_b (skp_b (by assumption)).2).2))
                  · exact absurd c256 hw9
                · exact absurd c232 hw9
              · cases hv212
                replace o212 : ¬ owV u (ix (nmI f L (nx f L p)) * 24 + ix (nmI f L (nx f L (nx f L p)))) = -1 := rmz1.mp o212
                obtain ⟨k1, z1, _, f1⟩ := nu_ix n212
                obtain ⟨k2, z2, _, f2⟩ := nu_ix m212
                have x1 : ix (nmI f L (nx f L p)) = k1 := by rw [z1]; exact ix_nI (by omega)
                have x2 : ix (nmI f L (nx f L (nx f L p))) = k2 := by rw [z2]; exact ix_nI (by omega)
                have hr9 : ix (nmI f L (nx f L p)) * 24 + ix (nmI f L (nx f L (nx f L p))) < 168 := by rw [x1, x2]; omega
                refine g_istore_n (ls' := [(0, _), (1, _), (2, _)]) h dX11_townLine_215 rfl (by decide) rfl rfl ?_
                refine g_aload_n h dX11_townLine_216 rfl rfl ?_
                refine g_V h lv_X11_127_X11 sh_178 (by decide) rfl (c_X11_place B f L (enN f L (nx f L (nx f L p))) (-1) u hf hL e2) (fitR hR (by first | decide | omega) (by decide) (by omega)) rfl rfl (Nat.le_of_ble_eq_true rfl) dX11_townLine_217 ?_
                refine g_istore_n (ls' := [(0, _), (1, _), (2, _), (3, _)]) h dX11_townLine_220 rfl (by decide) rfl rfl ?_
                refine g_aload_n h dX11_townLine_221 rfl rfl ?_
                refine g_VP h lv_X11_146_X11 sh_178 (by decide) rfl (c_X11_tenantHere B f L (nx f L (nx f L (nx f L p))) (nx f L (nx f L (nx f L p))) (sk_sk (Nat.le_refl _)) T hT u hf hL q3 hT1) (by rintro Ex s (⟨_, h, _⟩ | ⟨_, _, _, _, h, _⟩) <;> exact nomatch h) (fitR hR (by first | decide | omega) (by decide) (by omega)) rfl rfl (Nat.le_of_ble_eq_true rfl) dX11_townLine_222 (fun v222 u222 hs222 => ?_)
                rcases hs222 with ⟨n222, hv222, rfl⟩ | ⟨n222, x222, q9, hq9, hv222, rfl⟩
                · cases hv222
                  refine g_istore (ls' := [(0, _), (1, _), (2, _), (3, _), (4, _)]) h dX11_townLine_225 (by decide) rfl rfl ?_
                  refine g_aload_n h dX11_townLine_227 rfl rfl ?_
                  refine g_getI h fl_X11_25_10 sh_178 (by decide) rfl dX11_townLine_228 ?_
                  refine g_top mr_r12 ?_
                  refine g_iconst (v := -1) h dX11_townLine_231 (by decide) ?_
                  refine g_icmp_ne (tgt := 251) h dX11_townLine_232 (by decide) (fun c232 => ?_) (fun c232 => ?_)
                  · exact absurd rfl c232
                  · refine g_aload_n h dX11_townLine_235 rfl rfl ?_
                    refine g_iload_n h dX11_townLine_236 rfl rfl ?_
                    refine g_iconst (v := nI 0) h dX11_townLine_237 (by decide) ?_
                    refine g_V h lv_X11_84_X11 sh_178 (by decide) rfl (c_X11_ofRoom (ix (nmI f L (nx f L p)) * 24 + ix (nmI f L (nx f L (nx f L p)))) 0 hr9 (by decide) _) (fitR hR (by first | decide | omega) (by decide) (by omega)) rfl rfl (Nat.le_of_ble_eq_true rfl) dX11_townLine_238 ?_
                    refine g_top (y := owV u (ix (nmI f L (nx f L p)) * 24 + ix (nmI f L (nx f L (nx f L p))))) (congrFun (mr_oc (by decide)) _) ?_
                    refine g_iload h dX11_townLine_241 rfl ?_
                    refine g_icmp_ne (tgt := 251) h dX11_townLine_243 (by decide) (fun c243 => ?_) (fun c243 => ?_)
                    · refine g_aload_n h dX11_townLine_251 rfl rfl ?_
                      refine g_getI h fl_X11_25_10 sh_178 (by decide) rfl dX11_townLine_252 ?_
                      refine g_top mr_r12 ?_
                      refine g_iconst (v := -1) h dX11_townLine_255 (by decide) ?_
                      refine g_icmp_ne (tgt := 274) h dX11_townLine_256 (by decide) (fun c256 => ?_) (fun c256 => ?_)
                      · exact absurd rfl c256
                      · refine g_aload_n h dX11_townLine_259 rfl rfl ?_
                        refine g_getR h fl_X11_7_10 sh_178 (by decide) rfl dX11_townLine_260 ?_
                        refine g_bipush (v := nI 88) h dX11_townLine_263 (by decide) ?_
                        refine g_iconst (v := nI 4) h dX11_townLine_265 (by decide) ?_
                        refine g_iload_n h dX11_townLine_266 rfl rfl ?_
                        refine g_imul h dX11_townLine_267 ?_
                        refine g_iadd h dX11_townLine_268 ?_
                        refine g_iconst (v := nI 1) h dX11_townLine_269 (by decide) ?_
                        refine g_iadd h dX11_townLine_270 ?_
                        refine g_top (y := nI (89 + 4 * (ix (nmI f L (nx f L p)) * 24 + ix (nmI f L (nx f L (nx f L p)))))) ((ix88 (t := ix (nmI f L (nx f L p)) * 24 + ix (nmI f L (nx f L (nx f L p)))) (w := 1) (by omega) (by omega)).trans (congrArg nI (by omega))) ?_
                        refine g_iload h dX11_townLine_271 rfl ?_
                        refine g_iast h _ _ _ sh_179 (by decide) (by decide) rfl (by omega) dX11_townLine_273 ?_
                        refine g_sto (mr_su (by decide)) ?_
                        refine g_goto (tgt := 355) h dX11_townLine_274 (by decide) ?_
                        exact g_vretP h hrt dX11_townLine_355 (by omega) (qv_k (by rw [twD, if_neg n8, if_neg n25, if_neg n80, if_neg n96, if_neg n164, if_pos n204, sbtD, if_pos n212, if_pos m212, if_pos o212, if_pos n222, if_pos (fun z => c243 z.symm)]; rfl) e3 rfl rfl)
                    · refine g_aload_n h dX11_townLine_246 rfl rfl ?_
                      refine g_iload_n h dX11_townLine_247 rfl rfl ?_
                      refine g_V h lv_X11_123_X11 sh_178 (by decide) rfl (c_X11_wrong B f L (enN f L (nx f L (nx f L (nx f L p)))) (-1) (nI (nx f L (nx f L (nx f L p)))) u hf hL e3) (fitR hR (by first | decide | omega) (by decide) (by omega)) rfl rfl (Nat.le_of_ble_eq_true rfl) dX11_townLine_248 ?_
                      refine g_sto (mr_wv (if_pos rfl)) ?_
                      have hw9 := nw q3 hL
                      refine g_aload_n h dX11_townLine_251 rfl rfl ?_
                      refine g_getI h fl_X11_25_10 sh_178 (by decide) rfl dX11_townLine_252 ?_
                      refine g_top mr_r12 ?_
                      refine g_iconst (v := -1) h dX11_townLine_255 (by decide) ?_
                      refine g_icmp_ne (tgt := 274) h dX11_townLine_256 (by decide) (fun c256 => ?_) (fun c256 => ?_)
                      · refine g_goto (tgt := 355) h dX11_townLine_274 (by decide) ?_
                        exact g_vretP h hrt dX11_townLine_355 (by omega) (qv_e (by rw [twD, if_neg n8, if_neg n25, if_neg n80, if_neg n96, if_neg n164, if_pos n204, sbtD, if_pos n212, if_pos m212, if_pos o212, if_pos n222, if_neg (fun z => z c243.symm)]) (by first | assumption | exact (skp_b (by assumption)).2 | exact (skp_b (skp_b (by assumption)).2).2))
                      · exact absurd c256 hw9
                · cases hv222
                  have hw9 := nw q3 hL
                  refine g_istore (ls' := [(0, _), (1, _), (2, _), (3, _), (4, _)]) h dX11_townLine_225 (by decide) rfl rfl ?_
                  refine g_aload_n h dX11_townLine_227 rfl rfl ?_
                  refine g_getI h fl_X11_25_10 sh_178 (by decide) rfl dX11_townLine_228 ?_
                  refine g_top mr_r12 ?_
                  refine g_iconst (v := -1) h dX11_townLine_231 (by decide) ?_
                  refine g_icmp_ne (tgt := 251) h dX11_townLine_232 (by decide) (fun c232 => ?_) (fun c232 => ?_)
                  · refine g_aload_n h dX11_townLine_251 rfl rfl ?_
                    refine g_getI h fl_X11_25_10 sh_178 (by decide) rfl dX11_townLine_252 ?_
                    refine g_top mr_r12 ?_
                    refine g_iconst (v := -1) h dX11_townLine_255 (by decide) ?_
                    refine g_icmp_ne (tgt := 274) h dX11_townLine_256 (by decide) (fun c256 => ?_) (fun c256 => ?_)
                    · refine g_goto (tgt := 355) h dX11_townLine_274 (by decide) ?_
                      exact g_vretP h hrt dX11_townLine_355 (by omega) (qv_e (by rw [twD, if_neg n8, if_neg n25, if_neg n80, if_neg n96, if_neg n164, if_pos n204, sbtD, if_pos n212, if_pos m212, if_pos o212, if_neg n222]) (by first | assumption | exact (skp_b (by assumption)).2 | exact (skp_b (skp_b (by assumption)).2).2))
                    · exact absurd c256 hw9
                  · exact absurd c232 hw9
            · refine g_top (b2_f n204) ?_
              refine g_sto (mr_pv (congrArg nI (if_neg n204))) ?_
              refine g_if_eq (tgt := 277) h dX11_townLine_207 (by decide) (fun _ => ?_) (fun q => absurd q (by decide))
              refine g_aload_n h dX11_townLine_277 rfl rfl ?_
              refine g_ldcS (tx := "want") (k := 9) h (by decide) dX11_townLine_278 ?_
              refine g_V h lv_X11_119_X11 sh_178 (by decide) rfl (c_X11_hass B f L p p hpp (-1) 9 (by decide) (by decide) u hf hL h0) (fitR hR (by first | decide | omega) (by decide) (by omega)) rfl rfl (Nat.le_of_ble_eq_true rfl) dX11_townLine_280 ?_
              by_cases n280 : wdB f L p 9 = true
              · refine g_top (b2_t n280) ?_
                refine g_sto (mr_pv (congrArg nI (if_pos n280))) ?_
                refine g_if_eq (tgt := 310) h dX11_townLine_283 (by decide) (fun q => absurd q (by decide)) (fun _ => ?_)
                refine g_aload_n h dX11_townLine_286 rfl rfl ?_
                refine g_getR h fl_X11_7_10 sh_178 (by decide) rfl dX11_townLine_287 ?_
                refine g_bipush (v := nI 9) h dX11_townLine_290 (by decide) ?_
                refine g_iald h _ _ _ sh_179 (by decide) (by decide) rfl (by omega) dX11_townLine_292 ?_
                refine g_top (mr_o (by decide)) ?_
                refine g_top hW1 ?_
                refine g_bipush (v := nI 8) h dX11_townLine_293 (by decide) ?_
                refine g_icmp_ne (tgt := 303) h dX11_townLine_295 (by decide) (fun c295 => ?_) (fun c295 => ?_)
                · have n295 := ne_n (show ¬ nI (W) = nI (8) from c295)
                  refine g_aload_n h dX11_townLine_303 rfl rfl ?_
                  refine g_VP h lv_X11_177_X11 sh_178 (by decide) rfl (c_X11_wantLine B f L p T W hT hW (by omega) u hf hL h0 hT1 hW1) qv_nx (fitR hR (by first | decide | omega) (by decide) (by omega)) rfl rfl (Nat.le_of_ble_eq_true rfl) dX11_townLine_304 (fun v304 u304 hs304 => ?_)
                  obtain ⟨hv304, hs304⟩ := hs304
                  cases hv304
                  refine g_goto (tgt := 355) h dX11_townLine_307 (by decide) ?_
                  exact g_vretP h hrt dX11_townLine_355 (by omega) ⟨rfl, by rw [twD, if_neg n8, if_neg n25, if_neg n80, if_neg n96, if_neg n164, if_neg n204, if_pos n280]; exact hs304⟩
                · have n295 := eq_n (by omega) (by omega) (show nI (W) = nI (8) from c295)
                  refine g_aload_n h dX11_townLine_298 rfl rfl ?_
                  refine g_iload_n h dX11_townLine_299 rfl rfl ?_
                  refine g_V h lv_X11_123_X11 sh_178 (by decide) rfl (c_X11_wrong B f L (enN f L p) (-1) (nI p) u hf hL e0) (fitR hR (by first | decide | omega) (by decide) (by omega)) rfl rfl (Nat.le_of_ble_eq_true rfl) dX11_townLine_300 ?_
                  refine g_sto (mr_wv (if_pos rfl)) ?_
                  have hw9 := nw h0 hL
                  refine g_aload_n h dX11_townLine_303 rfl rfl ?_
                  refine g_VP h lv_X11_177_X11 sh_178 (by decide) rfl (c_X11_wantLine_x B f L _ _ hw9 T u hf hL e0 hT1) (fun _ _ h => nomatch h.1) (fitR hR (by first | decide | omega) (by decide) (by omega)) rfl rfl (Nat.le_of_ble_eq_true rfl) dX11_townLine_304 (fun v304 u304 hs304 => ?_)
                  obtain ⟨hv304, hs304⟩ := hs304
                  cases hv304
                  refine g_goto (tgt := 355) h dX11_townLine_307 (by decide) ?_
                  exact g_vretP h hrt dX11_townLine_355 (by omega) (by obtain ⟨q9, hq9, rfl⟩ := hs304; exact qv_e (by rw [twD, if_neg n8, if_neg n25, if_neg n80, if_neg n96, if_neg n164, if_neg n204, if_pos n280, wntD, if_neg (show ¬ W < 8 by omega)]) hq9)
              · refine g_top (b2_f n280) ?_
                refine g_sto (mr_pv (congrArg nI (if_neg n280))) ?_
                refine g_if_eq (tgt := 310) h dX11_townLine_283 (by decide) (fun _ => ?_) (fun q => absurd q (by decide))
                refine g_aload_n h dX11_townLine_310 rfl rfl ?_
                refine g_ldcS (tx := "chance") (k := 11) h (by decide) dX11_townLine_311 ?_
                refine g_V h lv_X11_119_X11 sh_178 (by decide) rfl (c_X11_hass B f L p p hpp (-1) 11 (by decide) (by decide) u hf hL h0) (fitR hR (by first | decide | omega) (by decide) (by omega)) rfl rfl (Nat.le_of_ble_eq_true rfl) dX11_townLine_313 ?_
                by_cases n313 : wdB f L p 11 = true
                · refine g_top (b2_t n313) ?_
                  refine g_sto (mr_pv (congrArg nI (if_pos n313))) ?_
                  refine g_if_eq (tgt := 347) h dX11_townLine_316 (by decide) (fun q => absurd q (by decide)) (fun _ => ?_)
                  refine g_aload_n h dX11_townLine_319 rfl rfl ?_
                  refine g_iconst (v := nI 0) h dX11_townLine_320 (by decide) ?_
                  refine g_bipush (v := nI 100) h dX11_townLine_321 (by decide) ?_
                  refine g_iconst (v := nI 3) h dX11_townLine_323 (by decide) ?_
                  refine g_VP h lv_X11_130_X11 sh_178 (by decide) rfl (c_X11_figs B f L (enN f L p) (nx f L p) rfl 3 (by decide) (nI 0) (nI 100) u hf hL e0) (by rintro Ex s (⟨_, h, _⟩ | ⟨_, _, _, _, h, _⟩) <;> exact nomatch h) (fitR hR (by first | decide | omega) (by decide) (by omega)) rfl rfl (Nat.le_of_ble_eq_true rfl) dX11_townLine_324 (fun v324 u324 hs324 => ?_)
                  rcases hs324 with ⟨n324, hv324, rfl⟩ | ⟨n324, x324, q9, hq9, hv324, rfl⟩
                  · cases hv324
                    refine g_istore_n (ls' := [(0, _), (1, _), (2, _)]) h dX11_townLine_327 rfl (by decide) rfl rfl ?_
                    refine g_aload_n h dX11_townLine_328 rfl rfl ?_
                    refine g_getI h fl_X11_25_10 sh_178 (by decide) rfl dX11_townLine_329 ?_
                    refine g_top mr_r12 ?_
                    refine g_iconst (v := -1) h dX11_townLine_332 (by decide) ?_
                    refine g_icmp_ne (tgt := 344) h dX11_townLine_333 (by decide) (fun c333 => ?_) (fun c333 => ?_)
                    · exact absurd rfl c333
                    · refine g_aload_n h dX11_townLine_336 rfl rfl ?_
                      refine g_getR h fl_X11_7_10 sh_178 (by decide) rfl dX11_townLine_337 ?_
                      refine g_bipush (v := nI 8) h dX11_townLine_340 (by decide) ?_
                      refine g_iload_n h dX11_townLine_342 rfl rfl ?_
                      refine g_iast h _ _ _ sh_179 (by decide) (by decide) rfl (by omega) dX11_townLine_343 ?_
                      refine g_sto (mr_su (by decide)) ?_
                      refine g_goto (tgt := 355) h dX11_townLine_344 (by decide) ?_
                      exact g_vretP h hrt dX11_townLine_355 (by omega) (qv_k (by rw [twD, if_neg n8, if_neg n25, if_neg n80, if_neg n96, if_neg n164, if_neg n204, if_neg n280, if_pos n313, chcD, if_pos n324]; rfl) e1 rfl rfl)
                  · cases hv324
                    have hw9 := nw q1 hL
                    refine g_istore_n (ls' := [(0, _), (1, _), (2, _)]) h dX11_townLine_327 rfl (by decide) rfl rfl ?_
                    refine g_aload_n h dX11_townLine_328 rfl rfl ?_
                    refine g_getI h fl_X11_25_10 sh_178 (by decide) rfl dX11_townLine_329 ?_
                    refine g_top mr_r12 ?_
                    refine g_iconst (v := -1) h dX11_townLine_332 (by decide) ?_
                    refine g_icmp_ne (tgt := 344) h dX11_townLine_333 (by decide) (fun c333 => ?_) (fun c333 => ?_)
                    · refine g_goto (tgt := 355) h dX11_townLine_344 (by decide) ?_
                      exact g_vretP h hrt dX11_townLine_355 (by omega) (qv_e (by rw [twD, if_neg n8, if_neg n25, if_neg n80, if_neg n96, if_neg n164, if_neg n204, if_neg n280, if_pos n313, chcD, if_neg n324]) (by first | assumption | exact (skp_b (by assumption)).2 | exact (skp_b (skp_b (by assumption)).2).2))
                    · exact absurd c333 hw9
                · refine g_top (b2_f n313) ?_
                  refine g_sto (mr_pv (congrArg nI (if_neg n313))) ?_
                  refine g_if_eq (tgt := 347) h dX11_townLine_316 (by decide) (fun _ => ?_) (fun q => absurd q (by decide))
                  refine g_aload_n h dX11_townLine_347 rfl rfl ?_
                  refine g_aload_n h dX11_townLine_348 rfl rfl ?_
                  refine g_getI h fl_X11_97_10 sh_178 (by decide) rfl dX11_townLine_349 ?_
                  refine g_top mr_r11 ?_
                  refine g_V h lv_X11_123_X11 sh_178 (by decide) rfl (c_X11_wrong B f L p (-1) (nI p) u hf hL h0) (fitR hR (by first | decide | omega) (by decide) (by omega)) rfl rfl (Nat.le_of_ble_eq_true rfl) dX11_townLine_352 ?_
                  refine g_sto (mr_wv (if_pos rfl)) ?_
                  have hw9 := nw h0 hL
                  exact g_vretP h hrt dX11_townLine_355 (by omega) (qv_e (by rw [twD, if_neg n8, if_neg n25, if_neg n80, if_neg n96, if_neg n164, if_neg n204, if_neg n280, if_neg n313]) h0)
