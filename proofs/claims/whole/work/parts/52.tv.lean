-- after: 38.r 39.s 40.t 47.str 48.tx 49.ty 50.tt 51.tu
set_option maxHeartbeats 1000000 in
theorem c_X8_readTenant {E : EE} (a b c d : Int32) (f : Nat → Int32) (L p : Nat) (w : Int32) (T W : Nat) (hT : T ≤ 10) (hW : W ≤ 8) (u : Sto) (hf : u 1 = f) (hL : L ≤ 400) (hp : p ≤ L) (hu : u 34 8 = nI T) (hw : u 34 9 = nI W) (ho : ∀ r, r < 168 → tn (u 28 r) 10) : CtP E 9 0 yX8_readTenant cX8_readTenant 2 (some .boolean) [.ref (E.ad 159)] (TT u a b c d f L p w) (QL u T W f L w (tenD T f L p)) := by
  have q1 := (nx_b (f := f) hp).2
  have q2 := (nx_b (f := f) q1).2
  have q3 := (nx_b (f := f) q2).2
  have q4 := (nx_b (f := f) q3).2
  have q5 := (nx_b (f := f) q4).2
  have q6 := (nx_b (f := f) q5).2
  have q7 := (nx_b (f := f) q6).2
  have q8 := (nx_b (f := f) q7).2
  refine ctp_of (by decide) (Nat.le_of_ble_eq_true rfl) (fun X h hR hrt htab hargs => ?_)
  refine g_aload_n h dX8_readTenant_0 rfl rfl ?_
  refine g_getR h fl_X8_22_7 sh_159 (by decide) rfl dX8_readTenant_1 ?_
  refine g_getI h fl_X8_89_4 sh_34 (by decide) rfl dX8_readTenant_4 ?_
  refine g_top (tx_o (by decide)) ?_
  refine g_top (tf_o (by decide)) ?_
  refine g_top hu ?_
  refine g_bipush (v := nI 10) h dX8_readTenant_7 (by decide) ?_
  refine g_icmp_lt (tgt := 17) h dX8_readTenant_9 (by decide) (fun c9 => ?_) (fun c9 => ?_)
  · have n9 := lt_n (by omega) (by omega) (show nI (T) < nI (10) from c9)
    refine g_aload_n h dX8_readTenant_17 rfl rfl ?_
    refine g_V h lv_X8_95_X8 sh_159 (by decide) rfl (c_X6_stepT_159 f L p w (tfS u a b c d) ((tf_oc (by decide)).trans hf) hL hp) (fitR hR (by decide) (by decide) (by omega)) rfl rfl (Nat.le_of_ble_eq_true rfl) dX8_readTenant_18 ?_
    refine g_aload_n h dX8_readTenant_21 rfl rfl ?_
    refine g_iconst (v := nI 4) h dX8_readTenant_22 (by decide) ?_
    refine g_iconst (v := nI 0) h dX8_readTenant_23 (by decide) ?_
    refine g_sipush (v := nI 9999) h dX8_readTenant_24 (by decide) ?_
    refine g_V h lv_X8_99_X8 sh_159 (by decide) rfl (c_X6_isNumber_159 f L (nx f L p) w 4 (by decide) (nI 0) (nI 9999) (tfS u a b c d) ((tf_oc (by decide)).trans hf) hL q1) (fitR hR (by decide) (by decide) (by omega)) rfl rfl (Nat.le_of_ble_eq_true rfl) dX8_readTenant_27 ?_
    by_cases n27 : nuP f L (nx f L p) 4 (nI 0) (nI 9999)
    · refine g_top (b2_t n27) ?_
      refine g_sto (tx_wv (if_pos n27)) ?_
      refine g_if_ne (tgt := 35) h dX8_readTenant_30 (by decide) (fun _ => ?_) (fun q => absurd q (by decide))
      refine g_aload_n h dX8_readTenant_35 rfl rfl ?_
      refine g_V h lv_X8_103_X8 sh_159 (by decide) rfl (c_X6_stepOver_159 f L (nx f L p) w (tfS u a b c d) ((tf_oc (by decide)).trans hf) hL q1) (fitR hR (by decide) (by decide) (by omega)) rfl rfl (Nat.le_of_ble_eq_true rfl) dX8_readTenant_36 ?_
      refine g_istore_n (ls' := [(0, _), (1, _)]) h dX8_readTenant_39 rfl (by decide) rfl rfl ?_
      refine g_aload_n h dX8_readTenant_40 rfl rfl ?_
      refine g_ldcS (tx := "likes") (k := 1) h (by decide) dX8_readTenant_41 ?_
      refine g_V h lv_X8_108_X8 sh_159 (by decide) rfl (c_X6_passWord_159 f L (nx f L (nx f L p)) w 1 (by decide) (tfS u a b c d) ((tf_oc (by decide)).trans hf) hL q2) (fitR hR (by decide) (by decide) (by omega)) rfl rfl (Nat.le_of_ble_eq_true rfl) dX8_readTenant_43 ?_
      by_cases n43 : wdB f L (nx f L (nx f L p)) 1 = true
      · refine g_top (b2_t n43) ?_
        refine g_sto (if_pos n43) ?_
        refine g_if_eq (tgt := 63) h dX8_readTenant_46 (by decide) (fun q => absurd q (by decide)) (fun _ => ?_)
        refine g_aload_n h dX8_readTenant_49 rfl rfl ?_
        refine g_VP h lv_X8_111_X8 sh_159 (by decide) rfl (c_X8_passFirstHour a b c d f L (nx f L (nx f L (nx f L p))) w u hf hL q3) (by rintro Ex s (⟨_, h, _⟩ | ⟨_, _, h, _⟩ | ⟨_, _, h, _⟩) <;> exact nomatch h) (fitR hR (by decide) (by decide) (by omega)) rfl rfl (Nat.le_of_ble_eq_true rfl) dX8_readTenant_50 (fun v50 u50 hs50 => ?_)
        rcases hs50 with ⟨n50, hs50⟩ | ⟨n50, m50, hs50⟩ | ⟨n50, m50, hv50, rfl⟩
        · obtain ⟨hv50, a50, b50, c50, d50, p50, hp50, rfl⟩ := hs50
          cases hv50
          refine g_if_eq (tgt := 63) h dX8_readTenant_53 (by decide) (fun _ => ?_) (fun q => absurd q (by decide))
          refine g_iconst (v := nI 0) h dX8_readTenant_63 (by decide) ?_
          exact g_zretP h hrt dX8_readTenant_64 (by omega) (by first | exact Or.inl rfl | exact Or.inr rfl | simp) (ql_e (by rw [tenD, if_pos n9, if_pos n27, if_pos n43, if_neg n50]) (by assumption))
        · obtain ⟨hv50, a50, b50, c50, d50, p50, hp50, rfl⟩ := hs50
          cases hv50
          refine g_if_eq (tgt := 63) h dX8_readTenant_53 (by decide) (fun _ => ?_) (fun q => absurd q (by decide))
          refine g_iconst (v := nI 0) h dX8_readTenant_63 (by decide) ?_
          exact g_zretP h hrt dX8_readTenant_64 (by omega) (by first | exact Or.inl rfl | exact Or.inr rfl | simp) (ql_e (by rw [tenD, if_pos n9, if_pos n27, if_pos n43, if_pos n50, if_neg m50]) (by assumption))
        · cases hv50
          refine g_if_eq (tgt := 63) h dX8_readTenant_53 (by decide) (fun q => absurd q (by decide)) (fun _ => ?_)
          refine g_aload_n h dX8_readTenant_56 rfl rfl ?_
          refine g_VP h lv_X8_114_X8 sh_159 (by decide) rfl (c_X8_isSecondHour (nmI f L (nx f L (nx f L (nx f L p)))) b c d f L (nx f L (nx f L (nx f L (nx f L (nx f L p))))) w u hf hL q5) (by rintro Ex s (⟨_, h, _⟩ | ⟨_, h, _⟩) <;> exact nomatch h) (fitR hR (by decide) (by decide) (by omega)) rfl rfl (Nat.le_of_ble_eq_true rfl) dX8_readTenant_57 (fun v57 u57 hs57 => ?_)
          rcases hs57 with ⟨n57, hs57⟩ | ⟨n57, hv57, rfl⟩
          · obtain ⟨hv57, a57, b57, c57, d57, p57, hp57, rfl⟩ := hs57
            cases hv57
            refine g_if_ne (tgt := 65) h dX8_readTenant_60 (by decide) (fun q => absurd q (by decide)) (fun _ => ?_)
            refine g_iconst (v := nI 0) h dX8_readTenant_63 (by decide) ?_
            exact g_zretP h hrt dX8_readTenant_64 (by omega) (by first | exact Or.inl rfl | exact Or.inr rfl | simp) (ql_e (by rw [tenD, if_pos n9, if_pos n27, if_pos n43, if_pos n50, if_pos m50, if_neg n57]) (by assumption))
          · cases hv57
            refine g_if_ne (tgt := 65) h dX8_readTenant_60 (by decide) (fun _ => ?_) (fun q => absurd q (by decide))
            refine g_aload_n h dX8_readTenant_65 rfl rfl ?_
            refine g_V h lv_X8_95_X8 sh_159 (by decide) rfl (c_X6_stepT_159 f L (nx f L (nx f L (nx f L (nx f L (nx f L p))))) w (tfS u (nmI f L (nx f L (nx f L (nx f L p)))) (nmI f L (nx f L (nx f L (nx f L (nx f L (nx f L p)))))) c d) ((tf_oc (by decide)).trans hf) hL q5) (fitR hR (by decide) (by decide) (by omega)) rfl rfl (Nat.le_of_ble_eq_true rfl) dX8_readTenant_66 ?_
            refine g_aload_n h dX8_readTenant_69 rfl rfl ?_
            refine g_getR h fl_X8_15_7 sh_159 (by decide) rfl dX8_readTenant_70 ?_
            refine g_getR h fl_X8_117_6 sh_27 (by decide) rfl dX8_readTenant_73 ?_
            refine g_aload_n h dX8_readTenant_76 rfl rfl ?_
            refine g_getR h fl_X8_22_7 sh_159 (by decide) rfl dX8_readTenant_77 ?_
            refine g_getI h fl_X8_89_4 sh_34 (by decide) rfl dX8_readTenant_80 ?_
            refine g_top (tx_o (by decide)) ?_
            refine g_top (tf_o (by decide)) ?_
            refine g_top hu ?_
            refine g_iload_n h dX8_readTenant_83 rfl rfl ?_
            refine g_iast h _ _ _ sh_31 (by decide) (by decide) rfl (by omega) dX8_readTenant_84 ?_
            refine g_sto (tx_su (by decide)) ?_
            refine g_sto (tx_in (tf_su (by decide))) ?_
            refine g_aload_n h dX8_readTenant_85 rfl rfl ?_
            refine g_getR h fl_X8_22_7 sh_159 (by decide) rfl dX8_readTenant_86 ?_
            refine g_dup h dX8_readTenant_89 rfl ?_
            refine g_getI h fl_X8_123_4 sh_34 (by decide) rfl dX8_readTenant_90 ?_
            refine g_top (tx_o (by decide)) ?_
            refine g_top (tf_o (by decide)) ?_
            refine g_top (congrFun (su_cell _ _ (by decide)) 12) ?_
            refine g_iload_n h dX8_readTenant_93 rfl rfl ?_
            refine g_iadd h dX8_readTenant_94 ?_
            refine g_putI h pfl_X8_123_4 sh_34 (by decide) rfl dX8_readTenant_95 ?_
            refine g_sto (tx_su (by decide)) ?_
            refine g_sto (tx_in (tf_su (by decide))) ?_
            refine g_aload_n h dX8_readTenant_98 rfl rfl ?_
            refine g_getR h fl_X8_22_7 sh_159 (by decide) rfl dX8_readTenant_99 ?_
            refine g_aload_n h dX8_readTenant_102 rfl rfl ?_
            refine g_getI h fl_X8_126_7 sh_159 (by decide) rfl dX8_readTenant_103 ?_
            refine g_top (tx_s (by decide)) ?_
            refine g_top tf_r9 ?_
            refine g_aload_n h dX8_readTenant_106 rfl rfl ?_
            refine g_getI h fl_X8_129_7 sh_159 (by decide) rfl dX8_readTenant_107 ?_
            refine g_top (tx_s (by decide)) ?_
            refine g_top tf_r10 ?_
            refine g_iconst (v := -1) h dX8_readTenant_110 (by decide) ?_
            refine g_V h lv_X8_132_X4 sh_34 (by decide) rfl (c_X4_addTenant T n9 _ _ (-1) _ ((congrFun (TT_o (by decide)) 8).trans (by simp [su, hu]))) (fitR hR (by decide) (by decide) (by omega)) rfl rfl (Nat.le_of_ble_eq_true rfl) dX8_readTenant_111 ?_
            refine g_sto atS_TT ?_
            refine g_iconst (v := nI 1) h dX8_readTenant_114 (by decide) ?_
            exact g_zretP h hrt dX8_readTenant_115 (by omega) (by first | exact Or.inl rfl | exact Or.inr rfl | simp) (ql_k (by rw [tenD, if_pos n9, if_pos n27, if_pos n43, if_pos n50, if_pos m50, if_pos n57]) q6 rfl)
      · refine g_top (b2_f n43) ?_
        refine g_sto (if_neg n43) ?_
        refine g_if_eq (tgt := 63) h dX8_readTenant_46 (by decide) (fun _ => ?_) (fun q => absurd q (by decide))
        refine g_iconst (v := nI 0) h dX8_readTenant_63 (by decide) ?_
        exact g_zretP h hrt dX8_readTenant_64 (by omega) (by first | exact Or.inl rfl | exact Or.inr rfl | simp) (ql_e (by rw [tenD, if_pos n9, if_pos n27, if_neg n43]) (by assumption))
    · refine g_top (b2_f n27) ?_
      refine g_sto (tx_wv (if_neg n27)) ?_
      refine g_if_ne (tgt := 35) h dX8_readTenant_30 (by decide) (fun q => absurd q (by decide)) (fun _ => ?_)
      refine g_iconst (v := nI 0) h dX8_readTenant_33 (by decide) ?_
      exact g_zretP h hrt dX8_readTenant_34 (by omega) (by first | exact Or.inl rfl | exact Or.inr rfl | simp) (ql_e (by rw [tenD, if_pos n9, if_neg n27]) (by assumption))
  · have n9 := nlt_n (by omega) (by omega) (show ¬ nI (T) < nI (10) from c9)
    refine g_aload_n h dX8_readTenant_12 rfl rfl ?_
    refine g_V h lv_X8_38_X8 sh_159 (by decide) rfl (c_X6_fail_159 f L p w (tfS u a b c d) ((tf_oc (by decide)).trans hf) hL hp) (fitR hR (by decide) (by decide) (by omega)) rfl rfl (Nat.le_of_ble_eq_true rfl) dX8_readTenant_13 ?_
    skip
    · exact g_zretP h hrt dX8_readTenant_16 (by omega) (by first | exact Or.inl rfl | exact Or.inr rfl | simp) (ql_e (by rw [tenD, if_neg (Nat.not_lt.mpr n9)]) (by assumption))
set_option maxHeartbeats 1000000 in
theorem c_X8_readChild {E : EE} (a b c d : Int32) (f : Nat → Int32) (L p : Nat) (w : Int32) (T W : Nat) (hT : T ≤ 10) (hW : W ≤ 8) (u : Sto) (hf : u 1 = f) (hL : L ≤ 400) (hp : p ≤ L) (hu : u 34 8 = nI T) (hw : u 34 9 = nI W) (ho : ∀ r, r < 168 → tn (u 28 r) 10) : CtP E 7 0 yX8_readChild cX8_readChild 1 (some .boolean) [.ref (E.ad 159)] (TT u a b c d f L p w) (QL u T W f L w (chlD T (u 37) f L p)) := by
  have q1 := (nx_b (f := f) hp).2
  have q2 := (nx_b (f := f) q1).2
  have q3 := (nx_b (f := f) q2).2
  have q4 := (nx_b (f := f) q3).2
  have q5 := (nx_b (f := f) q4).2
  have q6 := (nx_b (f := f) q5).2
  have q7 := (nx_b (f := f) q6).2
  have q8 := (nx_b (f := f) q7).2
  refine ctp_of (by decide) (Nat.le_of_ble_eq_true rfl) (fun X h hR hrt htab hargs => ?_)
  refine g_aload_n h dX8_readChild_0 rfl rfl ?_
  refine g_getR h fl_X8_22_7 sh_159 (by decide) rfl dX8_readChild_1 ?_
  refine g_getI h fl_X8_89_4 sh_34 (by decide) rfl dX8_readChild_4 ?_
  refine g_top (tx_o (by decide)) ?_
  refine g_top (tf_o (by decide)) ?_
  refine g_top hu ?_
  refine g_bipush (v := nI 10) h dX8_readChild_7 (by decide) ?_
  refine g_icmp_lt (tgt := 17) h dX8_readChild_9 (by decide) (fun c9 => ?_) (fun c9 => ?_)
  · have n9 := lt_n (by omega) (by omega) (show nI (T) < nI (10) from c9)
    refine g_aload_n h dX8_readChild_17 rfl rfl ?_
    refine g_V h lv_X8_95_X8 sh_159 (by decide) rfl (c_X6_stepT_159 f L p w (tfS u a b c d) ((tf_oc (by decide)).trans hf) hL hp) (fitR hR (by decide) (by decide) (by omega)) rfl rfl (Nat.le_of_ble_eq_true rfl) dX8_readChild_18 ?_
    refine g_aload_n h dX8_readChild_21 rfl rfl ?_
    refine g_ldcS (tx := "of") (k := 4) h (by decide) dX8_readChild_22 ?_
    refine g_V h lv_X8_108_X8 sh_159 (by decide) rfl (c_X6_passWord_159 f L (nx f L p) w 4 (by decide) (tfS u a b c d) ((tf_oc (by decide)).trans hf) hL q1) (fitR hR (by decide) (by decide) (by omega)) rfl rfl (Nat.le_of_ble_eq_true rfl) dX8_readChild_24 ?_
    by_cases n24 : wdB f L (nx f L p) 4 = true
    · refine g_top (b2_t n24) ?_
      refine g_sto (if_pos n24) ?_
      refine g_if_eq (tgt := 37) h dX8_readChild_27 (by decide) (fun q => absurd q (by decide)) (fun _ => ?_)
      refine g_aload_n h dX8_readChild_30 rfl rfl ?_
      refine g_VP h lv_X8_138_X8 sh_159 (by decide) rfl (c_X8_isTenant a b c d f L (nx f L (nx f L p)) w T hT u hf hL q2 hu) (by rintro Ex s (⟨_, h, _⟩ | ⟨_, h, _⟩) <;> exact nomatch h) (fitR hR (by decide) (by decide) (by omega)) rfl rfl (Nat.le_of_ble_eq_true rfl) dX8_readChild_31 (fun v31 u31 hs31 => ?_)
      rcases hs31 with ⟨n31, hs31⟩ | ⟨n31, hv31, rfl⟩
      · obtain ⟨hv31, a31, b31, c31, d31, p31, hp31, rfl⟩ := hs31
        cases hv31
        refine g_if_ne (tgt := 39) h dX8_readChild_34 (by decide) (fun q => absurd q (by decide)) (fun _ => ?_)
        refine g_iconst (v := nI 0) h dX8_readChild_37 (by decide) ?_
        exact g_zretP h hrt dX8_readChild_38 (by omega) (by first | exact Or.inl rfl | exact Or.inr rfl | simp) (ql_e (by rw [chlD, if_pos n9, if_pos n24, if_neg n31]) (by assumption))
      · cases hv31
        refine g_if_ne (tgt := 39) h dX8_readChild_34 (by decide) (fun _ => ?_) (fun q => absurd q (by decide))
        refine g_aload_n h dX8_readChild_39 rfl rfl ?_
        refine g_V h lv_X8_95_X8 sh_159 (by decide) rfl (c_X6_stepT_159 f L (nx f L (nx f L p)) w (tfS u a b c (nmI f L (nx f L (nx f L p)))) ((tf_oc (by decide)).trans hf) hL q2) (fitR hR (by decide) (by decide) (by omega)) rfl rfl (Nat.le_of_ble_eq_true rfl) dX8_readChild_40 ?_
        refine g_aload_n h dX8_readChild_43 rfl rfl ?_
        refine g_getR h fl_X8_22_7 sh_159 (by decide) rfl dX8_readChild_44 ?_
        refine g_iconst (v := -1) h dX8_readChild_47 (by decide) ?_
        refine g_iconst (v := -1) h dX8_readChild_48 (by decide) ?_
        refine g_aload_n h dX8_readChild_49 rfl rfl ?_
        refine g_getI h fl_X8_141_7 sh_159 (by decide) rfl dX8_readChild_50 ?_
        refine g_top (tx_s (by decide)) ?_
        refine g_top tf_r12 ?_
        refine g_V h lv_X8_132_X4 sh_34 (by decide) rfl (c_X4_addTenant T n9 (-1) (-1) _ _ ((congrFun (TT_o (by decide)) 8).trans hu)) (fitR hR (by decide) (by decide) (by omega)) rfl rfl (Nat.le_of_ble_eq_true rfl) dX8_readChild_53 ?_
        refine g_sto atS_TT ?_
        refine g_iconst (v := nI 1) h dX8_readChild_56 (by decide) ?_
        exact g_zretP h hrt dX8_readChild_57 (by omega) (by first | exact Or.inl rfl | exact Or.inr rfl | simp) (ql_k (by rw [chlD, if_pos n9, if_pos n24, if_pos n31]) q3 rfl)
    · refine g_top (b2_f n24) ?_
      refine g_sto (if_neg n24) ?_
      refine g_if_eq (tgt := 37) h dX8_readChild_27 (by decide) (fun _ => ?_) (fun q => absurd q (by decide))
      refine g_iconst (v := nI 0) h dX8_readChild_37 (by decide) ?_
      exact g_zretP h hrt dX8_readChild_38 (by omega) (by first | exact Or.inl rfl | exact Or.inr rfl | simp) (ql_e (by rw [chlD, if_pos n9, if_neg n24]) (by assumption))
  · have n9 := nlt_n (by omega) (by omega) (show ¬ nI (T) < nI (10) from c9)
    refine g_aload_n h dX8_readChild_12 rfl rfl ?_
    refine g_V h lv_X8_38_X8 sh_159 (by decide) rfl (c_X6_fail_159 f L p w (tfS u a b c d) ((tf_oc (by decide)).trans hf) hL hp) (fitR hR (by decide) (by decide) (by omega)) rfl rfl (Nat.le_of_ble_eq_true rfl) dX8_readChild_13 ?_
    skip
    · exact g_zretP h hrt dX8_readChild_16 (by omega) (by first | exact Or.inl rfl | exact Or.inr rfl | simp) (ql_e (by rw [chlD, if_neg (Nat.not_lt.mpr n9)]) (by assumption))
set_option maxHeartbeats 1000000 in
theorem c_X8_readGoods {E : EE} (a b c d : Int32) (f : Nat → Int32) (L p : Nat) (w : Int32) (T W : Nat) (hT : T ≤ 10) (hW : W ≤ 8) (u : Sto) (hf : u 1 = f) (hL : L ≤ 400) (hp : p ≤ L) (hu : u 34 8 = nI T) (hw : u 34 9 = nI W) (ho : ∀ r, r < 168 → tn (u 28 r) 10) : CtP E 6 0 yX8_readGoods cX8_readGoods 1 (some .boolean) [.ref (E.ad 159)] (TT u a b c d f L p w) (QL u T W f L w (gdsD f L p)) := by
  have q1 := (nx_b (f := f) hp).2
  have q2 := (nx_b (f := f) q1).2
  have q3 := (nx_b (f := f) q2).2
  have q4 := (nx_b (f := f) q3).2
  have q5 := (nx_b (f := f) q4).2
  have q6 := (nx_b (f := f) q5).2
  have q7 := (nx_b (f := f) q6).2
  have q8 := (nx_b (f := f) q7).2
  refine ctp_of (by decide) (Nat.le_of_ble_eq_true rfl) (fun X h hR hrt htab hargs => ?_)
  refine g_aload_n h dX8_readGoods_0 rfl rfl ?_
  refine g_V h lv_X8_95_X8 sh_159 (by decide) rfl (c_X6_stepT_159 f L p w (tfS u a b c d) ((tf_oc (by decide)).trans hf) hL hp) (fitR hR (by decide) (by decide) (by omega)) rfl rfl (Nat.le_of_ble_eq_true rfl) dX8_readGoods_1 ?_
  refine g_aload_n h dX8_readGoods_4 rfl rfl ?_
  refine g_VP h lv_X8_143_X8 sh_159 (by decide) rfl (c_X8_passDay a b c d f L (nx f L p) w u hf hL q1) (by rintro Ex s (⟨_, h, _⟩ | ⟨_, h, _⟩) <;> exact nomatch h) (fitR hR (by decide) (by decide) (by omega)) rfl rfl (Nat.le_of_ble_eq_true rfl) dX8_readGoods_5 (fun v5 u5 hs5 => ?_)
  rcases hs5 with ⟨n5, hs5⟩ | ⟨n5, hv5, rfl⟩
  · obtain ⟨hv5, a5, b5, c5, d5, p5, hp5, rfl⟩ := hs5
    cases hv5
    refine g_if_eq (tgt := 18) h dX8_readGoods_8 (by decide) (fun _ => ?_) (fun q => absurd q (by decide))
    refine g_iconst (v := nI 0) h dX8_readGoods_18 (by decide) ?_
    exact g_zretP h hrt dX8_readGoods_19 (by omega) (by first | exact Or.inl rfl | exact Or.inr rfl | simp) (ql_e (by rw [gdsD, if_neg n5]) (by assumption))
  · cases hv5
    refine g_if_eq (tgt := 18) h dX8_readGoods_8 (by decide) (fun q => absurd q (by decide)) (fun _ => ?_)
    refine g_aload_n h dX8_readGoods_11 rfl rfl ?_
    refine g_VP h lv_X8_158_X8 sh_159 (by decide) rfl (c_X8_isHour a b (nI (ix (nmI f L (nx f L p)) * 24)) d f L (nx f L (nx f L p)) w (ix (nmI f L (nx f L p)) * 24) rfl u hf hL q2) (by rintro Ex s (⟨_, h, _⟩ | ⟨_, h, _⟩) <;> exact nomatch h) (fitR hR (by decide) (by decide) (by omega)) rfl rfl (Nat.le_of_ble_eq_true rfl) dX8_readGoods_12 (fun v12 u12 hs12 => ?_)
    rcases hs12 with ⟨n12, hs12⟩ | ⟨n12, hv12, rfl⟩
    · obtain ⟨hv12, a12, b12, c12, d12, p12, hp12, rfl⟩ := hs12
      cases hv12
      refine g_if_ne (tgt := 20) h dX8_readGoods_15 (by decide) (fun q => absurd q (by decide)) (fun _ => ?_)
      refine g_iconst (v := nI 0) h dX8_readGoods_18 (by decide) ?_
      exact g_zretP h hrt dX8_readGoods_19 (by omega) (by first | exact Or.inl rfl | exact Or.inr rfl | simp) (ql_e (by rw [gdsD, if_pos n5, if_neg n12]) (by assumption))
    · cases hv12
      refine g_if_ne (tgt := 20) h dX8_readGoods_15 (by decide) (fun _ => ?_) (fun q => absurd q (by decide))
      refine g_aload_n h dX8_readGoods_20 rfl rfl ?_
      refine g_V h lv_X8_95_X8 sh_159 (by decide) rfl (c_X6_stepT_159 f L (nx f L (nx f L p)) w (tfS u a b (nI (ix (nmI f L (nx f L p)) * 24 + ix (nmI f L (nx f L (nx f L p))))) d) ((tf_oc (by decide)).trans hf) hL q2) (fitR hR (by decide) (by decide) (by omega)) rfl rfl (Nat.le_of_ble_eq_true rfl) dX8_readGoods_21 ?_
      refine g_aload_n h dX8_readGoods_24 rfl rfl ?_
      refine g_iconst (v := nI 3) h dX8_readGoods_25 (by decide) ?_
      refine g_iconst (v := nI 0) h dX8_readGoods_26 (by decide) ?_
      refine g_bipush (v := nI 99) h dX8_readGoods_27 (by decide) ?_
      refine g_V h lv_X8_99_X8 sh_159 (by decide) rfl (c_X6_isNumber_159 f L (nx f L (nx f L (nx f L p))) w 3 (by decide) (nI 0) (nI 99) (tfS u a b (nI (ix (nmI f L (nx f L p)) * 24 + ix (nmI f L (nx f L (nx f L p))))) d) ((tf_oc (by decide)).trans hf) hL q3) (fitR hR (by decide) (by decide) (by omega)) rfl rfl (Nat.le_of_ble_eq_true rfl) dX8_readGoods_29 ?_
      by_cases n29 : nuP f L (nx f L (nx f L (nx f L p))) 3 (nI 0) (nI 99)
      · refine g_top (b2_t n29) ?_
        refine g_sto (tx_wv (if_pos n29)) ?_
        refine g_if_ne (tgt := 37) h dX8_readGoods_32 (by decide) (fun _ => ?_) (fun q => absurd q (by decide))
        have hr9 : (ix (nmI f L (nx f L p)) * 24 + ix (nmI f L (nx f L (nx f L p)))) < 168 := by
          obtain ⟨k1, e1, _, f1⟩ := nu_ix n5
          obtain ⟨k2, e2, _, f2⟩ := nu_ix n12
          rw [e1, e2, ix_nI (by omega), ix_nI (by omega)]; omega
        refine g_aload_n h dX8_readGoods_37 rfl rfl ?_
        refine g_getR h fl_X8_15_7 sh_159 (by decide) rfl dX8_readGoods_38 ?_
        refine g_getR h fl_X8_161_6 sh_27 (by decide) rfl dX8_readGoods_41 ?_
        refine g_aload_n h dX8_readGoods_44 rfl rfl ?_
        refine g_getI h fl_X8_149_7 sh_159 (by decide) rfl dX8_readGoods_45 ?_
        refine g_top (tx_s (by decide)) ?_
        refine g_top tf_r11 ?_
        refine g_aload_n h dX8_readGoods_48 rfl rfl ?_
        refine g_V h lv_X8_103_X8 sh_159 (by decide) rfl (c_X6_stepOver_159 f L (nx f L (nx f L (nx f L p))) w (tfS u a b (nI (ix (nmI f L (nx f L p)) * 24 + ix (nmI f L (nx f L (nx f L p))))) d) ((tf_oc (by decide)).trans hf) hL q3) (fitR hR (by decide) (by decide) (by omega)) rfl rfl (Nat.le_of_ble_eq_true rfl) dX8_readGoods_49 ?_
        refine g_iast h _ _ _ sh_30 (by decide) (by decide) rfl (by omega) dX8_readGoods_52 ?_
        refine g_sto (tx_su (by decide)) ?_
        refine g_sto (tx_in (tf_su (by decide))) ?_
        refine g_iconst (v := nI 1) h dX8_readGoods_53 (by decide) ?_
        exact g_zretP h hrt dX8_readGoods_54 (by omega) (by first | exact Or.inl rfl | exact Or.inr rfl | simp) (ql_k (by rw [gdsD, if_pos n5, if_pos n12, if_pos n29]) q4 rfl)
      · refine g_top (b2_f n29) ?_
        refine g_sto (tx_wv (if_neg n29)) ?_
        refine g_if_ne (tgt := 37) h dX8_readGoods_32 (by decide) (fun q => absurd q (by decide)) (fun _ => ?_)
        refine g_iconst (v := nI 0) h dX8_readGoods_35 (by decide) ?_
        exact g_zretP h hrt dX8_readGoods_36 (by omega) (by first | exact Or.inl rfl | exact Or.inr rfl | simp) (ql_e (by rw [gdsD, if_pos n5, if_pos n12, if_neg n29]) (by assumption))
set_option maxHeartbeats 1000000 in
theorem c_X8_readShut {E : EE} (a b c d : Int32) (f : Nat → Int32) (L p : Nat) (w : Int32) (T W : Nat) (hT : T ≤ 10) (hW : W ≤ 8) (u : Sto) (hf : u 1 = f) (hL : L ≤ 400) (hp : p ≤ L) (hu : u 34 8 = nI T) (hw : u 34 9 = nI W) (ho : ∀ r, r < 168 → tn (u 28 r) 10) : CtP E 6 0 yX8_readShut cX8_readShut 1 (some .boolean) [.ref (E.ad 159)] (TT u a b c d f L p w) (QL u T W f L w (shtD (u 28) f L p)) := by
  have q1 := (nx_b (f := f) hp).2
  have q2 := (nx_b (f := f) q1).2
  have q3 := (nx_b (f := f) q2).2
  have q4 := (nx_b (f := f) q3).2
  have q5 := (nx_b (f := f) q4).2
  have q6 := (nx_b (f := f) q5).2
  have q7 := (nx_b (f := f) q6).2
  have q8 := (nx_b (f := f) q7).2
  refine ctp_of (by decide) (Nat.le_of_ble_eq_true rfl) (fun X h hR hrt htab hargs => ?_)
  refine g_aload_n h dX8_readShut_0 rfl rfl ?_
  refine g_V h lv_X8_95_X8 sh_159 (by decide) rfl (c_X6_stepT_159 f L p w (tfS u a b c d) ((tf_oc (by decide)).trans hf) hL hp) (fitR hR (by decide) (by decide) (by omega)) rfl rfl (Nat.le_of_ble_eq_true rfl) dX8_readShut_1 ?_
  refine g_aload_n h dX8_readShut_4 rfl rfl ?_
  refine g_VP h lv_X8_143_X8 sh_159 (by decide) rfl (c_X8_passDay a b c d f L (nx f L p) w u hf hL q1) (by rintro Ex s (⟨_, h, _⟩ | ⟨_, h, _⟩) <;> exact nomatch h) (fitR hR (by decide) (by decide) (by omega)) rfl rfl (Nat.le_of_ble_eq_true rfl) dX8_readShut_5 (fun v5 u5 hs5 => ?_)
  rcases hs5 with ⟨n5, hs5⟩ | ⟨n5, hv5, rfl⟩
  · obtain ⟨hv5, a5, b5, c5, d5, p5, hp5, rfl⟩ := hs5
    cases hv5
    refine g_if_eq (tgt := 18) h dX8_readShut_8 (by decide) (fun _ => ?_) (fun q => absurd q (by decide))
    refine g_iconst (v := nI 0) h dX8_readShut_18 (by decide) ?_
    exact g_zretP h hrt dX8_readShut_19 (by omega) (by first | exact Or.inl rfl | exact Or.inr rfl | simp) (ql_e (by rw [shtD, if_neg n5]) (by assumption))
  · cases hv5
    refine g_if_eq (tgt := 18) h dX8_readShut_8 (by decide) (fun q => absurd q (by decide)) (fun _ => ?_)
    refine g_aload_n h dX8_readShut_11 rfl rfl ?_
    refine g_VP h lv_X8_158_X8 sh_159 (by decide) rfl (c_X8_isHour a b (nI (ix (nmI f L (nx f L p)) * 24)) d f L (nx f L (nx f L p)) w (ix (nmI f L (nx f L p)) * 24) rfl u hf hL q2) (by rintro Ex s (⟨_, h, _⟩ | ⟨_, h, _⟩) <;> exact nomatch h) (fitR hR (by decide) (by decide) (by omega)) rfl rfl (Nat.le_of_ble_eq_true rfl) dX8_readShut_12 (fun v12 u12 hs12 => ?_)
    rcases hs12 with ⟨n12, hs12⟩ | ⟨n12, hv12, rfl⟩
    · obtain ⟨hv12, a12, b12, c12, d12, p12, hp12, rfl⟩ := hs12
      cases hv12
      refine g_if_ne (tgt := 20) h dX8_readShut_15 (by decide) (fun q => absurd q (by decide)) (fun _ => ?_)
      refine g_iconst (v := nI 0) h dX8_readShut_18 (by decide) ?_
      exact g_zretP h hrt dX8_readShut_19 (by omega) (by first | exact Or.inl rfl | exact Or.inr rfl | simp) (ql_e (by rw [shtD, if_pos n5, if_neg n12]) (by assumption))
    · cases hv12
      refine g_if_ne (tgt := 20) h dX8_readShut_15 (by decide) (fun _ => ?_) (fun q => absurd q (by decide))
      have hr9 : (ix (nmI f L (nx f L p)) * 24 + ix (nmI f L (nx f L (nx f L p)))) < 168 := by
        obtain ⟨k1, e1, _, f1⟩ := nu_ix n5
        obtain ⟨k2, e2, _, f2⟩ := nu_ix n12
        rw [e1, e2, ix_nI (by omega), ix_nI (by omega)]; omega
      refine g_aload_n h dX8_readShut_20 rfl rfl ?_
      refine g_getR h fl_X8_15_7 sh_159 (by decide) rfl dX8_readShut_21 ?_
      refine g_getR h fl_X8_146_6 sh_27 (by decide) rfl dX8_readShut_24 ?_
      refine g_aload_n h dX8_readShut_27 rfl rfl ?_
      refine g_getI h fl_X8_149_7 sh_159 (by decide) rfl dX8_readShut_28 ?_
      refine g_top (tx_s (by decide)) ?_
      refine g_top tf_r11 ?_
      refine g_iald h _ _ _ sh_28 (by decide) (by decide) rfl (by omega) dX8_readShut_31 ?_
      refine g_top (tx_o (by decide)) ?_
      refine g_top (tf_o (by decide)) ?_
      refine g_iconst (v := -1) h dX8_readShut_32 (by decide) ?_
      refine g_icmp_eq (tgt := 41) h dX8_readShut_33 (by decide) (fun c33 => ?_) (fun c33 => ?_)
      · refine g_aload_n h dX8_readShut_41 rfl rfl ?_
        refine g_V h lv_X8_95_X8 sh_159 (by decide) rfl (c_X6_stepT_159 f L (nx f L (nx f L p)) w (tfS u a b (nI (ix (nmI f L (nx f L p)) * 24 + ix (nmI f L (nx f L (nx f L p))))) d) ((tf_oc (by decide)).trans hf) hL q2) (fitR hR (by decide) (by decide) (by omega)) rfl rfl (Nat.le_of_ble_eq_true rfl) dX8_readShut_42 ?_
        refine g_aload_n h dX8_readShut_45 rfl rfl ?_
        refine g_getR h fl_X8_22_7 sh_159 (by decide) rfl dX8_readShut_46 ?_
        refine g_getR h fl_X8_152_4 sh_34 (by decide) rfl dX8_readShut_49 ?_
        refine g_aload_n h dX8_readShut_52 rfl rfl ?_
        refine g_getI h fl_X8_149_7 sh_159 (by decide) rfl dX8_readShut_53 ?_
        refine g_top (tx_s (by decide)) ?_
        refine g_top tf_r11 ?_
        refine g_iconst (v := nI 1) h dX8_readShut_56 (by decide) ?_
        refine g_iast h _ _ _ sh_38 (by decide) (by decide) rfl (by omega) dX8_readShut_57 ?_
        refine g_sto (tx_su (by decide)) ?_
        refine g_sto (tx_in (tf_su (by decide))) ?_
        refine g_iconst (v := nI 1) h dX8_readShut_58 (by decide) ?_
        exact g_zretP h hrt dX8_readShut_59 (by omega) (by first | exact Or.inl rfl | exact Or.inr rfl | simp) (ql_k (by rw [shtD, if_pos n5, if_pos n12, if_pos c33]) q3 rfl)
      · refine g_aload_n h dX8_readShut_36 rfl rfl ?_
        refine g_V h lv_X8_38_X8 sh_159 (by decide) rfl (c_X6_fail_159 f L (nx f L (nx f L p)) w (tfS u a b (nI (ix (nmI f L (nx f L p)) * 24 + ix (nmI f L (nx f L (nx f L p))))) d) ((tf_oc (by decide)).trans hf) hL q2) (fitR hR (by decide) (by decide) (by omega)) rfl rfl (Nat.le_of_ble_eq_true rfl) dX8_readShut_37 ?_
        skip
        · exact g_zretP h hrt dX8_readShut_40 (by omega) (by first | exact Or.inl rfl | exact Or.inr rfl | simp) (ql_e (by rw [shtD, if_pos n5, if_pos n12, if_neg c33]) (by assumption))
set_option maxHeartbeats 1000000 in
theorem c_X8_readSub {E : EE} (a b c d : Int32) (f : Nat → Int32) (L p : Nat) (w : Int32) (T W : Nat) (hT : T ≤ 10) (hW : W ≤ 8) (u : Sto) (hf : u 1 = f) (hL : L ≤ 400) (hp : p ≤ L) (hu : u 34 8 = nI T) (hw : u 34 9 = nI W) (ho : ∀ r, r < 168 → tn (u 28 r) 10) : CtP E 6 0 yX8_readSub cX8_readSub 1 (some .boolean) [.ref (E.ad 159)] (TT u a b c d f L p w) (QL u T W f L w (sbtD T (u 37) (u 28) f L p)) := by
  have q1 := (nx_b (f := f) hp).2
  have q2 := (nx_b (f := f) q1).2
  have q3 := (nx_b (f := f) q2).2
  have q4 := (nx_b (f := f) q3).2
  have q5 := (nx_b (f := f) q4).2
  have q6 := (nx_b (f := f) q5).2
  have q7 := (nx_b (f := f) q6).2
  have q8 := (nx_b (f := f) q7).2
  refine ctp_of (by decide) (Nat.le_of_ble_eq_true rfl) (fun X h hR hrt htab hargs => ?_)
  refine g_aload_n h dX8_readSub_0 rfl rfl ?_
  refine g_V h lv_X8_95_X8 sh_159 (by decide) rfl (c_X6_stepT_159 f L p w (tfS u a b c d) ((tf_oc (by decide)).trans hf) hL hp) (fitR hR (by decide) (by decide) (by omega)) rfl rfl (Nat.le_of_ble_eq_true rfl) dX8_readSub_1 ?_
  refine g_aload_n h dX8_readSub_4 rfl rfl ?_
  refine g_VP h lv_X8_143_X8 sh_159 (by decide) rfl (c_X8_passDay a b c d f L (nx f L p) w u hf hL q1) (by rintro Ex s (⟨_, h, _⟩ | ⟨_, h, _⟩) <;> exact nomatch h) (fitR hR (by decide) (by decide) (by omega)) rfl rfl (Nat.le_of_ble_eq_true rfl) dX8_readSub_5 (fun v5 u5 hs5 => ?_)
  rcases hs5 with ⟨n5, hs5⟩ | ⟨n5, hv5, rfl⟩
  · obtain ⟨hv5, a5, b5, c5, d5, p5, hp5, rfl⟩ := hs5
    cases hv5
    refine g_if_eq (tgt := 18) h dX8_readSub_8 (by decide) (fun _ => ?_) (fun q => absurd q (by decide))
    refine g_iconst (v := nI 0) h dX8_readSub_18 (by decide) ?_
    exact g_zretP h hrt dX8_readSub_19 (by omega) (by first | exact Or.inl rfl | exact Or.inr rfl | simp) (ql_e (by rw [sbtD, if_neg n5]) (by assumption))
  · cases hv5
    refine g_if_eq (tgt := 18) h dX8_readSub_8 (by decide) (fun q => absurd q (by decide)) (fun _ => ?_)
    refine g_aload_n h dX8_readSub_11 rfl rfl ?_
    refine g_VP h lv_X8_158_X8 sh_159 (by decide) rfl (c_X8_isHour a b (nI (ix (nmI f L (nx f L p)) * 24)) d f L (nx f L (nx f L p)) w (ix (nmI f L (nx f L p)) * 24) rfl u hf hL q2) (by rintro Ex s (⟨_, h, _⟩ | ⟨_, h, _⟩) <;> exact nomatch h) (fitR hR (by decide) (by decide) (by omega)) rfl rfl (Nat.le_of_ble_eq_true rfl) dX8_readSub_12 (fun v12 u12 hs12 => ?_)
    rcases hs12 with ⟨n12, hs12⟩ | ⟨n12, hv12, rfl⟩
    · obtain ⟨hv12, a12, b12, c12, d12, p12, hp12, rfl⟩ := hs12
      cases hv12
      refine g_if_ne (tgt := 20) h dX8_readSub_15 (by decide) (fun q => absurd q (by decide)) (fun _ => ?_)
      refine g_iconst (v := nI 0) h dX8_readSub_18 (by decide) ?_
      exact g_zretP h hrt dX8_readSub_19 (by omega) (by first | exact Or.inl rfl | exact Or.inr rfl | simp) (ql_e (by rw [sbtD, if_pos n5, if_neg n12]) (by assumption))
    · cases hv12
      refine g_if_ne (tgt := 20) h dX8_readSub_15 (by decide) (fun _ => ?_) (fun q => absurd q (by decide))
      have hr9 : (ix (nmI f L (nx f L p)) * 24 + ix (nmI f L (nx f L (nx f L p)))) < 168 := by
        obtain ⟨k1, e1, _, f1⟩ := nu_ix n5
        obtain ⟨k2, e2, _, f2⟩ := nu_ix n12
        rw [e1, e2, ix_nI (by omega), ix_nI (by omega)]; omega
      refine g_aload_n h dX8_readSub_20 rfl rfl ?_
      refine g_getR h fl_X8_15_7 sh_159 (by decide) rfl dX8_readSub_21 ?_
      refine g_getR h fl_X8_146_6 sh_27 (by decide) rfl dX8_readSub_24 ?_
      refine g_aload_n h dX8_readSub_27 rfl rfl ?_
      refine g_getI h fl_X8_149_7 sh_159 (by decide) rfl dX8_readSub_28 ?_
      refine g_top (tx_s (by decide)) ?_
      refine g_top tf_r11 ?_
      refine g_iald h _ _ _ sh_28 (by decide) (by decide) rfl (by omega) dX8_readSub_31 ?_
      refine g_top (tx_o (by decide)) ?_
      refine g_top (tf_o (by decide)) ?_
      refine g_iconst (v := -1) h dX8_readSub_32 (by decide) ?_
      refine g_icmp_ne (tgt := 41) h dX8_readSub_33 (by decide) (fun c33 => ?_) (fun c33 => ?_)
      · refine g_aload_n h dX8_readSub_41 rfl rfl ?_
        refine g_V h lv_X8_95_X8 sh_159 (by decide) rfl (c_X6_stepT_159 f L (nx f L (nx f L p)) w (tfS u a b (nI (ix (nmI f L (nx f L p)) * 24 + ix (nmI f L (nx f L (nx f L p))))) d) ((tf_oc (by decide)).trans hf) hL q2) (fitR hR (by decide) (by decide) (by omega)) rfl rfl (Nat.le_of_ble_eq_true rfl) dX8_readSub_42 ?_
        refine g_aload_n h dX8_readSub_45 rfl rfl ?_
        refine g_VP h lv_X8_138_X8 sh_159 (by decide) rfl (c_X8_isTenant a b (nI (ix (nmI f L (nx f L p)) * 24 + ix (nmI f L (nx f L (nx f L p))))) d f L (nx f L (nx f L (nx f L p))) w T hT u hf hL q3 hu) (by rintro Ex s (⟨_, h, _⟩ | ⟨_, h, _⟩) <;> exact nomatch h) (fitR hR (by decide) (by decide) (by omega)) rfl rfl (Nat.le_of_ble_eq_true rfl) dX8_readSub_46 (fun v46 u46 hs46 => ?_)
        rcases hs46 with ⟨n46, hs46⟩ | ⟨n46, hv46, rfl⟩
        · obtain ⟨hv46, a46, b46, c46, d46, p46, hp46, rfl⟩ := hs46
          cases hv46
          refine g_if_ne (tgt := 54) h dX8_readSub_49 (by decide) (fun q => absurd q (by decide)) (fun _ => ?_)
          refine g_iconst (v := nI 0) h dX8_readSub_52 (by decide) ?_
          exact g_zretP h hrt dX8_readSub_53 (by omega) (by first | exact Or.inl rfl | exact Or.inr rfl | simp) (ql_e (by rw [sbtD, if_pos n5, if_pos n12, if_pos c33, if_neg n46]) (by assumption))
        · cases hv46
          refine g_if_ne (tgt := 54) h dX8_readSub_49 (by decide) (fun _ => ?_) (fun q => absurd q (by decide))
          refine g_aload_n h dX8_readSub_54 rfl rfl ?_
          refine g_getI h fl_X8_141_7 sh_159 (by decide) rfl dX8_readSub_55 ?_
          refine g_top (tx_s (by decide)) ?_
          refine g_top tf_r12 ?_
          refine g_aload_n h dX8_readSub_58 rfl rfl ?_
          refine g_getR h fl_X8_15_7 sh_159 (by decide) rfl dX8_readSub_59 ?_
          refine g_getR h fl_X8_146_6 sh_27 (by decide) rfl dX8_readSub_62 ?_
          refine g_aload_n h dX8_readSub_65 rfl rfl ?_
          refine g_getI h fl_X8_149_7 sh_159 (by decide) rfl dX8_readSub_66 ?_
          refine g_top (tx_s (by decide)) ?_
          refine g_top tf_r11 ?_
          refine g_iald h _ _ _ sh_28 (by decide) (by decide) rfl (by omega) dX8_readSub_69 ?_
          refine g_top (tx_o (by decide)) ?_
          refine g_top (tf_o (by decide)) ?_
          refine g_icmp_ne (tgt := 78) h dX8_readSub_70 (by decide) (fun c70 => ?_) (fun c70 => ?_)
          · refine g_aload_n h dX8_readSub_78 rfl rfl ?_
            refine g_V h lv_X8_95_X8 sh_159 (by decide) rfl (c_X6_stepT_159 f L (nx f L (nx f L (nx f L p))) w (tfS u a b (nI (ix (nmI f L (nx f L p)) * 24 + ix (nmI f L (nx f L (nx f L p))))) (nmI f L (nx f L (nx f L (nx f L p))))) ((tf_oc (by decide)).trans hf) hL q3) (fitR hR (by decide) (by decide) (by omega)) rfl rfl (Nat.le_of_ble_eq_true rfl) dX8_readSub_79 ?_
            refine g_aload_n h dX8_readSub_82 rfl rfl ?_
            refine g_getR h fl_X8_15_7 sh_159 (by decide) rfl dX8_readSub_83 ?_
            refine g_getR h fl_X8_163_6 sh_27 (by decide) rfl dX8_readSub_86 ?_
            refine g_aload_n h dX8_readSub_89 rfl rfl ?_
            refine g_getI h fl_X8_149_7 sh_159 (by decide) rfl dX8_readSub_90 ?_
            refine g_top (tx_s (by decide)) ?_
            refine g_top tf_r11 ?_
            refine g_aload_n h dX8_readSub_93 rfl rfl ?_
            refine g_getI h fl_X8_141_7 sh_159 (by decide) rfl dX8_readSub_94 ?_
            refine g_top (tx_s (by decide)) ?_
            refine g_top tf_r12 ?_
            refine g_iast h _ _ _ sh_29 (by decide) (by decide) rfl (by omega) dX8_readSub_97 ?_
            refine g_sto (tx_su (by decide)) ?_
            refine g_sto (tx_in (tf_su (by decide))) ?_
            refine g_iconst (v := nI 1) h dX8_readSub_98 (by decide) ?_
            exact g_zretP h hrt dX8_readSub_99 (by omega) (by first | exact Or.inl rfl | exact Or.inr rfl | simp) (ql_k (by rw [sbtD, if_pos n5, if_pos n12, if_pos c33, if_pos n46, if_pos c70]) q4 rfl)
          · refine g_aload_n h dX8_readSub_73 rfl rfl ?_
            refine g_V h lv_X8_38_X8 sh_159 (by decide) rfl (c_X6_fail_159 f L (nx f L (nx f L (nx f L p))) w (tfS u a b (nI (ix (nmI f L (nx f L p)) * 24 + ix (nmI f L (nx f L (nx f L p))))) (nmI f L (nx f L (nx f L (nx f L p))))) ((tf_oc (by decide)).trans hf) hL q3) (fitR hR (by decide) (by decide) (by omega)) rfl rfl (Nat.le_of_ble_eq_true rfl) dX8_readSub_74 ?_
            skip
            · exact g_zretP h hrt dX8_readSub_77 (by omega) (by first | exact Or.inl rfl | exact Or.inr rfl | simp) (ql_e (by rw [sbtD, if_pos n5, if_pos n12, if_pos c33, if_pos n46, if_neg (fun z => z c70)]) (by assumption))
      · refine g_aload_n h dX8_readSub_36 rfl rfl ?_
        refine g_V h lv_X8_38_X8 sh_159 (by decide) rfl (c_X6_fail_159 f L (nx f L (nx f L p)) w (tfS u a b (nI (ix (nmI f L (nx f L p)) * 24 + ix (nmI f L (nx f L (nx f L p))))) d) ((tf_oc (by decide)).trans hf) hL q2) (fitR hR (by decide) (by decide) (by omega)) rfl rfl (Nat.le_of_ble_eq_true rfl) dX8_readSub_37 ?_
        skip
        · exact g_zretP h hrt dX8_readSub_40 (by omega) (by first | exact Or.inl rfl | exact Or.inr rfl | simp) (ql_e (by rw [sbtD, if_pos n5, if_pos n12, if_neg (fun z => z c33)]) (by assumption))
set_option maxHeartbeats 1000000 in
theorem c_X8_readWant {E : EE} (a b c d : Int32) (f : Nat → Int32) (L p : Nat) (w : Int32) (T W : Nat) (hT : T ≤ 10) (hW : W ≤ 8) (u : Sto) (hf : u 1 = f) (hL : L ≤ 400) (hp : p ≤ L) (hu : u 34 8 = nI T) (hw : u 34 9 = nI W) (ho : ∀ r, r < 168 → tn (u 28 r) 10) : CtP E 9 0 yX8_readWant cX8_readWant 2 (some .boolean) [.ref (E.ad 159)] (TT u a b c d f L p w) (QL u T W f L w (wntD T W (u 37) f L p)) := by
  have q1 := (nx_b (f := f) hp).2
  have q2 := (nx_b (f := f) q1).2
  have q3 := (nx_b (f := f) q2).2
  have q4 := (nx_b (f := f) q3).2
  have q5 := (nx_b (f := f) q4).2
  have q6 := (nx_b (f := f) q5).2
  have q7 := (nx_b (f := f) q6).2
  have q8 := (nx_b (f := f) q7).2
  refine ctp_of (by decide) (Nat.le_of_ble_eq_true rfl) (fun X h hR hrt htab hargs => ?_)
  refine g_aload_n h dX8_readWant_0 rfl rfl ?_
  refine g_getR h fl_X8_22_7 sh_159 (by decide) rfl dX8_readWant_1 ?_
  refine g_getI h fl_X8_165_4 sh_34 (by decide) rfl dX8_readWant_4 ?_
  refine g_top (tx_o (by decide)) ?_
  refine g_top (tf_o (by decide)) ?_
  refine g_top hw ?_
  refine g_bipush (v := nI 8) h dX8_readWant_7 (by decide) ?_
  refine g_icmp_lt (tgt := 17) h dX8_readWant_9 (by decide) (fun c9 => ?_) (fun c9 => ?_)
  · have n9 := lt_n (by omega) (by omega) (show nI (W) < nI (8) from c9)
    refine g_aload_n h dX8_readWant_17 rfl rfl ?_
    refine g_V h lv_X8_95_X8 sh_159 (by decide) rfl (c_X6_stepT_159 f L p w (tfS u a b c d) ((tf_oc (by decide)).trans hf) hL hp) (fitR hR (by decide) (by decide) (by omega)) rfl rfl (Nat.le_of_ble_eq_true rfl) dX8_readWant_18 ?_
    refine g_aload_n h dX8_readWant_21 rfl rfl ?_
    refine g_VP h lv_X8_138_X8 sh_159 (by decide) rfl (c_X8_isTenant a b c d f L (nx f L p) w T hT u hf hL q1 hu) (by rintro Ex s (⟨_, h, _⟩ | ⟨_, h, _⟩) <;> exact nomatch h) (fitR hR (by decide) (by decide) (by omega)) rfl rfl (Nat.le_of_ble_eq_true rfl) dX8_readWant_22 (fun v22 u22 hs22 => ?_)
    rcases hs22 with ⟨n22, hs22⟩ | ⟨n22, hv22, rfl⟩
    · obtain ⟨hv22, a22, b22, c22, d22, p22, hp22, rfl⟩ := hs22
      cases hv22
      refine g_if_ne (tgt := 30) h dX8_readWant_25 (by decide) (fun q => absurd q (by decide)) (fun _ => ?_)
      refine g_iconst (v := nI 0) h dX8_readWant_28 (by decide) ?_
      exact g_zretP h hrt dX8_readWant_29 (by omega) (by first | exact Or.inl rfl | exact Or.inr rfl | simp) (ql_e (by rw [wntD, if_pos n9, if_neg n22]) (by assumption))
    · cases hv22
      refine g_if_ne (tgt := 30) h dX8_readWant_25 (by decide) (fun _ => ?_) (fun q => absurd q (by decide))
      refine g_aload_n h dX8_readWant_30 rfl rfl ?_
      refine g_V h lv_X8_95_X8 sh_159 (by decide) rfl (c_X6_stepT_159 f L (nx f L p) w (tfS u a b c (nmI f L (nx f L p))) ((tf_oc (by decide)).trans hf) hL q1) (fitR hR (by decide) (by decide) (by omega)) rfl rfl (Nat.le_of_ble_eq_true rfl) dX8_readWant_31 ?_
      refine g_aload_n h dX8_readWant_34 rfl rfl ?_
      refine g_iconst (v := nI 3) h dX8_readWant_35 (by decide) ?_
      refine g_iconst (v := nI 1) h dX8_readWant_36 (by decide) ?_
      refine g_bipush (v := nI 20) h dX8_readWant_37 (by decide) ?_
      refine g_V h lv_X8_99_X8 sh_159 (by decide) rfl (c_X6_isNumber_159 f L (nx f L (nx f L p)) w 3 (by decide) (nI 1) (nI 20) (tfS u a b c (nmI f L (nx f L p))) ((tf_oc (by decide)).trans hf) hL q2) (fitR hR (by decide) (by decide) (by omega)) rfl rfl (Nat.le_of_ble_eq_true rfl) dX8_readWant_39 ?_
      by_cases n39 : nuP f L (nx f L (nx f L p)) 3 (nI 1) (nI 20)
      · refine g_top (b2_t n39) ?_
        refine g_sto (tx_wv (if_pos n39)) ?_
        refine g_if_ne (tgt := 47) h dX8_readWant_42 (by decide) (fun _ => ?_) (fun q => absurd q (by decide))
        refine g_aload_n h dX8_readWant_47 rfl rfl ?_
        refine g_V h lv_X8_103_X8 sh_159 (by decide) rfl (c_X6_stepOver_159 f L (nx f L (nx f L p)) w (tfS u a b c (nmI f L (nx f L p))) ((tf_oc (by decide)).trans hf) hL q2) (fitR hR (by decide) (by decide) (by omega)) rfl rfl (Nat.le_of_ble_eq_true rfl) dX8_readWant_48 ?_
        refine g_istore_n (ls' := [(0, _), (1, _)]) h dX8_readWant_51 rfl (by decide) rfl rfl ?_
        refine g_aload_n h dX8_readWant_52 rfl rfl ?_
        refine g_ldcS (tx := "from") (k := 10) h (by decide) dX8_readWant_53 ?_
        refine g_V h lv_X8_108_X8 sh_159 (by decide) rfl (c_X6_passWord_159 f L (nx f L (nx f L (nx f L p))) w 10 (by decide) (tfS u a b c (nmI f L (nx f L p))) ((tf_oc (by decide)).trans hf) hL q3) (fitR hR (by decide) (by decide) (by omega)) rfl rfl (Nat.le_of_ble_eq_true rfl) dX8_readWant_55 ?_
        by_cases n55 : wdB f L (nx f L (nx f L (nx f L p))) 10 = true
        · refine g_top (b2_t n55) ?_
          refine g_sto (if_pos n55) ?_
          refine g_if_eq (tgt := 75) h dX8_readWant_58 (by decide) (fun q => absurd q (by decide)) (fun _ => ?_)
          refine g_aload_n h dX8_readWant_61 rfl rfl ?_
          refine g_VP h lv_X8_111_X8 sh_159 (by decide) rfl (c_X8_passFirstHour a b c (nmI f L (nx f L p)) f L (nx f L (nx f L (nx f L (nx f L p)))) w u hf hL q4) (by rintro Ex s (⟨_, h, _⟩ | ⟨_, _, h, _⟩ | ⟨_, _, h, _⟩) <;> exact nomatch h) (fitR hR (by decide) (by decide) (by omega)) rfl rfl (Nat.le_of_ble_eq_true rfl) dX8_readWant_62 (fun v62 u62 hs62 => ?_)
          rcases hs62 with ⟨n62, hs62⟩ | ⟨n62, m62, hs62⟩ | ⟨n62, m62, hv62, rfl⟩
          · obtain ⟨hv62, a62, b62, c62, d62, p62, hp62, rfl⟩ := hs62
            cases hv62
            refine g_if_eq (tgt := 75) h dX8_readWant_65 (by decide) (fun _ => ?_) (fun q => absurd q (by decide))
            refine g_iconst (v := nI 0) h dX8_readWant_75 (by decide) ?_
            exact g_zretP h hrt dX8_readWant_76 (by omega) (by first | exact Or.inl rfl | exact Or.inr rfl | simp) (ql_e (by rw [wntD, if_pos n9, if_pos n22, if_pos n39, if_pos n55, if_neg n62]) (by assumption))
          · obtain ⟨hv62, a62, b62, c62, d62, p62, hp62, rfl⟩ := hs62
            cases hv62
            refine g_if_eq (tgt := 75) h dX8_readWant_65 (by decide) (fun _ => ?_) (fun q => absurd q (by decide))
            refine g_iconst (v := nI 0) h dX8_readWant_75 (by decide) ?_
            exact g_zretP h hrt dX8_readWant_76 (by omega) (by first | exact Or.inl rfl | exact Or.inr rfl | simp) (ql_e (by rw [wntD, if_pos n9, if_pos n22, if_pos n39, if_pos n55, if_pos n62, if_neg m62]) (by assumption))
          · cases hv62
            refine g_if_eq (tgt := 75) h dX8_readWant_65 (by decide) (fun q => absurd q (by decide)) (fun _ => ?_)
            refine g_aload_n h dX8_readWant_68 rfl rfl ?_
            refine g_VP h lv_X8_114_X8 sh_159 (by decide) rfl (c_X8_isSecondHour (nmI f L (nx f L (nx f L (nx f L (nx f L p))))) b c (nmI f L (nx f L p)) f L (nx f L (nx f L (nx f L (nx f L (nx f L (nx f L p)))))) w u hf hL q6) (by rintro Ex s (⟨_, h, _⟩ | ⟨_, h, _⟩) <;> exact nomatch h) (fitR hR (by decide) (by decide) (by omega)) rfl rfl (Nat.le_of_ble_eq_true rfl) dX8_readWant_69 (fun v69 u69 hs69 => ?_)
            rcases hs69 with ⟨n69, hs69⟩ | ⟨n69, hv69, rfl⟩
            · obtain ⟨hv69, a69, b69, c69, d69, p69, hp69, rfl⟩ := hs69
              cases hv69
              refine g_if_ne (tgt := 77) h dX8_readWant_72 (by decide) (fun q => absurd q (by decide)) (fun _ => ?_)
              refine g_iconst (v := nI 0) h dX8_readWant_75 (by decide) ?_
              exact g_zretP h hrt dX8_readWant_76 (by omega) (by first | exact Or.inl rfl | exact Or.inr rfl | simp) (ql_e (by rw [wntD, if_pos n9, if_pos n22, if_pos n39, if_pos n55, if_pos n62, if_pos m62, if_neg n69]) (by assumption))
            · cases hv69
              refine g_if_ne (tgt := 77) h dX8_readWant_72 (by decide) (fun _ => ?_) (fun q => absurd q (by decide))
              refine g_aload_n h dX8_readWant_77 rfl rfl ?_
              refine g_V h lv_X8_95_X8 sh_159 (by decide) rfl (c_X6_stepT_159 f L (nx f L (nx f L (nx f L (nx f L (nx f L (nx f L p)))))) w (tfS u (nmI f L (nx f L (nx f L (nx f L (nx f L p))))) (nmI f L (nx f L (nx f L (nx f L (nx f L (nx f L (nx f L p))))))) c (nmI f L (nx f L p))) ((tf_oc (by decide)).trans hf) hL q6) (fitR hR (by decide) (by decide) (by omega)) rfl rfl (Nat.le_of_ble_eq_true rfl) dX8_readWant_78 ?_
              refine g_aload_n h dX8_readWant_81 rfl rfl ?_
              refine g_getR h fl_X8_22_7 sh_159 (by decide) rfl dX8_readWant_82 ?_
              refine g_aload_n h dX8_readWant_85 rfl rfl ?_
              refine g_getI h fl_X8_141_7 sh_159 (by decide) rfl dX8_readWant_86 ?_
              refine g_top (tx_s (by decide)) ?_
              refine g_top tf_r12 ?_
              refine g_iload_n h dX8_readWant_89 rfl rfl ?_
              refine g_aload_n h dX8_readWant_90 rfl rfl ?_
              refine g_getI h fl_X8_126_7 sh_159 (by decide) rfl dX8_readWant_91 ?_
              refine g_top (tx_s (by decide)) ?_
              refine g_top tf_r9 ?_
              refine g_aload_n h dX8_readWant_94 rfl rfl ?_
              refine g_getI h fl_X8_129_7 sh_159 (by decide) rfl dX8_readWant_95 ?_
              refine g_top (tx_s (by decide)) ?_
              refine g_top tf_r10 ?_
              refine g_V h lv_X8_169_X4 sh_34 (by decide) rfl (c_X4_addWant W n9 _ _ _ _ _ ((congrFun (TT_o (by decide)) 9).trans hw)) (fitR hR (by decide) (by decide) (by omega)) rfl rfl (Nat.le_of_ble_eq_true rfl) dX8_readWant_98 ?_
              refine g_sto awS_TT ?_
              refine g_iconst (v := nI 1) h dX8_readWant_101 (by decide) ?_
              exact g_zretP h hrt dX8_readWant_102 (by omega) (by first | exact Or.inl rfl | exact Or.inr rfl | simp) (ql_k (by rw [wntD, if_pos n9, if_pos n22, if_pos n39, if_pos n55, if_pos n62, if_pos m62, if_pos n69]) q7 rfl)
        · refine g_top (b2_f n55) ?_
          refine g_sto (if_neg n55) ?_
          refine g_if_eq (tgt := 75) h dX8_readWant_58 (by decide) (fun _ => ?_) (fun q => absurd q (by decide))
          refine g_iconst (v := nI 0) h dX8_readWant_75 (by decide) ?_
          exact g_zretP h hrt dX8_readWant_76 (by omega) (by first | exact Or.inl rfl | exact Or.inr rfl | simp) (ql_e (by rw [wntD, if_pos n9, if_pos n22, if_pos n39, if_neg n55]) (by assumption))
      · refine g_top (b2_f n39) ?_
        refine g_sto (tx_wv (if_neg n39)) ?_
        refine g_if_ne (tgt := 47) h dX8_readWant_42 (by decide) (fun q => absurd q (by decide)) (fun _ => ?_)
        refine g_iconst (v := nI 0) h dX8_readWant_45 (by decide) ?_
        exact g_zretP h hrt dX8_readWant_46 (by omega) (by first | exact Or.inl rfl | exact Or.inr rfl | simp) (ql_e (by rw [wntD, if_pos n9, if_pos n22, if_neg n39]) (by assumption))
  · have n9 := nlt_n (by omega) (by omega) (show ¬ nI (W) < nI (8) from c9)
    refine g_aload_n h dX8_readWant_12 rfl rfl ?_
    refine g_V h lv_X8_38_X8 sh_159 (by decide) rfl (c_X6_fail_159 f L p w (tfS u a b c d) ((tf_oc (by decide)).trans hf) hL hp) (fitR hR (by decide) (by decide) (by omega)) rfl rfl (Nat.le_of_ble_eq_true rfl) dX8_readWant_13 ?_
    skip
    · exact g_zretP h hrt dX8_readWant_16 (by omega) (by first | exact Or.inl rfl | exact Or.inr rfl | simp) (ql_e (by rw [wntD, if_neg (Nat.not_lt.mpr n9)]) (by assumption))
set_option maxHeartbeats 1000000 in
theorem c_X8_readChance {E : EE} (a b c d : Int32) (f : Nat → Int32) (L p : Nat) (w : Int32) (T W : Nat) (hT : T ≤ 10) (hW : W ≤ 8) (u : Sto) (hf : u 1 = f) (hL : L ≤ 400) (hp : p ≤ L) (hu : u 34 8 = nI T) (hw : u 34 9 = nI W) (ho : ∀ r, r < 168 → tn (u 28 r) 10) : CtP E 6 0 yX8_readChance cX8_readChance 1 (some .boolean) [.ref (E.ad 159)] (TT u a b c d f L p w) (QL u T W f L w (chcD f L p)) := by
  have q1 := (nx_b (f := f) hp).2
  have q2 := (nx_b (f := f) q1).2
  have q3 := (nx_b (f := f) q2).2
  have q4 := (nx_b (f := f) q3).2
  have q5 := (nx_b (f := f) q4).2
  have q6 := (nx_b (f := f) q5).2
  have q7 := (nx_b (f := f) q6).2
  have q8 := (nx_b (f := f) q7).2
  refine ctp_of (by decide) (Nat.le_of_ble_eq_true rfl) (fun X h hR hrt htab hargs => ?_)
  refine g_aload_n h dX8_readChance_0 rfl rfl ?_
  refine g_V h lv_X8_95_X8 sh_159 (by decide) rfl (c_X6_stepT_159 f L p w (tfS u a b c d) ((tf_oc (by decide)).trans hf) hL hp) (fitR hR (by decide) (by decide) (by omega)) rfl rfl (Nat.le_of_ble_eq_true rfl) dX8_readChance_1 ?_
  refine g_aload_n h dX8_readChance_4 rfl rfl ?_
  refine g_iconst (v := nI 3) h dX8_readChance_5 (by decide) ?_
  refine g_iconst (v := nI 0) h dX8_readChance_6 (by decide) ?_
  refine g_bipush (v := nI 100) h dX8_readChance_7 (by decide) ?_
  refine g_V h lv_X8_99_X8 sh_159 (by decide) rfl (c_X6_isNumber_159 f L (nx f L p) w 3 (by decide) (nI 0) (nI 100) (tfS u a b c d) ((tf_oc (by decide)).trans hf) hL q1) (fitR hR (by decide) (by decide) (by omega)) rfl rfl (Nat.le_of_ble_eq_true rfl) dX8_readChance_9 ?_
  by_cases n9 : nuP f L (nx f L p) 3 (nI 0) (nI 100)
  · refine g_top (b2_t n9) ?_
    refine g_sto (tx_wv (if_pos n9)) ?_
    refine g_if_ne (tgt := 17) h dX8_readChance_12 (by decide) (fun _ => ?_) (fun q => absurd q (by decide))
    refine g_aload_n h dX8_readChance_17 rfl rfl ?_
    refine g_getR h fl_X8_22_7 sh_159 (by decide) rfl dX8_readChance_18 ?_
    refine g_aload_n h dX8_readChance_21 rfl rfl ?_
    refine g_V h lv_X8_103_X8 sh_159 (by decide) rfl (c_X6_stepOver_159 f L (nx f L p) w (tfS u a b c d) ((tf_oc (by decide)).trans hf) hL q1) (fitR hR (by decide) (by decide) (by omega)) rfl rfl (Nat.le_of_ble_eq_true rfl) dX8_readChance_22 ?_
    refine g_putI h pfl_X8_173_4 sh_34 (by decide) rfl dX8_readChance_25 ?_
    refine g_sto (tx_su (by decide)) ?_
    refine g_sto (tx_in (tf_su (by decide))) ?_
    refine g_iconst (v := nI 1) h dX8_readChance_28 (by decide) ?_
    exact g_zretP h hrt dX8_readChance_29 (by omega) (by first | exact Or.inl rfl | exact Or.inr rfl | simp) (ql_k (by rw [chcD, if_pos n9]) q2 rfl)
  · refine g_top (b2_f n9) ?_
    refine g_sto (tx_wv (if_neg n9)) ?_
    refine g_if_ne (tgt := 17) h dX8_readChance_12 (by decide) (fun q => absurd q (by decide)) (fun _ => ?_)
    refine g_iconst (v := nI 0) h dX8_readChance_15 (by decide) ?_
    exact g_zretP h hrt dX8_readChance_16 (by omega) (by first | exact Or.inl rfl | exact Or.inr rfl | simp) (ql_e (by rw [chcD, if_neg n9]) (by assumption))
set_option maxHeartbeats 1000000 in
theorem c_X8_readLet {E : EE} (a b c d : Int32) (f : Nat → Int32) (L p : Nat) (w : Int32) (T W : Nat) (hT : T ≤ 10) (hW : W ≤ 8) (u : Sto) (hf : u 1 = f) (hL : L ≤ 400) (hp : p ≤ L) (hu : u 34 8 = nI T) (hw : u 34 9 = nI W) (ho : ∀ r, r < 168 → tn (u 28 r) 10) : CtP E 8 0 yX8_readLet cX8_readLet 2 (some .boolean) [.ref (E.ad 159)] (TT u a b c d f L p w) (QL u T W f L w (letD T (u 37) (u 28) (u 38) f L p)) := by
  have q1 := (nx_b (f := f) hp).2
  have q2 := (nx_b (f := f) q1).2
  have q3 := (nx_b (f := f) q2).2
  have q4 := (nx_b (f := f) q3).2
  have q5 := (nx_b (f := f) q4).2
  have q6 := (nx_b (f := f) q5).2
  have q7 := (nx_b (f := f) q6).2
  have q8 := (nx_b (f := f) q7).2
  refine ctp_of (by decide) (Nat.le_of_ble_eq_true rfl) (fun X h hR hrt htab hargs => ?_)
  refine g_aload_n h dX8_readLet_0 rfl rfl ?_
  refine g_V h lv_X8_95_X8 sh_159 (by decide) rfl (c_X6_stepT_159 f L p w (tfS u a b c d) ((tf_oc (by decide)).trans hf) hL hp) (fitR hR (by decide) (by decide) (by omega)) rfl rfl (Nat.le_of_ble_eq_true rfl) dX8_readLet_1 ?_
  refine g_aload_n h dX8_readLet_4 rfl rfl ?_
  refine g_VP h lv_X8_143_X8 sh_159 (by decide) rfl (c_X8_passDay a b c d f L (nx f L p) w u hf hL q1) (by rintro Ex s (⟨_, h, _⟩ | ⟨_, h, _⟩) <;> exact nomatch h) (fitR hR (by decide) (by decide) (by omega)) rfl rfl (Nat.le_of_ble_eq_true rfl) dX8_readLet_5 (fun v5 u5 hs5 => ?_)
  rcases hs5 with ⟨n5, hs5⟩ | ⟨n5, hv5, rfl⟩
  · obtain ⟨hv5, a5, b5, c5, d5, p5, hp5, rfl⟩ := hs5
    cases hv5
    refine g_if_eq (tgt := 25) h dX8_readLet_8 (by decide) (fun _ => ?_) (fun q => absurd q (by decide))
    refine g_iconst (v := nI 0) h dX8_readLet_25 (by decide) ?_
    exact g_zretP h hrt dX8_readLet_26 (by omega) (by first | exact Or.inl rfl | exact Or.inr rfl | simp) (ql_e (by rw [letD, if_neg n5]) (by assumption))
  · cases hv5
    refine g_if_eq (tgt := 25) h dX8_readLet_8 (by decide) (fun q => absurd q (by decide)) (fun _ => ?_)
    refine g_aload_n h dX8_readLet_11 rfl rfl ?_
    refine g_VP h lv_X8_111_X8 sh_159 (by decide) rfl (c_X8_passFirstHour a b (nI (ix (nmI f L (nx f L p)) * 24)) d f L (nx f L (nx f L p)) w u hf hL q2) (by rintro Ex s (⟨_, h, _⟩ | ⟨_, _, h, _⟩ | ⟨_, _, h, _⟩) <;> exact nomatch h) (fitR hR (by decide) (by decide) (by omega)) rfl rfl (Nat.le_of_ble_eq_true rfl) dX8_readLet_12 (fun v12 u12 hs12 => ?_)
    rcases hs12 with ⟨n12, hs12⟩ | ⟨n12, m12, hs12⟩ | ⟨n12, m12, hv12, rfl⟩
    · obtain ⟨hv12, a12, b12, c12, d12, p12, hp12, rfl⟩ := hs12
      cases hv12
      refine g_if_eq (tgt := 25) h dX8_readLet_15 (by decide) (fun _ => ?_) (fun q => absurd q (by decide))
      refine g_iconst (v := nI 0) h dX8_readLet_25 (by decide) ?_
      exact g_zretP h hrt dX8_readLet_26 (by omega) (by first | exact Or.inl rfl | exact Or.inr rfl | simp) (ql_e (by rw [letD, if_pos n5, if_neg n12]) (by assumption))
    · obtain ⟨hv12, a12, b12, c12, d12, p12, hp12, rfl⟩ := hs12
      cases hv12
      refine g_if_eq (tgt := 25) h dX8_readLet_15 (by decide) (fun _ => ?_) (fun q => absurd q (by decide))
      refine g_iconst (v := nI 0) h dX8_readLet_25 (by decide) ?_
      exact g_zretP h hrt dX8_readLet_26 (by omega) (by first | exact Or.inl rfl | exact Or.inr rfl | simp) (ql_e (by rw [letD, if_pos n5, if_pos n12, if_neg m12]) (by assumption))
    · cases hv12
      refine g_if_eq (tgt := 25) h dX8_readLet_15 (by decide) (fun q => absurd q (by decide)) (fun _ => ?_)
      refine g_aload_n h dX8_readLet_18 rfl rfl ?_
      refine g_VP h lv_X8_114_X8 sh_159 (by decide) rfl (c_X8_isSecondHour (nmI f L (nx f L (nx f L p))) b (nI (ix (nmI f L (nx f L p)) * 24)) d f L (nx f L (nx f L (nx f L (nx f L p)))) w u hf hL q4) (by rintro Ex s (⟨_, h, _⟩ | ⟨_, h, _⟩) <;> exact nomatch h) (fitR hR (by decide) (by decide) (by omega)) rfl rfl (Nat.le_of_ble_eq_true rfl) dX8_readLet_19 (fun v19 u19 hs19 => ?_)
      rcases hs19 with ⟨n19, hs19⟩ | ⟨n19, hv19, rfl⟩
      · obtain ⟨hv19, a19, b19, c19, d19, p19, hp19, rfl⟩ := hs19
        cases hv19
        refine g_if_ne (tgt := 27) h dX8_readLet_22 (by decide) (fun q => absurd q (by decide)) (fun _ => ?_)
        refine g_iconst (v := nI 0) h dX8_readLet_25 (by decide) ?_
        exact g_zretP h hrt dX8_readLet_26 (by omega) (by first | exact Or.inl rfl | exact Or.inr rfl | simp) (ql_e (by rw [letD, if_pos n5, if_pos n12, if_pos m12, if_neg n19]) (by assumption))
      · cases hv19
        refine g_if_ne (tgt := 27) h dX8_readLet_22 (by decide) (fun _ => ?_) (fun q => absurd q (by decide))
        obtain ⟨A, hA, _, hA2⟩ := nu_ix n12
        have n19B := n19
        rw [hA] at n19B
        obtain ⟨B, hB, hAB, hB2⟩ := nu_ix n19B
        obtain ⟨k1, e1, _, f1⟩ := nu_ix n5
        have e1x : ix (nmI f L (nx f L p)) = k1 := by rw [e1]; exact ix_nI (by omega)
        have hAx : (ix (nmI f L (nx f L (nx f L p)))) = A := by rw [hA]; exact ix_nI (by omega)
        have hBx : (ix (nmI f L (nx f L (nx f L (nx f L (nx f L p)))))) = B := by rw [hB]; exact ix_nI (by omega)
        refine g_aload_n h dX8_readLet_27 rfl rfl ?_
        refine g_getI h fl_X8_126_7 sh_159 (by decide) rfl dX8_readLet_28 ?_
        refine g_top (tx_s (by decide)) ?_
        refine g_top tf_r9 ?_
        refine g_top hA ?_
        refine g_istore_n (ls' := [(0, _), (1, _)]) h dX8_readLet_31 rfl (by decide) rfl rfl ?_
        have LP : ∀ j k : Nat, A ≤ k → (∀ j, A ≤ j → j < k → u 28 (ix (nmI f L (nx f L p)) * 24 + j) = -1 ∧ u 38 (ix (nmI f L (nx f L p)) * 24 + j) = 0) → (B + 1) < k + j → k ≤ (B + 1) → G E X (QMP E X (QL u T W f L w (letD T (u 37) (u 28) (u 38) f L p)) 0) 2 0 32 [(0, .ref (E.ad 159)), (1, .int (nI k))] [] ((TT u (nmI f L (nx f L (nx f L p))) (nmI f L (nx f L (nx f L (nx f L (nx f L p))))) (nI (ix (nmI f L (nx f L p)) * 24)) d f L (nx f L (nx f L (nx f L (nx f L p)))) w)) := by
          intro j
          induction j with
          | zero => intro k hk1 hall h1 h2; omega
          | succ j ih =>
            intro k hk1 hall h1 h2
            refine g_iload_n h dX8_readLet_32 rfl rfl ?_
            refine g_aload_n h dX8_readLet_33 rfl rfl ?_
            refine g_getI h fl_X8_129_7 sh_159 (by decide) rfl dX8_readLet_34 ?_
            refine g_top (tx_s (by decide)) ?_
            refine g_top tf_r10 ?_
            refine g_top hB ?_
            refine g_icmp_gt (tgt := 86) h dX8_readLet_37 (by decide) (fun c37 => ?_) (fun c37 => ?_)
            · have n37 := lt_n (by omega) (by omega) (show nI (B) < nI (k) from c37)
              have hz : lfB (u 28) (u 38) (ix (nmI f L (nx f L p)) * 24) (ix (nmI f L (nx f L (nx f L p)))) (ix (nmI f L (nx f L (nx f L (nx f L (nx f L p)))))) = true := by rw [hAx, hBx]; exact lf_1 (fun j j1 j2 => hall j j1 (by omega))
              refine g_aload_n h dX8_readLet_86 rfl rfl ?_
              refine g_V h lv_X8_95_X8 sh_159 (by decide) rfl (c_X6_stepT_159 f L (nx f L (nx f L (nx f L (nx f L p)))) w (tfS u (nmI f L (nx f L (nx f L p))) (nmI f L (nx f L (nx f L (nx f L (nx f L p))))) (nI (ix (nmI f L (nx f L p)) * 24)) d) ((tf_oc (by decide)).trans hf) hL q4) (fitR hR (by decide) (by decide) (by omega)) rfl rfl (Nat.le_of_ble_eq_true rfl) dX8_readLet_87 ?_
              refine g_aload_n h dX8_readLet_90 rfl rfl ?_
              refine g_VP h lv_X8_138_X8 sh_159 (by decide) rfl (c_X8_isTenant (nmI f L (nx f L (nx f L p))) (nmI f L (nx f L (nx f L (nx f L (nx f L p))))) (nI (ix (nmI f L (nx f L p)) * 24)) d f L (nx f L (nx f L (nx f L (nx f L (nx f L p))))) w T hT u hf hL q5 hu) (by rintro Ex s (⟨_, h, _⟩ | ⟨_, h, _⟩) <;> exact nomatch h) (fitR hR (by decide) (by decide) (by omega)) rfl rfl (Nat.le_of_ble_eq_true rfl) dX8_readLet_91 (fun v91 u91 hs91 => ?_)
              rcases hs91 with ⟨n91, hs91⟩ | ⟨n91, hv91, rfl⟩
              · obtain ⟨hv91, a91, b91, c91, d91, p91, hp91, rfl⟩ := hs91
                cases hv91
                refine g_if_ne (tgt := 99) h dX8_readLet_94 (by decide) (fun q => absurd q (by decide)) (fun _ => ?_)
                refine g_iconst (v := nI 0) h dX8_readLet_97 (by decide) ?_
                exact g_zretP h hrt dX8_readLet_98 (by omega) (by first | exact Or.inl rfl | exact Or.inr rfl | simp) (ql_e (by rw [letD, if_pos n5, if_pos n12, if_pos m12, if_pos n19, if_pos hz, if_neg n91]) (by assumption))
              · cases hv91
                refine g_if_ne (tgt := 99) h dX8_readLet_94 (by decide) (fun _ => ?_) (fun q => absurd q (by decide))
                obtain ⟨mm, hm, hmT⟩ := nu_T hT n91.1
                have hmx : (ix (nmI f L (nx f L (nx f L (nx f L (nx f L (nx f L p))))))) = mm := by rw [hm]; exact ix_nI (by omega)
                have hmm : mm < 10 := by omega
                refine g_aload_n h dX8_readLet_99 rfl rfl ?_
                refine g_V h lv_X8_95_X8 sh_159 (by decide) rfl (c_X6_stepT_159 f L (nx f L (nx f L (nx f L (nx f L (nx f L p))))) w (tfS u (nmI f L (nx f L (nx f L p))) (nmI f L (nx f L (nx f L (nx f L (nx f L p))))) (nI (ix (nmI f L (nx f L p)) * 24)) (nmI f L (nx f L (nx f L (nx f L (nx f L (nx f L p))))))) ((tf_oc (by decide)).trans hf) hL q5) (fitR hR (by decide) (by decide) (by omega)) rfl rfl (Nat.le_of_ble_eq_true rfl) dX8_readLet_100 ?_
                refine g_aload_n h dX8_readLet_103 rfl rfl ?_
                refine g_getI h fl_X8_126_7 sh_159 (by decide) rfl dX8_readLet_104 ?_
                refine g_top (tx_s (by decide)) ?_
                refine g_top tf_r9 ?_
                refine g_top hA ?_
                refine g_istore_n (ls' := [(0, _), (1, _)]) h dX8_readLet_107 rfl (by decide) rfl rfl ?_
                have LQ : ∀ j k : Nat, (B + 1 - A) < k + j → k ≤ (B + 1 - A) → G E X (QMP E X (QL u T W f L w (letD T (u 37) (u 28) (u 38) f L p)) 0) 2 0 108 [(0, .ref (E.ad 159)), (1, .int (nI (A + k)))] [] ((TT (ltS u (ix (nmI f L (nx f L p)) * 24) mm A k) (nmI f L (nx f L (nx f L p))) (nmI f L (nx f L (nx f L (nx f L (nx f L p))))) (nI (ix (nmI f L (nx f L p)) * 24)) (nmI f L (nx f L (nx f L (nx f L (nx f L (nx f L p)))))) f L (nx f L (nx f L (nx f L (nx f L (nx f L (nx f L p)))))) w)) := by
                  intro j
                  induction j with
                  | zero => intro k h1 h2; omega
                  | succ j ih =>
                    intro k h1 h2
                    refine g_iload_n h dX8_readLet_108 rfl rfl ?_
                    refine g_aload_n h dX8_readLet_109 rfl rfl ?_
                    refine g_getI h fl_X8_129_7 sh_159 (by decide) rfl dX8_readLet_110 ?_
                    refine g_top (tx_s (by decide)) ?_
                    refine g_top tf_r10 ?_
                    refine g_top hB ?_
                    refine g_icmp_gt (tgt := 139) h dX8_readLet_113 (by decide) (fun c113 => ?_) (fun c113 => ?_)
                    · have n113 := lt_n (by omega) (by omega) (show nI (B) < nI (A + k) from c113)
                      refine g_iconst (v := nI 1) h dX8_readLet_139 (by decide) ?_
                      exact g_zretP h hrt dX8_readLet_140 (by omega) (by first | exact Or.inl rfl | exact Or.inr rfl | simp) (ql_k (by rw [letD, if_pos n5, if_pos n12, if_pos m12, if_pos n19, if_pos hz, if_pos n91]) q6 (by rw [show apL u T W (.lt (ix (nmI f L (nx f L p)) * 24) (ix (nmI f L (nx f L (nx f L p)))) (ix (nmI f L (nx f L (nx f L (nx f L (nx f L p)))))) (ix (nmI f L (nx f L (nx f L (nx f L (nx f L (nx f L p)))))))) = ltS u (ix (nmI f L (nx f L p)) * 24) (ix (nmI f L (nx f L (nx f L (nx f L (nx f L (nx f L p))))))) (ix (nmI f L (nx f L (nx f L p)))) ((ix (nmI f L (nx f L (nx f L (nx f L (nx f L p)))))) + 1 - (ix (nmI f L (nx f L (nx f L p))))) from rfl, hAx, hBx, hmx, show B + 1 - A = k by omega]))
                    · have n113 := nlt_n (by omega) (by omega) (show ¬ nI (B) < nI (A + k) from c113)
                      refine g_aload_n h dX8_readLet_116 rfl rfl ?_
                      refine g_getR h fl_X8_15_7 sh_159 (by decide) rfl dX8_readLet_117 ?_
                      refine g_aload_n h dX8_readLet_120 rfl rfl ?_
                      refine g_getI h fl_X8_149_7 sh_159 (by decide) rfl dX8_readLet_121 ?_
                      refine g_top (tx_s (by decide)) ?_
                      refine g_top tf_r11 ?_
                      refine g_iload_n h dX8_readLet_124 rfl rfl ?_
                      refine g_iadd h dX8_readLet_125 ?_
                      refine g_top (nI_add _ (A + k)) ?_
                      refine g_aload_n h dX8_readLet_126 rfl rfl ?_
                      refine g_getI h fl_X8_141_7 sh_159 (by decide) rfl dX8_readLet_127 ?_
                      refine g_top (tx_s (by decide)) ?_
                      refine g_top tf_r12 ?_
                      refine g_top hm ?_
                      refine g_V h lv_X8_154_X7 sh_27 (by decide) rfl (c_X7_setOwner 27 (by decide) (ix (nmI f L (nx f L p)) * 24 + (A + k)) (by omega) mm hmm _ (by rw [TT_o (by decide)]; exact ltS_own hmm ho k _ (by omega))) (fitR hR (by decide) (by decide) (by omega)) rfl rfl (Nat.le_of_ble_eq_true rfl) dX8_readLet_130 ?_
                      refine g_sto soT_TT ?_
                      refine g_iinc (v := nI (A + (k + 1))) (ls' := [(0, _), (1, _)]) h dX8_readLet_133 rfl (nI_1 (A + k)) (by decide) rfl rfl ?_
                      refine g_goto (tgt := 108) h dX8_readLet_136 (by decide) ?_
                      exact g_cv (by rfl) (by rfl) (ih (k + 1) (by omega) (by omega))
                exact LQ ((B + 1 - A) + 1) (0) (by omega) (by omega)
                
            · have n37 := nlt_n (by omega) (by omega) (show ¬ nI (B) < nI (k) from c37)
              refine g_aload_n h dX8_readLet_40 rfl rfl ?_
              refine g_getR h fl_X8_15_7 sh_159 (by decide) rfl dX8_readLet_41 ?_
              refine g_getR h fl_X8_146_6 sh_27 (by decide) rfl dX8_readLet_44 ?_
              refine g_aload_n h dX8_readLet_47 rfl rfl ?_
              refine g_getI h fl_X8_149_7 sh_159 (by decide) rfl dX8_readLet_48 ?_
              refine g_top (tx_s (by decide)) ?_
              refine g_top tf_r11 ?_
              refine g_iload_n h dX8_readLet_51 rfl rfl ?_
              refine g_iadd h dX8_readLet_52 ?_
              refine g_top (nI_add _ k) ?_
              refine g_iald h _ _ _ sh_28 (by decide) (by decide) rfl (by omega) dX8_readLet_53 ?_
              refine g_top (tx_o (by decide)) ?_
              refine g_top (tf_o (by decide)) ?_
              refine g_iconst (v := -1) h dX8_readLet_54 (by decide) ?_
              refine g_icmp_ne (tgt := 75) h dX8_readLet_55 (by decide) (fun c55 => ?_) (fun c55 => ?_)
              · have hz : ¬ lfB (u 28) (u 38) (ix (nmI f L (nx f L p)) * 24) (ix (nmI f L (nx f L (nx f L p)))) (ix (nmI f L (nx f L (nx f L (nx f L (nx f L p)))))) = true := by rw [hAx, hBx]; exact lf_0 hk1 n37 (fun z => c55 z.1)
                refine g_aload_n h dX8_readLet_75 rfl rfl ?_
                refine g_V h lv_X8_38_X8 sh_159 (by decide) rfl (c_X6_fail_159 f L (nx f L (nx f L (nx f L (nx f L p)))) w (tfS u (nmI f L (nx f L (nx f L p))) (nmI f L (nx f L (nx f L (nx f L (nx f L p))))) (nI (ix (nmI f L (nx f L p)) * 24)) d) ((tf_oc (by decide)).trans hf) hL q4) (fitR hR (by decide) (by decide) (by omega)) rfl rfl (Nat.le_of_ble_eq_true rfl) dX8_readLet_76 ?_
                skip
                · exact g_zretP h hrt dX8_readLet_79 (by omega) (by first | exact Or.inl rfl | exact Or.inr rfl | simp) (ql_e (by rw [letD, if_pos n5, if_pos n12, if_pos m12, if_pos n19, if_neg hz]) q4)
              · refine g_aload_n h dX8_readLet_58 rfl rfl ?_
                refine g_getR h fl_X8_22_7 sh_159 (by decide) rfl dX8_readLet_59 ?_
                refine g_getR h fl_X8_152_4 sh_34 (by decide) rfl dX8_readLet_62 ?_
                refine g_aload_n h dX8_readLet_65 rfl rfl ?_
                refine g_getI h fl_X8_149_7 sh_159 (by decide) rfl dX8_readLet_66 ?_
                refine g_top (tx_s (by decide)) ?_
                refine g_top tf_r11 ?_
                refine g_iload_n h dX8_readLet_69 rfl rfl ?_
                refine g_iadd h dX8_readLet_70 ?_
                refine g_top (nI_add _ k) ?_
                refine g_iald h _ _ _ sh_38 (by decide) (by decide) rfl (by omega) dX8_readLet_71 ?_
                refine g_top (tx_o (by decide)) ?_
                refine g_top (tf_o (by decide)) ?_
                refine g_if_eq (tgt := 80) h dX8_readLet_72 (by decide) (fun c72 => ?_) (fun c72 => ?_)
                · refine g_iinc (v := nI (k + 1)) (ls' := [(0, _), (1, _)]) h dX8_readLet_80 rfl (nI_1 k) (by decide) rfl rfl ?_
                  refine g_goto (tgt := 32) h dX8_readLet_83 (by decide) ?_
                  exact ih (k + 1) (by omega) (fun j j1 j2 => by
                    by_cases e : j = k
                    · subst e; exact ⟨c55, c72⟩
                    · exact hall j j1 (by omega)) (by omega) (by omega)
                · have hz : ¬ lfB (u 28) (u 38) (ix (nmI f L (nx f L p)) * 24) (ix (nmI f L (nx f L (nx f L p)))) (ix (nmI f L (nx f L (nx f L (nx f L (nx f L p)))))) = true := by rw [hAx, hBx]; exact lf_0 hk1 n37 (fun z => c72 z.2)
                  refine g_aload_n h dX8_readLet_75 rfl rfl ?_
                  refine g_V h lv_X8_38_X8 sh_159 (by decide) rfl (c_X6_fail_159 f L (nx f L (nx f L (nx f L (nx f L p)))) w (tfS u (nmI f L (nx f L (nx f L p))) (nmI f L (nx f L (nx f L (nx f L (nx f L p))))) (nI (ix (nmI f L (nx f L p)) * 24)) d) ((tf_oc (by decide)).trans hf) hL q4) (fitR hR (by decide) (by decide) (by omega)) rfl rfl (Nat.le_of_ble_eq_true rfl) dX8_readLet_76 ?_
                  skip
                  · exact g_zretP h hrt dX8_readLet_79 (by omega) (by first | exact Or.inl rfl | exact Or.inr rfl | simp) (ql_e (by rw [letD, if_pos n5, if_pos n12, if_pos m12, if_pos n19, if_neg hz]) q4)
        exact LP ((B + 1) + 1) (A) (Nat.le_refl _) (fun j j1 j2 => absurd j2 (by omega)) (by omega) (by omega)
        
