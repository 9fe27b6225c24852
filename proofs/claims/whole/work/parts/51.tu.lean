-- after: 38.r 39.s 40.t 47.str 48.tx 49.ty 50.tt
set_option maxHeartbeats 1000000 in
theorem c_X8_passDay {E : EE} (a b c d : Int32) (f : Nat → Int32) (L p : Nat) (w : Int32) (u : Sto) (hf : u 1 = f) (hL : L ≤ 400) (hp : p ≤ L) : CtP E 4 0 yX8_passDay cX8_passDay 1 (some .boolean) [.ref (E.ad 159)] (TT u a b c d f L p w) (fun o s => (¬ nuP f L p 3 (nI 0) (nI 6) ∧ FT u f L p o s) ∨ (nuP f L p 3 (nI 0) (nI 6) ∧ o = .inl (some (.int (nI 1))) ∧ s = TT u a b (nI (ix (nmI f L p) * 24)) d f L (nx f L p) w)) := by
  have q1 := (nx_b (f := f) hp).2
  have q2 := (nx_b (f := f) q1).2
  have q3 := (nx_b (f := f) q2).2
  have q4 := (nx_b (f := f) q3).2
  have q5 := (nx_b (f := f) q4).2
  have q6 := (nx_b (f := f) q5).2
  have q7 := (nx_b (f := f) q6).2
  have q8 := (nx_b (f := f) q7).2
  refine ctp_of (by decide) (Nat.le_of_ble_eq_true rfl) (fun X h hR hrt htab hargs => ?_)
  refine g_aload_n h dX8_passDay_0 rfl rfl ?_
  refine g_iconst (v := nI 3) h dX8_passDay_1 (by decide) ?_
  refine g_iconst (v := nI 0) h dX8_passDay_2 (by decide) ?_
  refine g_bipush (v := nI 6) h dX8_passDay_3 (by decide) ?_
  refine g_V h lv_X8_99_X8 sh_159 (by decide) rfl (c_X6_isNumber_159 f L p w 3 (by decide) (nI 0) (nI 6) (tfS u a b c d) ((tf_oc (by decide)).trans hf) hL hp) (fitR hR (by decide) (by decide) (by omega)) rfl rfl (Nat.le_of_ble_eq_true rfl) dX8_passDay_5 ?_
  by_cases n5 : nuP f L p 3 (nI 0) (nI 6)
  · refine g_top (b2_t n5) ?_
    refine g_sto (tx_wv (if_pos n5)) ?_
    refine g_if_ne (tgt := 13) h dX8_passDay_8 (by decide) (fun _ => ?_) (fun q => absurd q (by decide))
    refine g_aload_n h dX8_passDay_13 rfl rfl ?_
    refine g_aload_n h dX8_passDay_14 rfl rfl ?_
    refine g_V h lv_X8_103_X8 sh_159 (by decide) rfl (c_X6_stepOver_159 f L p w (tfS u a b c d) ((tf_oc (by decide)).trans hf) hL hp) (fitR hR (by decide) (by decide) (by omega)) rfl rfl (Nat.le_of_ble_eq_true rfl) dX8_passDay_15 ?_
    refine g_bipush (v := nI 24) h dX8_passDay_18 (by decide) ?_
    refine g_imul h dX8_passDay_20 ?_
    obtain ⟨k, hk, _, hk6⟩ := nu_ix n5
    refine g_top (show nmI f L p * nI 24 = nI (ix (nmI f L p) * 24) by rw [hk, ix_nI (by omega)]; exact nI_mul) ?_
    refine g_putI h pfl_X8_149_7 sh_159 (by decide) rfl dX8_passDay_21 ?_
    refine g_sto (tx_su7 (by decide)) ?_
    refine g_sto (tx_in tf_w11) ?_
    refine g_iconst (v := nI 1) h dX8_passDay_24 (by decide) ?_
    exact g_zretP h hrt dX8_passDay_25 (by omega) (by first | exact Or.inl rfl | exact Or.inr rfl | simp) (Or.inr ⟨n5, rfl, rfl⟩)
  · refine g_top (b2_f n5) ?_
    refine g_sto (tx_wv (if_neg n5)) ?_
    refine g_if_ne (tgt := 13) h dX8_passDay_8 (by decide) (fun q => absurd q (by decide)) (fun _ => ?_)
    refine g_iconst (v := nI 0) h dX8_passDay_11 (by decide) ?_
    exact g_zretP h hrt dX8_passDay_12 (by omega) (by first | exact Or.inl rfl | exact Or.inr rfl | simp) (Or.inl ⟨n5, ⟨rfl, _, _, _, _, _, hp, rfl⟩⟩)
set_option maxHeartbeats 1000000 in
theorem c_X8_passFirstHour {E : EE} (a b c d : Int32) (f : Nat → Int32) (L p : Nat) (w : Int32) (u : Sto) (hf : u 1 = f) (hL : L ≤ 400) (hp : p ≤ L) : CtP E 7 0 yX8_passFirstHour cX8_passFirstHour 1 (some .boolean) [.ref (E.ad 159)] (TT u a b c d f L p w) (fun o s => (¬ nuP f L p 3 (nI 0) (nI 23) ∧ FT u f L p o s) ∨ (nuP f L p 3 (nI 0) (nI 23) ∧ ¬ wdB f L (nx f L p) 2 = true ∧ FT u f L (nx f L p) o s) ∨ (nuP f L p 3 (nI 0) (nI 23) ∧ wdB f L (nx f L p) 2 = true ∧ o = .inl (some (.int (nI 1))) ∧ s = TT u (nmI f L p) b c d f L (nx f L (nx f L p)) w)) := by
  have q1 := (nx_b (f := f) hp).2
  have q2 := (nx_b (f := f) q1).2
  have q3 := (nx_b (f := f) q2).2
  have q4 := (nx_b (f := f) q3).2
  have q5 := (nx_b (f := f) q4).2
  have q6 := (nx_b (f := f) q5).2
  have q7 := (nx_b (f := f) q6).2
  have q8 := (nx_b (f := f) q7).2
  refine ctp_of (by decide) (Nat.le_of_ble_eq_true rfl) (fun X h hR hrt htab hargs => ?_)
  refine g_aload_n h dX8_passFirstHour_0 rfl rfl ?_
  refine g_iconst (v := nI 3) h dX8_passFirstHour_1 (by decide) ?_
  refine g_iconst (v := nI 0) h dX8_passFirstHour_2 (by decide) ?_
  refine g_bipush (v := nI 23) h dX8_passFirstHour_3 (by decide) ?_
  refine g_V h lv_X8_99_X8 sh_159 (by decide) rfl (c_X6_isNumber_159 f L p w 3 (by decide) (nI 0) (nI 23) (tfS u a b c d) ((tf_oc (by decide)).trans hf) hL hp) (fitR hR (by decide) (by decide) (by omega)) rfl rfl (Nat.le_of_ble_eq_true rfl) dX8_passFirstHour_5 ?_
  by_cases n5 : nuP f L p 3 (nI 0) (nI 23)
  · refine g_top (b2_t n5) ?_
    refine g_sto (tx_wv (if_pos n5)) ?_
    refine g_if_ne (tgt := 13) h dX8_passFirstHour_8 (by decide) (fun _ => ?_) (fun q => absurd q (by decide))
    refine g_aload_n h dX8_passFirstHour_13 rfl rfl ?_
    refine g_aload_n h dX8_passFirstHour_14 rfl rfl ?_
    refine g_V h lv_X8_103_X8 sh_159 (by decide) rfl (c_X6_stepOver_159 f L p w (tfS u a b c d) ((tf_oc (by decide)).trans hf) hL hp) (fitR hR (by decide) (by decide) (by omega)) rfl rfl (Nat.le_of_ble_eq_true rfl) dX8_passFirstHour_15 ?_
    refine g_putI h pfl_X8_126_7 sh_159 (by decide) rfl dX8_passFirstHour_18 ?_
    refine g_sto (tx_su7 (by decide)) ?_
    refine g_sto (tx_in tf_w9) ?_
    refine g_aload_n h dX8_passFirstHour_21 rfl rfl ?_
    refine g_ldcS (tx := "to") (k := 2) h (by decide) dX8_passFirstHour_22 ?_
    refine g_V h lv_X8_108_X8 sh_159 (by decide) rfl (c_X6_passWord_159 f L (nx f L p) w 2 (by decide) (tfS u (nmI f L p) b c d) ((tf_oc (by decide)).trans hf) hL q1) (fitR hR (by decide) (by decide) (by omega)) rfl rfl (Nat.le_of_ble_eq_true rfl) dX8_passFirstHour_24 ?_
    by_cases n24 : wdB f L (nx f L p) 2 = true
    · refine g_top (b2_t n24) ?_
      refine g_sto (if_pos n24) ?_
      exact g_zretP h hrt dX8_passFirstHour_27 (by omega) (by first | exact Or.inl rfl | exact Or.inr rfl | simp) (Or.inr (Or.inr ⟨n5, n24, rfl, rfl⟩))
    · refine g_top (b2_f n24) ?_
      refine g_sto (if_neg n24) ?_
      exact g_zretP h hrt dX8_passFirstHour_27 (by omega) (by first | exact Or.inl rfl | exact Or.inr rfl | simp) (Or.inr (Or.inl ⟨n5, n24, ⟨rfl, _, _, _, _, _, q1, rfl⟩⟩))
  · refine g_top (b2_f n5) ?_
    refine g_sto (tx_wv (if_neg n5)) ?_
    refine g_if_ne (tgt := 13) h dX8_passFirstHour_8 (by decide) (fun q => absurd q (by decide)) (fun _ => ?_)
    refine g_iconst (v := nI 0) h dX8_passFirstHour_11 (by decide) ?_
    exact g_zretP h hrt dX8_passFirstHour_12 (by omega) (by first | exact Or.inl rfl | exact Or.inr rfl | simp) (Or.inl ⟨n5, ⟨rfl, _, _, _, _, _, hp, rfl⟩⟩)
set_option maxHeartbeats 1000000 in
theorem c_X8_isSecondHour {E : EE} (a b c d : Int32) (f : Nat → Int32) (L p : Nat) (w : Int32) (u : Sto) (hf : u 1 = f) (hL : L ≤ 400) (hp : p ≤ L) : CtP E 3 0 yX8_isSecondHour cX8_isSecondHour 1 (some .boolean) [.ref (E.ad 159)] (TT u a b c d f L p w) (fun o s => (¬ nuP f L p 3 a (nI 23) ∧ FT u f L p o s) ∨ (nuP f L p 3 a (nI 23) ∧ o = .inl (some (.int (nI 1))) ∧ s = TT u a (nmI f L p) c d f L p w)) := by
  have q1 := (nx_b (f := f) hp).2
  have q2 := (nx_b (f := f) q1).2
  have q3 := (nx_b (f := f) q2).2
  have q4 := (nx_b (f := f) q3).2
  have q5 := (nx_b (f := f) q4).2
  have q6 := (nx_b (f := f) q5).2
  have q7 := (nx_b (f := f) q6).2
  have q8 := (nx_b (f := f) q7).2
  refine ctp_of (by decide) (Nat.le_of_ble_eq_true rfl) (fun X h hR hrt htab hargs => ?_)
  refine g_aload_n h dX8_isSecondHour_0 rfl rfl ?_
  refine g_iconst (v := nI 3) h dX8_isSecondHour_1 (by decide) ?_
  refine g_aload_n h dX8_isSecondHour_2 rfl rfl ?_
  refine g_getI h fl_X8_126_7 sh_159 (by decide) rfl dX8_isSecondHour_3 ?_
  refine g_top (tx_s (by decide)) ?_
  refine g_top tf_r9 ?_
  refine g_bipush (v := nI 23) h dX8_isSecondHour_6 (by decide) ?_
  refine g_V h lv_X8_99_X8 sh_159 (by decide) rfl (c_X6_isNumber_159 f L p w 3 (by decide) a (nI 23) (tfS u a b c d) ((tf_oc (by decide)).trans hf) hL hp) (fitR hR (by decide) (by decide) (by omega)) rfl rfl (Nat.le_of_ble_eq_true rfl) dX8_isSecondHour_8 ?_
  by_cases n8 : nuP f L p 3 a (nI 23)
  · refine g_top (b2_t n8) ?_
    refine g_sto (tx_wv (if_pos n8)) ?_
    refine g_if_ne (tgt := 16) h dX8_isSecondHour_11 (by decide) (fun _ => ?_) (fun q => absurd q (by decide))
    refine g_aload_n h dX8_isSecondHour_16 rfl rfl ?_
    refine g_aload_n h dX8_isSecondHour_17 rfl rfl ?_
    refine g_V h lv_X8_176_X8 sh_159 (by decide) rfl (c_X6_readNumber_159 f L p w (tfS u a b c d) ((tf_oc (by decide)).trans hf) hL hp) (fitR hR (by decide) (by decide) (by omega)) rfl rfl (Nat.le_of_ble_eq_true rfl) dX8_isSecondHour_18 ?_
    refine g_putI h pfl_X8_129_7 sh_159 (by decide) rfl dX8_isSecondHour_21 ?_
    refine g_sto (tx_su7 (by decide)) ?_
    refine g_sto (tx_in tf_w10) ?_
    refine g_iconst (v := nI 1) h dX8_isSecondHour_24 (by decide) ?_
    exact g_zretP h hrt dX8_isSecondHour_25 (by omega) (by first | exact Or.inl rfl | exact Or.inr rfl | simp) (Or.inr ⟨n8, rfl, rfl⟩)
  · refine g_top (b2_f n8) ?_
    refine g_sto (tx_wv (if_neg n8)) ?_
    refine g_if_ne (tgt := 16) h dX8_isSecondHour_11 (by decide) (fun q => absurd q (by decide)) (fun _ => ?_)
    refine g_iconst (v := nI 0) h dX8_isSecondHour_14 (by decide) ?_
    exact g_zretP h hrt dX8_isSecondHour_15 (by omega) (by first | exact Or.inl rfl | exact Or.inr rfl | simp) (Or.inl ⟨n8, ⟨rfl, _, _, _, _, _, hp, rfl⟩⟩)
set_option maxHeartbeats 1000000 in
theorem c_X8_isHour {E : EE} (a b c d : Int32) (f : Nat → Int32) (L p : Nat) (w : Int32) (q : Nat) (hc : c = nI q) (u : Sto) (hf : u 1 = f) (hL : L ≤ 400) (hp : p ≤ L) : CtP E 3 0 yX8_isHour cX8_isHour 1 (some .boolean) [.ref (E.ad 159)] (TT u a b c d f L p w) (fun o s => (¬ nuP f L p 3 (nI 0) (nI 23) ∧ FT u f L p o s) ∨ (nuP f L p 3 (nI 0) (nI 23) ∧ o = .inl (some (.int (nI 1))) ∧ s = TT u a b (nI (q + ix (nmI f L p))) d f L p w)) := by
  have q1 := (nx_b (f := f) hp).2
  have q2 := (nx_b (f := f) q1).2
  have q3 := (nx_b (f := f) q2).2
  have q4 := (nx_b (f := f) q3).2
  have q5 := (nx_b (f := f) q4).2
  have q6 := (nx_b (f := f) q5).2
  have q7 := (nx_b (f := f) q6).2
  have q8 := (nx_b (f := f) q7).2
  refine ctp_of (by decide) (Nat.le_of_ble_eq_true rfl) (fun X h hR hrt htab hargs => ?_)
  refine g_aload_n h dX8_isHour_0 rfl rfl ?_
  refine g_iconst (v := nI 3) h dX8_isHour_1 (by decide) ?_
  refine g_iconst (v := nI 0) h dX8_isHour_2 (by decide) ?_
  refine g_bipush (v := nI 23) h dX8_isHour_3 (by decide) ?_
  refine g_V h lv_X8_99_X8 sh_159 (by decide) rfl (c_X6_isNumber_159 f L p w 3 (by decide) (nI 0) (nI 23) (tfS u a b c d) ((tf_oc (by decide)).trans hf) hL hp) (fitR hR (by decide) (by decide) (by omega)) rfl rfl (Nat.le_of_ble_eq_true rfl) dX8_isHour_5 ?_
  by_cases n5 : nuP f L p 3 (nI 0) (nI 23)
  · refine g_top (b2_t n5) ?_
    refine g_sto (tx_wv (if_pos n5)) ?_
    refine g_if_ne (tgt := 13) h dX8_isHour_8 (by decide) (fun _ => ?_) (fun q => absurd q (by decide))
    refine g_aload_n h dX8_isHour_13 rfl rfl ?_
    refine g_dup h dX8_isHour_14 rfl ?_
    refine g_getI h fl_X8_149_7 sh_159 (by decide) rfl dX8_isHour_15 ?_
    refine g_top (tx_s (by decide)) ?_
    refine g_top tf_r11 ?_
    refine g_aload_n h dX8_isHour_18 rfl rfl ?_
    refine g_V h lv_X8_176_X8 sh_159 (by decide) rfl (c_X6_readNumber_159 f L p w (tfS u a b c d) ((tf_oc (by decide)).trans hf) hL hp) (fitR hR (by decide) (by decide) (by omega)) rfl rfl (Nat.le_of_ble_eq_true rfl) dX8_isHour_19 ?_
    refine g_iadd h dX8_isHour_22 ?_
    obtain ⟨k, hk, _, hk6⟩ := nu_ix n5
    refine g_top (show c + nmI f L p = nI (q + ix (nmI f L p)) by rw [hc, hk, ix_nI (by omega)]; exact nI_add q k) ?_
    refine g_putI h pfl_X8_149_7 sh_159 (by decide) rfl dX8_isHour_23 ?_
    refine g_sto (tx_su7 (by decide)) ?_
    refine g_sto (tx_in tf_w11) ?_
    refine g_iconst (v := nI 1) h dX8_isHour_26 (by decide) ?_
    exact g_zretP h hrt dX8_isHour_27 (by omega) (by first | exact Or.inl rfl | exact Or.inr rfl | simp) (Or.inr ⟨n5, rfl, rfl⟩)
  · refine g_top (b2_f n5) ?_
    refine g_sto (tx_wv (if_neg n5)) ?_
    refine g_if_ne (tgt := 13) h dX8_isHour_8 (by decide) (fun q => absurd q (by decide)) (fun _ => ?_)
    refine g_iconst (v := nI 0) h dX8_isHour_11 (by decide) ?_
    exact g_zretP h hrt dX8_isHour_12 (by omega) (by first | exact Or.inl rfl | exact Or.inr rfl | simp) (Or.inl ⟨n5, ⟨rfl, _, _, _, _, _, hp, rfl⟩⟩)
set_option maxHeartbeats 1000000 in
theorem c_X8_isTenant {E : EE} (a b c d : Int32) (f : Nat → Int32) (L p : Nat) (w : Int32) (T : Nat) (hT : T ≤ 10) (u : Sto) (hf : u 1 = f) (hL : L ≤ 400) (hp : p ≤ L) (hu : u 34 8 = nI T) : CtP E 3 0 yX8_isTenant cX8_isTenant 1 (some .boolean) [.ref (E.ad 159)] (TT u a b c d f L p w) (fun o s => (¬ tnP T (u 37) f L p ∧ FT u f L p o s) ∨ (tnP T (u 37) f L p ∧ o = .inl (some (.int (nI 1))) ∧ s = TT u a b c (nmI f L p) f L p w)) := by
  have q1 := (nx_b (f := f) hp).2
  have q2 := (nx_b (f := f) q1).2
  have q3 := (nx_b (f := f) q2).2
  have q4 := (nx_b (f := f) q3).2
  have q5 := (nx_b (f := f) q4).2
  have q6 := (nx_b (f := f) q5).2
  have q7 := (nx_b (f := f) q6).2
  have q8 := (nx_b (f := f) q7).2
  refine ctp_of (by decide) (Nat.le_of_ble_eq_true rfl) (fun X h hR hrt htab hargs => ?_)
  refine g_aload_n h dX8_isTenant_0 rfl rfl ?_
  refine g_iconst (v := nI 3) h dX8_isTenant_1 (by decide) ?_
  refine g_iconst (v := nI 0) h dX8_isTenant_2 (by decide) ?_
  refine g_aload_n h dX8_isTenant_3 rfl rfl ?_
  refine g_getR h fl_X8_22_7 sh_159 (by decide) rfl dX8_isTenant_4 ?_
  refine g_getI h fl_X8_89_4 sh_34 (by decide) rfl dX8_isTenant_7 ?_
  refine g_top (tx_o (by decide)) ?_
  refine g_top (tf_o (by decide)) ?_
  refine g_top hu ?_
  refine g_iconst (v := nI 1) h dX8_isTenant_10 (by decide) ?_
  refine g_isub h dX8_isTenant_11 ?_
  refine g_V h lv_X8_99_X8 sh_159 (by decide) rfl (c_X6_isNumber_159 f L p w 3 (by decide) (nI 0) (nI T - nI 1) (tfS u a b c d) ((tf_oc (by decide)).trans hf) hL hp) (fitR hR (by decide) (by decide) (by omega)) rfl rfl (Nat.le_of_ble_eq_true rfl) dX8_isTenant_12 ?_
  by_cases n12 : nuP f L p 3 (nI 0) (nI T - nI 1)
  · refine g_top (b2_t n12) ?_
    refine g_sto (tx_wv (if_pos n12)) ?_
    refine g_if_ne (tgt := 20) h dX8_isTenant_15 (by decide) (fun _ => ?_) (fun q => absurd q (by decide))
    refine g_aload_n h dX8_isTenant_20 rfl rfl ?_
    refine g_aload_n h dX8_isTenant_21 rfl rfl ?_
    refine g_V h lv_X8_176_X8 sh_159 (by decide) rfl (c_X6_readNumber_159 f L p w (tfS u a b c d) ((tf_oc (by decide)).trans hf) hL hp) (fitR hR (by decide) (by decide) (by omega)) rfl rfl (Nat.le_of_ble_eq_true rfl) dX8_isTenant_22 ?_
    refine g_putI h pfl_X8_141_7 sh_159 (by decide) rfl dX8_isTenant_25 ?_
    refine g_sto (tx_su7 (by decide)) ?_
    refine g_sto (tx_in tf_w12) ?_
    refine g_aload_n h dX8_isTenant_28 rfl rfl ?_
    refine g_getR h fl_X8_22_7 sh_159 (by decide) rfl dX8_isTenant_29 ?_
    refine g_getR h fl_X8_179_4 sh_34 (by decide) rfl dX8_isTenant_32 ?_
    refine g_aload_n h dX8_isTenant_35 rfl rfl ?_
    refine g_getI h fl_X8_141_7 sh_159 (by decide) rfl dX8_isTenant_36 ?_
    refine g_top (tx_s (by decide)) ?_
    refine g_top tf_r12 ?_
    obtain ⟨k, hk, hkT⟩ := nu_T hT n12
    have hk9 : ix (nmI f L p) = k := by rw [hk]; exact ix_nI (by omega)
    refine g_top hk ?_
    refine g_iald h _ _ _ sh_37 (by decide) (by decide) rfl (by omega) dX8_isTenant_39 ?_
    refine g_top (tx_o (by decide)) ?_
    refine g_top (tf_o (by decide)) ?_
    refine g_top (y := u 37 (ix (nmI f L p))) (by rw [hk9]) ?_
    refine g_iconst (v := -1) h dX8_isTenant_40 (by decide) ?_
    refine g_icmp_eq (tgt := 51) h dX8_isTenant_41 (by decide) (fun c41 => ?_) (fun c41 => ?_)
    · refine g_iconst (v := nI 1) h dX8_isTenant_51 (by decide) ?_
      refine g_goto (tgt := 56) h dX8_isTenant_52 (by decide) ?_
      exact g_zretP h hrt dX8_isTenant_56 (by omega) (by first | exact Or.inl rfl | exact Or.inr rfl | simp) (Or.inr ⟨⟨n12, c41⟩, rfl, rfl⟩)
    · refine g_aload_n h dX8_isTenant_44 rfl rfl ?_
      refine g_V h lv_X8_38_X8 sh_159 (by decide) rfl (c_X6_fail_159 f L p w (tfS u a b c (nmI f L p)) ((tf_oc (by decide)).trans hf) hL hp) (fitR hR (by decide) (by decide) (by omega)) rfl rfl (Nat.le_of_ble_eq_true rfl) dX8_isTenant_45 ?_
      skip
      · refine g_if_eq (tgt := 55) h dX8_isTenant_48 (by decide) (fun _ => ?_) (fun q => absurd q (by decide))
        refine g_iconst (v := nI 0) h dX8_isTenant_55 (by decide) ?_
        exact g_zretP h hrt dX8_isTenant_56 (by omega) (by first | exact Or.inl rfl | exact Or.inr rfl | simp) (Or.inl ⟨fun z => c41 z.2, ⟨rfl, _, _, _, _, _, hp, rfl⟩⟩)
  · refine g_top (b2_f n12) ?_
    refine g_sto (tx_wv (if_neg n12)) ?_
    refine g_if_ne (tgt := 20) h dX8_isTenant_15 (by decide) (fun q => absurd q (by decide)) (fun _ => ?_)
    refine g_iconst (v := nI 0) h dX8_isTenant_18 (by decide) ?_
    exact g_zretP h hrt dX8_isTenant_19 (by omega) (by first | exact Or.inl rfl | exact Or.inr rfl | simp) (Or.inl ⟨fun z => n12 z.1, ⟨rfl, _, _, _, _, _, hp, rfl⟩⟩)
