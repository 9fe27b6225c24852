-- after: 38.r 39.s 40.t 47.str 48.tx 49.ty 50.tt 51.tu 52.tv 53.lw 54.lx 55.ly 56.lz 57.ma 58.mb 59.mc 60.md 61.me 62.mf
theorem tw_s {u v w : Sto} (hd : dz v (dft u)) (hw : ∀ k, k ≠ 159 → w k = v k) {x : Int32} {k : Nat} (hk : k < 26 ∨ 49 < k ∧ k < 159 ∨ 161 < k) : su w 0 2 x k = su (su u 0 1 (nI 0)) 0 2 x k := by
  have e : w k = su u 0 1 (nI 0) k := (hw k (by omega)).trans ((hd k (by omega)).trans (dft_c (by omega)))
  by_cases q : k = 0
  · subst q; rw [su_at, su_at, e]
  · rw [su_cell _ _ q, su_cell _ _ q, e]
theorem town_e {u : Sto} {L T W e : Nat} (h : twnT (u 1) L T W (dft u) = .error e) : townR u L T W = (.inr iae, su (su u 0 1 (nI 0)) 0 2 (nI e)) := by rw [townR, h]
theorem town_f {u v : Sto} {L T W : Nat} (h : twnT (u 1) L T W (dft u) = .ok v) (h2 : ¬ u 10 11 < nI 12) : townR u L T W = (.inr uoe, su (su u 0 1 (nI 0)) 0 2 (-1)) := by rw [townR, h]; exact if_neg h2
theorem town_k {u v : Sto} {L T W : Nat} (h : twnT (u 1) L T W (dft u) = .ok v) (h2 : u 10 11 < nI 12) : townR u L T W = (.inl (some (.int (v 34 11 + nI 1))), fin v) := by rw [townR, h]; exact if_pos h2
theorem law_e {u : Sto} {L e : Nat} (h : lawT (u 1) L = .error e) : lawR u L = (.inr iae, su (su u 0 1 (nI 0)) 0 2 (nI e)) := by rw [lawR, h]
theorem law_k {u : Sto} {L : Nat} {t : List LN} (h : lawT (u 1) L = .ok t) : lawR u L = (.inl (some (.int (nI t.length))), su (cpL (su (lnA (clS (su u 0 1 (nI 0))) 0 0 t) 0 2 (-1)) 19 43) 0 9 (nI 0)) := by rw [lawR, h]
set_option maxHeartbeats 1000000 in
theorem c_X10_town {E : EE} (L T W : Nat) (u : Sto) (hL0 : u 0 1 = nI L) (hL : L ≤ 400) (hT : u 10 8 = nI T) (hT10 : T ≤ 10) (hW : u 10 9 = nI W) (hW8 : W ≤ 8) (ho : ∀ r, r < 168 → tn (u 4 r) 10) : CtP E 12 1 yX10_town cX10_town 1 (some .int) [.ref (E.ad 0)] u (PD (townR u L T W)) := by
  refine ctp_of (by decide) (Nat.le_of_ble_eq_true rfl) (fun X h hR hrt htab hargs => ?_)
  refine g_aload_n h dX10_town_0 rfl rfl ?_
  refine g_getR h fl_X10_24_9 sh_0 (by decide) rfl dX10_town_1 ?_
  refine g_getR h fl_X10_89_8 sh_26 (by decide) rfl dX10_town_4 ?_
  refine g_aload_n h dX10_town_7 rfl rfl ?_
  refine g_getR h fl_X10_20_9 sh_0 (by decide) rfl dX10_town_8 ?_
  refine g_getR h fl_X10_89_8 sh_2 (by decide) rfl dX10_town_11 ?_
  refine g_V h lv_X10_93_X7 sh_27 (by decide) rfl (c_X7_copyFrom 27 3 (by decide) (by decide) _) (fitR hR (by decide) (by decide) (by omega)) rfl rfl (Nat.le_of_ble_eq_true rfl) dX10_town_14 ?_
  refine g_aload_n h dX10_town_17 rfl rfl ?_
  refine g_getR h fl_X10_24_9 sh_0 (by decide) rfl dX10_town_18 ?_
  refine g_getR h fl_X10_97_8 sh_26 (by decide) rfl dX10_town_21 ?_
  refine g_aload_n h dX10_town_24 rfl rfl ?_
  refine g_getR h fl_X10_20_9 sh_0 (by decide) rfl dX10_town_25 ?_
  refine g_getR h fl_X10_97_8 sh_2 (by decide) rfl dX10_town_28 ?_
  refine g_V h lv_X10_101_X4 sh_34 (by decide) rfl (c_X4_copyFrom 34 10 (by decide) (by decide) _) (fitR hR (by decide) (by decide) (by omega)) rfl rfl (Nat.le_of_ble_eq_true rfl) dX10_town_31 ?_
  refine g_aload_n h dX10_town_34 rfl rfl ?_
  refine g_aload_n h dX10_town_35 rfl rfl ?_
  refine g_getR h fl_X10_41_9 sh_0 (by decide) rfl dX10_town_36 ?_
  refine g_aload_n h dX10_town_39 rfl rfl ?_
  refine g_V h lv_X10_106_X10 sh_0 (by decide) rfl (c_X10_useTape _) (fitR hR (by decide) (by decide) (by omega)) rfl rfl (Nat.le_of_ble_eq_true rfl) dX10_town_40 ?_
  refine g_top (y := nI L) (by rw [cpR_c (by omega), cpT_c (by omega)]; exact hL0) ?_
  refine g_sto (show _ = dft u from rfl) ?_
  refine g_VP h lv_X10_110_X8 sh_159 (by decide) rfl (c_X8_readTown (u 1) L T W (dft u) (by rw [dft_c (by omega), su_cell _ _ (by decide)]) hL (dft_DI hT hT10 hW hW8 ho)) qt_nx (fitR hR (by decide) (by decide) (by omega)) rfl rfl (Nat.le_of_ble_eq_true rfl) dX10_town_43 (fun v43 u43 hs43 => ?_)
  cases h43 : twnT (u 1) L T W (dft u)
  · rename_i e43
    rw [h43] at hs43
    obtain ⟨hv43, v, a9, b9, c9, d9, p9, w9, hd9, rfl⟩ := hs43
    cases hv43
    refine g_putI h pfl_X10_13_9 sh_0 (by decide) rfl dX10_town_46 ?_
    refine g_aload_n h dX10_town_49 rfl rfl ?_
    refine g_getI h fl_X10_13_9 sh_0 (by decide) rfl dX10_town_50 ?_
    refine g_top su_k ?_
    refine g_iconst (v := -1) h dX10_town_53 (by decide) ?_
    refine g_icmp_eq (tgt := 67) h dX10_town_54 (by decide) (fun c54 => ?_) (fun c54 => ?_)
    · exact absurd c54 (nI_m4 (Nat.le_trans (tn_er h43) hL))
    · exact g_throwP h th_X10_116_118 dX10_town_57 dX10_town_60 dX10_town_61 dX10_town_63 dX10_town_66 htab (by rw [hR]; decide) (by rw [hR]; decide) (by rw [hR]; decide) (by rw [hR]; decide) (by omega) (pd (town_e h43) (fun k hk => tw_s hd9 (fun k hk => TT_o hk) hk))
  · rename_i v
    rw [h43] at hs43
    obtain ⟨hv43, a9, b9, c9, d9, p9, w9, rfl⟩ := hs43
    cases hv43
    have hd9 := tn_dz h43
    refine g_putI h pfl_X10_13_9 sh_0 (by decide) rfl dX10_town_46 ?_
    refine g_aload_n h dX10_town_49 rfl rfl ?_
    refine g_getI h fl_X10_13_9 sh_0 (by decide) rfl dX10_town_50 ?_
    refine g_top su_k ?_
    refine g_iconst (v := -1) h dX10_town_53 (by decide) ?_
    refine g_icmp_eq (tgt := 67) h dX10_town_54 (by decide) (fun c54 => ?_) (fun c54 => ?_)
    · refine g_aload_n h dX10_town_67 rfl rfl ?_
      refine g_getR h fl_X10_20_9 sh_0 (by decide) rfl dX10_town_68 ?_
      refine g_getR h fl_X10_97_8 sh_2 (by decide) rfl dX10_town_71 ?_
      refine g_getI h fl_X10_121_4 sh_10 (by decide) rfl dX10_town_74 ?_
      refine g_top (y := u 10 11) (by rw [su_cell _ _ (by decide), TT_o (by decide), hd9 10 (by omega), dft_c (by omega), su_cell _ _ (by decide)]) ?_
      refine g_bipush (v := nI 12) h dX10_town_77 (by decide) ?_
      refine g_icmp_lt (tgt := 92) h dX10_town_79 (by decide) (fun c79 => ?_) (fun c79 => ?_)
      · refine g_aload_n h dX10_town_92 rfl rfl ?_
        refine g_getR h fl_X10_24_9 sh_0 (by decide) rfl dX10_town_93 ?_
        refine g_getR h fl_X10_97_8 sh_26 (by decide) rfl dX10_town_96 ?_
        refine g_dup h dX10_town_99 rfl ?_
        refine g_getI h fl_X10_121_4 sh_34 (by decide) rfl dX10_town_100 ?_
        refine g_top (y := v 34 11) (by rw [su_cell _ _ (by decide), TT_o (by decide)]) ?_
        refine g_iconst (v := nI 1) h dX10_town_103 (by decide) ?_
        refine g_iadd h dX10_town_104 ?_
        refine g_putI h pfl_X10_121_4 sh_34 (by decide) rfl dX10_town_105 ?_
        refine g_aload_n h dX10_town_108 rfl rfl ?_
        refine g_getR h fl_X10_20_9 sh_0 (by decide) rfl dX10_town_109 ?_
        refine g_getR h fl_X10_89_8 sh_2 (by decide) rfl dX10_town_112 ?_
        refine g_aload_n h dX10_town_115 rfl rfl ?_
        refine g_getR h fl_X10_24_9 sh_0 (by decide) rfl dX10_town_116 ?_
        refine g_getR h fl_X10_89_8 sh_26 (by decide) rfl dX10_town_119 ?_
        refine g_V h lv_X10_93_X7 sh_3 (by decide) rfl (c_X7_copyFrom 3 27 (by decide) (by decide) _) (fitR hR (by decide) (by decide) (by omega)) rfl rfl (Nat.le_of_ble_eq_true rfl) dX10_town_122 ?_
        refine g_aload_n h dX10_town_125 rfl rfl ?_
        refine g_getR h fl_X10_20_9 sh_0 (by decide) rfl dX10_town_126 ?_
        refine g_getR h fl_X10_97_8 sh_2 (by decide) rfl dX10_town_129 ?_
        refine g_aload_n h dX10_town_132 rfl rfl ?_
        refine g_getR h fl_X10_24_9 sh_0 (by decide) rfl dX10_town_133 ?_
        refine g_getR h fl_X10_97_8 sh_26 (by decide) rfl dX10_town_136 ?_
        refine g_V h lv_X10_101_X4 sh_10 (by decide) rfl (c_X4_copyFrom 10 34 (by decide) (by decide) _) (fitR hR (by decide) (by decide) (by omega)) rfl rfl (Nat.le_of_ble_eq_true rfl) dX10_town_139 ?_
        refine g_aload_n h dX10_town_142 rfl rfl ?_
        refine g_iconst (v := nI 0) h dX10_town_143 (by decide) ?_
        refine g_putI h pfl_X10_129_9 sh_0 (by decide) rfl dX10_town_144 ?_
        refine g_aload_n h dX10_town_147 rfl rfl ?_
        refine g_getR h fl_X10_20_9 sh_0 (by decide) rfl dX10_town_148 ?_
        refine g_getR h fl_X10_97_8 sh_2 (by decide) rfl dX10_town_151 ?_
        refine g_getI h fl_X10_121_4 sh_10 (by decide) rfl dX10_town_154 ?_
        refine g_top (y := v 34 11 + nI 1) (by rw [su_cell _ _ (by decide), cpR_s11 (by omega), cpT_c (by omega), su_k]) ?_
        exact g_iretP h hrt dX10_town_157 (by omega) (pd (town_k h43 c79) (fun k hk => eqx_su (eqx_cpR (eqx_cpT (eqx_su (eqx_su (fun k hk => TT_o (by omega)) rfl) rfl) (by decide) (by decide)) (by decide) (by decide)) rfl k (by omega)))
      · exact g_throwP h th_X10_126_128 dX10_town_82 dX10_town_85 dX10_town_86 dX10_town_88 dX10_town_91 htab (by rw [hR]; decide) (by rw [hR]; decide) (by rw [hR]; decide) (by rw [hR]; decide) (by omega) (pd (town_f h43 c79) (fun k hk => tw_s hd9 (fun k hk => TT_o hk) hk))
    · exact absurd rfl c54
theorem lw_s {u v w : Sto} (hd : dl v (su u 0 1 (nI 0))) (hw : ∀ k, k ≠ 160 → k ≠ 161 → w k = v k) {x : Int32} {k : Nat} (hk : k < 26 ∨ 49 < k ∧ k < 159 ∨ 161 < k) : su w 0 2 x k = su (su u 0 1 (nI 0)) 0 2 x k := by
  have e : w k = su u 0 1 (nI 0) k := (hw k (by omega) (by omega)).trans (hd k (by omega))
  by_cases q : k = 0
  · subst q; rw [su_at, su_at, e]
  · rw [su_cell _ _ q, su_cell _ _ q, e]
set_option maxHeartbeats 1000000 in
theorem c_X10_law {E : EE} (L : Nat) (u : Sto) (hL0 : u 0 1 = nI L) (hL : L ≤ 400) : CtP E 12 1 yX10_law cX10_law 1 (some .int) [.ref (E.ad 0)] u (PD (lawR u L)) := by
  refine ctp_of (by decide) (Nat.le_of_ble_eq_true rfl) (fun X h hR hrt htab hargs => ?_)
  refine g_aload_n h dX10_law_0 rfl rfl ?_
  refine g_aload_n h dX10_law_1 rfl rfl ?_
  refine g_getR h fl_X10_54_9 sh_0 (by decide) rfl dX10_law_2 ?_
  refine g_aload_n h dX10_law_5 rfl rfl ?_
  refine g_V h lv_X10_106_X10 sh_0 (by decide) rfl (c_X10_useTape _) (fitR hR (by decide) (by decide) (by omega)) rfl rfl (Nat.le_of_ble_eq_true rfl) dX10_law_6 ?_
  refine g_top hL0 ?_
  refine g_VP h lv_X10_132_X3 sh_160 (by decide) rfl (c_X3_readLaw (u 1) L (su u 0 1 (nI 0)) (by rw [su_cell _ _ (by decide)]) hL) qr_nx (fitR hR (by decide) (by decide) (by omega)) rfl rfl (Nat.le_of_ble_eq_true rfl) dX10_law_9 (fun v9 u9 hs9 => ?_)
  cases h9 : lawT (u 1) L
  · rename_i e9
    rw [h9] at hs9
    obtain ⟨hv9, v, g9, a9, b9, c9, p9, w9, hd9, rfl⟩ := hs9
    cases hv9
    refine g_putI h pfl_X10_13_9 sh_0 (by decide) rfl dX10_law_12 ?_
    refine g_aload_n h dX10_law_15 rfl rfl ?_
    refine g_getI h fl_X10_13_9 sh_0 (by decide) rfl dX10_law_16 ?_
    refine g_top su_k ?_
    refine g_iconst (v := -1) h dX10_law_19 (by decide) ?_
    refine g_icmp_eq (tgt := 33) h dX10_law_20 (by decide) (fun c20 => ?_) (fun c20 => ?_)
    · exact absurd c20 (nI_m4 (Nat.le_trans (la_er h9) hL))
    · exact g_throwP h th_X10_116_118 dX10_law_23 dX10_law_26 dX10_law_27 dX10_law_29 dX10_law_32 htab (by rw [hR]; decide) (by rw [hR]; decide) (by rw [hR]; decide) (by rw [hR]; decide) (by omega) (pd (law_e h9) (fun k hk => lw_s hd9 (fun k hk h2 => LT_o hk h2) hk))
  · rename_i t9
    rw [h9] at hs9
    obtain ⟨hv9, g9, a9, b9, c9, p9, w9, rfl⟩ := hs9
    cases hv9
    refine g_putI h pfl_X10_13_9 sh_0 (by decide) rfl dX10_law_12 ?_
    refine g_aload_n h dX10_law_15 rfl rfl ?_
    refine g_getI h fl_X10_13_9 sh_0 (by decide) rfl dX10_law_16 ?_
    refine g_top su_k ?_
    refine g_iconst (v := -1) h dX10_law_19 (by decide) ?_
    refine g_icmp_eq (tgt := 33) h dX10_law_20 (by decide) (fun c20 => ?_) (fun c20 => ?_)
    · refine g_aload_n h dX10_law_33 rfl rfl ?_
      refine g_getR h fl_X10_20_9 sh_0 (by decide) rfl dX10_law_34 ?_
      refine g_getR h fl_X10_47_8 sh_2 (by decide) rfl dX10_law_37 ?_
      refine g_aload_n h dX10_law_40 rfl rfl ?_
      refine g_getR h fl_X10_24_9 sh_0 (by decide) rfl dX10_law_41 ?_
      refine g_getR h fl_X10_47_8 sh_26 (by decide) rfl dX10_law_44 ?_
      refine g_V h lv_X10_135_X2 sh_19 (by decide) rfl (c_X2_copyFrom 19 43 (by decide) (by decide) _) (fitR hR (by decide) (by decide) (by omega)) rfl rfl (Nat.le_of_ble_eq_true rfl) dX10_law_47 ?_
      refine g_aload_n h dX10_law_50 rfl rfl ?_
      refine g_iconst (v := nI 0) h dX10_law_51 (by decide) ?_
      refine g_putI h pfl_X10_129_9 sh_0 (by decide) rfl dX10_law_52 ?_
      refine g_aload_n h dX10_law_55 rfl rfl ?_
      refine g_getR h fl_X10_20_9 sh_0 (by decide) rfl dX10_law_56 ?_
      refine g_getR h fl_X10_47_8 sh_2 (by decide) rfl dX10_law_59 ?_
      refine g_getI h fl_X10_140_2 sh_19 (by decide) rfl dX10_law_62 ?_
      refine g_top (y := nI t9.length) (by rw [su_cell _ _ (by decide), cpL_s5 (by omega), su_cell _ _ (by decide), LT_o (by decide) (by decide), lnA_5 clS_5, Nat.zero_add]) ?_
      exact g_iretP h hrt dX10_law_65 (by omega) (pd (law_k h9) (fun k hk => eqx_su (eqx_cpL (eqx_su (fun k hk => LT_o (by omega) (by omega)) rfl) (by decide) (by decide)) rfl k (by omega)))
    · exact absurd rfl c20
