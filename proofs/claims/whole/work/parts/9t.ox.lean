-- after: 9s.ow
theorem sm_to {v : Sto} : ∀ k, (∀ w, w < k → v 16 w = nI (lw0 v w)) → smI (v 16) k = nI (toN (lw0 v) k)
  | 0, _ => rfl
  | k + 1, h => by
    show smI (v 16) k + v 16 k = nI (toN (lw0 v) k + lw0 v k)
    rw [sm_to k (fun w hw => h w (by omega)), h k (by omega), nI_add]
set_option maxHeartbeats 1000000 in
theorem c_X11_fitted {E : EE} (v : Sto) (T W : Nat) (z : Int32) (u : Sto) (hK : LK v u T W) (hRi : RI v 10 T W) : CtP E 36 0 yX11_fitted cX11_fitted 4 (some .int) [.ref (E.ad 178), .int z] u (PMr (cdL []) (.inl (some (.int (fitV v W z)))) u) := by
  refine ctp_of (by decide) (Nat.le_of_ble_eq_true rfl) (fun X h hR hrt htab hargs => ?_)
  have hW9 := hK.r.hW
  refine g_aload_n h dX11_fitted_0 rfl rfl ?_
  refine g_iconst (v := nI 0) h dX11_fitted_1 (by decide) ?_
  refine g_putI h pfl_X11_69_10 sh_178 (by decide) rfl dX11_fitted_2 ?_
  refine g_aload_n h dX11_fitted_5 rfl rfl ?_
  refine g_VP h lv_X11_355_X11 sh_178 (by decide) rfl (c_X11_fits v T W _ hK.th hRi) ftq_nx (fitR hR (by first | decide | omega) (by decide) (by omega)) rfl rfl (Nat.le_of_ble_eq_true rfl) dX11_fitted_6 (fun v6 u6 hs6 => ?_)
  obtain ⟨hv6, hs6, hmo, hgi⟩ := hs6
  cases hv6
  · skip
    refine g_iconst (v := nI 0) h dX11_fitted_9 (by decide) ?_
    refine g_istore_n (ls' := [(0, _), (1, _), (2, _)]) h dX11_fitted_10 rfl (by decide) rfl rfl ?_
    refine g_iconst (v := nI 0) h dX11_fitted_11 (by decide) ?_
    refine g_istore_n (ls' := [(0, _), (1, _), (2, _), (3, _)]) h dX11_fitted_12 rfl (by decide) rfl rfl ?_
    have LP : ∀ j k : Nat, W < k + j → k ≤ W → G E X (QMP E X (PMr (cdL []) (.inl (some (.int (fitV v W z)))) u) 0) 4 0 13 [(0, .ref (E.ad 178)), (1, .int z), (2, .int (smI (v 16) k)), (3, .int (nI k))] [] (u6) := by
      intro j
      induction j with
      | zero => intro k h1 h2; omega
      | succ j ih =>
        intro k h1 h2
        refine g_iload_n h dX11_fitted_13 rfl rfl ?_
        refine g_aload_n h dX11_fitted_14 rfl rfl ?_
        refine g_getR h fl_X11_7_10 sh_178 (by decide) rfl dX11_fitted_15 ?_
        refine g_bipush (v := nI 9) h dX11_fitted_18 (by decide) ?_
        refine g_iald h _ _ _ sh_179 (by decide) (by decide) rfl (by omega) dX11_fitted_20 ?_
        refine g_top (y := nI W) ((hK.th.sim hs6).r.wan) ?_
        refine g_icmp_ge (tgt := 46) h dX11_fitted_21 (by decide) (fun c21 => ?_) (fun c21 => ?_)
        · have n21 := le_n (by omega) (by omega) (show nI (W) ≤ nI (k) from c21)
          have ek : smI (v 16) k = smI (v 16) W := by rw [show k = W by omega]
          refine g_iload_n h dX11_fitted_46 rfl rfl ?_
          refine g_if_ne (tgt := 57) h dX11_fitted_47 (by decide) (fun c47 => ?_) (fun c47 => ?_)
          · refine g_aload_n h dX11_fitted_57 rfl rfl ?_
            refine g_getI h fl_X11_352_10 sh_178 (by decide) rfl dX11_fitted_58 ?_
            refine g_top hmo ?_
            refine g_iload_n h dX11_fitted_61 rfl rfl ?_
            refine g_icmp_ne (tgt := 69) h dX11_fitted_62 (by decide) (fun c62 => ?_) (fun c62 => ?_)
            · refine g_iconst (v := nI 0) h dX11_fitted_69 (by decide) ?_
              exact g_iretP h hrt dX11_fitted_70 (by omega) (pm_v (by rw [fitV, if_neg c47, b2_f (fun q => c62 (q.trans ek.symm))]) rfl hs6)
            · refine g_iconst (v := nI 1) h dX11_fitted_65 (by decide) ?_
              refine g_goto (tgt := 70) h dX11_fitted_66 (by decide) ?_
              exact g_iretP h hrt dX11_fitted_70 (by omega) (pm_v (by rw [fitV, if_neg c47, b2_t (c62.trans ek)]) rfl hs6)
          · refine g_aload_n h dX11_fitted_50 rfl rfl ?_
            refine g_getI h fl_X11_352_10 sh_178 (by decide) rfl dX11_fitted_51 ?_
            refine g_top hmo ?_
            refine g_goto (tgt := 70) h dX11_fitted_54 (by decide) ?_
            exact g_iretP h hrt dX11_fitted_70 (by omega) (pm_v (by rw [fitV, if_pos c47]) rfl hs6)
        · have n21 := nle_n (by omega) (by omega) (show ¬ nI (W) ≤ nI (k) from c21)
          refine g_iload_n h dX11_fitted_24 rfl rfl ?_
          refine g_aload_n h dX11_fitted_25 rfl rfl ?_
          refine g_getR h fl_X11_7_10 sh_178 (by decide) rfl dX11_fitted_26 ?_
          refine g_bipush (v := nI 56) h dX11_fitted_29 (by decide) ?_
          refine g_iconst (v := nI 4) h dX11_fitted_31 (by decide) ?_
          refine g_iload_n h dX11_fitted_32 rfl rfl ?_
          refine g_imul h dX11_fitted_33 ?_
          refine g_iadd h dX11_fitted_34 ?_
          refine g_top (y := nI (56 + 4 * k)) (by rw [nI_mul, nI_add]) ?_
          refine g_iconst (v := nI 1) h dX11_fitted_35 (by decide) ?_
          refine g_iadd h dX11_fitted_36 ?_
          refine g_top (y := nI (57 + 4 * k)) (by rw [nI_add]; exact congrArg nI (by omega)) ?_
          refine g_iald h _ _ _ sh_179 (by decide) (by decide) rfl (by omega) dX11_fitted_37 ?_
          refine g_top (y := v 16 k) ((hK.th.sim hs6).r.w1 k n21) ?_
          refine g_iadd h dX11_fitted_38 ?_
          refine g_istore_n (ls' := [(0, _), (1, _), (2, _), (3, _)]) h dX11_fitted_39 rfl (by decide) rfl rfl ?_
          refine g_iinc (v := nI (k + 1)) (ls' := [(0, _), (1, _), (2, _), (3, _)]) h dX11_fitted_40 rfl (nI_1 k) (by decide) rfl rfl ?_
          refine g_goto (tgt := 13) h dX11_fitted_43 (by decide) ?_
          exact ih (k + 1) (by omega) (by omega)
    exact LP (W + 1) (0) (by omega) (by omega)
    
set_option maxHeartbeats 1000000 in
theorem c_X11_given {E : EE} (v : Sto) (T W : Nat) (x : Int32) (u : Sto) (hK : LK v u T W) (hRi : RI v 10 T W) : CtP E 36 0 yX11_given cX11_given 2 (some .int) [.ref (E.ad 178), .int x] u (PMr (cdL [ioob]) (givR v W x).1 u) := by
  refine ctp_of (by decide) (Nat.le_of_ble_eq_true rfl) (fun X h hR hrt htab hargs => ?_)
  refine g_aload_n h dX11_given_0 rfl rfl ?_
  refine g_iload_n h dX11_given_1 rfl rfl ?_
  refine g_S h ls_X11_289 (c_X11_isRoom x u) (fitR hR (by first | decide | omega) (by decide) (by omega)) rfl rfl (Nat.le_of_ble_eq_true rfl) dX11_given_2 ?_
  by_cases n2 : okR x
  · refine g_top (b2_t n2) ?_
    obtain ⟨r, hr, ir, rfl⟩ := okR_n n2
    refine g_if_ne (tgt := 12) h dX11_given_5 (by decide) (fun _ => ?_) (fun q => absurd q (by decide))
    refine g_iconst (v := nI 0) h dX11_given_12 (by decide) ?_
    refine g_putI h pfl_X11_69_10 sh_178 (by decide) rfl dX11_given_13 ?_
    refine g_aload_n h dX11_given_16 rfl rfl ?_
    refine g_getI h fl_X11_69_10 sh_178 (by decide) rfl dX11_given_17 ?_
    refine g_top su_k ?_
    refine g_if_le (tgt := 25) h dX11_given_20 (by decide) (fun _ => ?_) (fun q => absurd q (by decide))
    refine g_aload_n h dX11_given_25 rfl rfl ?_
    refine g_VP h lv_X11_355_X11 sh_178 (by decide) rfl (c_X11_fits v T W _ hK.th hRi) ftq_nx (fitR hR (by first | decide | omega) (by decide) (by omega)) rfl rfl (Nat.le_of_ble_eq_true rfl) dX11_given_26 (fun v26 u26 hs26 => ?_)
    obtain ⟨hv26, hs26, hmo, hgi⟩ := hs26
    cases hv26
    · skip
      refine g_aload_n h dX11_given_29 rfl rfl ?_
      refine g_getR h fl_X11_48_10 sh_178 (by decide) rfl dX11_given_30 ?_
      refine g_iload_n h dX11_given_33 rfl rfl ?_
      refine g_iald h _ _ _ sh_190 (by decide) (by decide) rfl hr dX11_given_34 ?_
      exact g_iretP h hrt dX11_given_35 (by omega) (pm_v (by rw [givR, if_pos n2]) (by rw [ir]; exact (hgi r hr).symm) hs26)
  · refine g_top (b2_f n2) ?_
    refine g_if_ne (tgt := 12) h dX11_given_5 (by decide) (fun q => absurd q (by decide)) (fun _ => ?_)
    refine g_iconst (v := nI 1) h dX11_given_8 (by decide) ?_
    refine g_goto (tgt := 13) h dX11_given_9 (by decide) ?_
    refine g_putI h pfl_X11_69_10 sh_178 (by decide) rfl dX11_given_13 ?_
    refine g_aload_n h dX11_given_16 rfl rfl ?_
    refine g_getI h fl_X11_69_10 sh_178 (by decide) rfl dX11_given_17 ?_
    refine g_top su_k ?_
    refine g_if_le (tgt := 25) h dX11_given_20 (by decide) (fun q => absurd q (by decide)) (fun _ => ?_)
    refine g_iconst (v := nI 0) h dX11_given_23 (by decide) ?_
    exact g_iretP h hrt dX11_given_24 (by omega) (by first | exact pm_x (Ex := ioob) (by rw [givR, if_neg n2]) (by decide) (sim.refl _))
