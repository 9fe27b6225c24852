-- after: 9g.ok
theorem pt_ad {v : Sto} {T a : Nat} (hI : TI v 3 10 T) (hT : T ≤ 10) (ha : a < 10) (h : ¬ ptI v a = -1) : a < T ∧ v 13 a = -1 := by
  have h8 : ¬ v 8 a = 0 := fun q => h (by rw [ptI, if_pos q])
  by_cases c : ∃ m, m < 168 ∧ v 4 m = nI a
  · obtain ⟨m, hm, e⟩ := c
    rcases hI.own m hm with z | ⟨b, hb, z, z2⟩
    · exact absurd (e.symm.trans z) (nI_m1 (by omega))
    · have := eq_n (by omega) (by omega) (e.symm.trans z)
      subst this
      exact ⟨hb, z2⟩
  · exact absurd ((own_0 (t := 3) hI ha).mpr (fun m hm q => c ⟨m, hm, q⟩)) h8
theorem rg_all {v : Sto} {a : Nat} : ∀ (j n : Nat), (∀ i, n ≤ i → i < rgN v a j n → ¬ ptI v (atF v a i) = -1)
  | 0, _, i, _, h2 => absurd h2 (Nat.not_lt_zero _)
  | j + 1, n, i, h1, h2 => by
    have e : rgN v a (j + 1) n = if ptI v (atF v a n) = -1 then 0 else if v 4 (ix (ptI v (atF v a n))) = nI a then n + 1 else rgN v a j (n + 1) := rfl
    rw [e] at h2
    split at h2
    · omega
    · rename_i c
      split at h2
      · rw [show i = n by omega]; exact c
      · by_cases z : i = n
        · rw [z]; exact c
        · exact rg_all j (n + 1) i (by omega) h2
def trG (g : Nat → Int32) (A B : Nat → Nat) : Nat → Nat → Int32
  | 0 => g
  | i + 1 => ctG (trG g A B i) (B i) (A i) (nI 4)
theorem tr_39 {v : Sto} {A B : Nat → Nat} : ∀ i, trW v A B i 3 9 = v 3 9 ∧ trW v A B i 13 = v 13
  | 0 => ⟨rfl, rfl⟩
  | i + 1 => by
    have ih := tr_39 (v := v) (A := A) (B := B) i
    exact ⟨ct_39.trans ih.1, ct_13.trans ih.2⟩
theorem J_tr {v : Sto} {g : Nat → Int32} {T W wk N : Nat} {A B : Nat → Nat} (hJ : J v g T W) (hw : v 3 9 = nI wk) (hwk : wk < 2 ^ 17) (h : ∀ i, i < N → A i < T ∧ v 13 (A i) = -1 ∧ B i < 168) : ∀ i, i ≤ N → J (trW v A B i) (trG g A B i) T W
  | 0, _ => hJ
  | i + 1, hi => by
    have hh := h i (by omega)
    have ht := tr_39 (v := v) (A := A) (B := B) i
    exact J_ct (J_tr hJ hw hwk h i (by omega)) (ht.1.trans hw) hwk hh.2.2 hh.1 (by rw [ht.2]; exact hh.2.1) (by decide)
theorem tr_g {g : Nat → Int32} {A B : Nat → Nat} {N j : Nat} (h : ∀ i, i < N → B i < 168) (hj : tnJ j = false) : ∀ i, i ≤ N → trG g A B i j = g j
  | 0, _ => rfl
  | i + 1, hi => by
    show ctG (trG g A B i) (B i) (A i) (nI 4) j = _
    rw [ct_g (h i (by omega)) hj, tr_g h hj i (by omega)]
theorem rgV_n {n : Nat} (h : n ≤ 10) : rgV n = -1 ↔ n = 0 := by
  unfold rgV
  split
  · rename_i c; exact ⟨fun _ => c, fun _ => rfl⟩
  · rename_i c; exact ⟨fun q => absurd q (nI_m1 (by omega)), fun q => absurd q c⟩
set_option maxHeartbeats 1000000 in
theorem c_X11_turn {E : EE} (v : Sto) (T W pf pc wk : Nat) (hpc : pc ≤ 12) (hwk : wk < 2 ^ 17) (x : Int32) (u : Sto) (hJ : J v (u 179) T W) (hA : u 178 6 = nI pc) (hW : v 3 9 = nI wk) : CtP E 36 0 yX11_turn cX11_turn 4 (some .int) [.ref (E.ad 178), .int x] u (PMa (cdL [ioob, ise]) (turR v pf pc x) u pc T W) := by
  have hK : LK v u T W := hJ.k
  have hT := hK.hT
  have hJ0 : J (rmS v pf pc) (u 179) T W := J_v hJ vim_rm
  have hW0 : rmS v pf pc 3 9 = nI wk := by rw [rmS_c (by decide) (by omega)]; exact hW
  refine ctp_of (by decide) (Nat.le_of_ble_eq_true rfl) (fun X h hR hrt htab hargs => ?_)
  refine g_aload_n h dX11_turn_0 rfl rfl ?_
  refine g_aload_n h dX11_turn_1 rfl rfl ?_
  refine g_iload_n h dX11_turn_2 rfl rfl ?_
  refine g_V h lv_X11_277_X11 sh_178 (by decide) rfl (c_X11_isTenant x v T W u hK.r) (fitR hR (by first | decide | omega) (by decide) (by omega)) rfl rfl (Nat.le_of_ble_eq_true rfl) dX11_turn_3 ?_
  by_cases n3 : okT v x
  · refine g_top (b2_t n3) ?_
    obtain ⟨a, ha, ha9, ia, rfl⟩ := okT_n hK.hT hK.r.vt n3
    refine g_if_ne (tgt := 13) h dX11_turn_6 (by decide) (fun _ => ?_) (fun q => absurd q (by decide))
    refine g_aload_n h dX11_turn_13 rfl rfl ?_
    refine g_iload_n h dX11_turn_14 rfl rfl ?_
    refine g_VP h lv_X11_370_X11 sh_178 (by decide) rfl (c_X11_rings v T W a ha u hK hJ.ti) rn_nx (fitR hR (by first | decide | omega) (by decide) (by omega)) rfl rfl (Nat.le_of_ble_eq_true rfl) dX11_turn_15 (fun v15 u15 hs15 => ?_)
    obtain ⟨hv15, hs15, -⟩ := hs15
    cases hv15
    have hre := rg_eq hJ.ti hK.hT ha
    have hrb := rg_b9 (v := v) (a := a) T 0
    · skip
      refine g_iconst (v := -1) h dX11_turn_18 (by decide) ?_
      refine g_icmp_ne (tgt := 26) h dX11_turn_19 (by decide) (fun c19 => ?_) (fun c19 => ?_)
      · have hz0 : ¬ rgN v a T 0 = 0 := fun q => c19 ((rgV_n (by omega)).mpr q)
        refine g_iconst (v := nI 0) h dX11_turn_26 (by decide) ?_
        refine g_putI h pfl_X11_69_10 sh_178 (by decide) rfl dX11_turn_27 ?_
        refine g_aload_n h dX11_turn_30 rfl rfl ?_
        refine g_getI h fl_X11_69_10 sh_178 (by decide) rfl dX11_turn_31 ?_
        refine g_top su_k ?_
        refine g_if_le (tgt := 39) h dX11_turn_34 (by decide) (fun _ => ?_) (fun q => absurd q (by decide))
        refine g_aload_n h dX11_turn_39 rfl rfl ?_
        refine g_V h lv_X11_305_X11 sh_178 (by decide) rfl (c_X11_remembers pc hpc _ (rm_6 hs15 hA)) (fitR hR (by first | decide | omega) (by decide) (by omega)) rfl rfl (Nat.le_of_ble_eq_true rfl) dX11_turn_40 ?_
        refine g_aload_n h dX11_turn_43 rfl rfl ?_
        refine g_iload_n h dX11_turn_44 rfl rfl ?_
        refine g_VP h lv_X11_370_X11 sh_178 (by decide) rfl (c_X11_rings v T W a ha _ (k9_K (rm_k (pc := pc) hs15) hK rfl) hJ.ti) rn_nx (fitR hR (by first | decide | omega) (by decide) (by omega)) rfl rfl (Nat.le_of_ble_eq_true rfl) dX11_turn_45 (fun v45 u45 hs45 => ?_)
        obtain ⟨hv45, hs45, hrow⟩ := hs45
        cases hv45
        have hAB0 : ∀ i, i < rgN v a T 0 → atF v a i < T ∧ v 13 (atF v a i) = -1 ∧ ix (ptI v (atF v a i)) < 168 := fun i hi => by
          have hp := rg_all T 0 i (Nat.zero_le _) hi
          obtain ⟨r9, hr9, e9, -⟩ := pt_i hp
          have hb : atF v a i < 10 := by
            cases i with
            | zero => exact ha9
            | succ i => have := (atm_b hJ.ti hK.hT (rg_all (a := a) T 0 i (Nat.zero_le _) (by omega))).1; omega
          have := pt_ad hJ.ti hK.hT hb hp
          exact ⟨this.1, this.2, by rw [e9, ix_nI (by omega)]; exact hr9⟩
        · refine g_top (y := nI (rgN v a T 0)) (if_neg hz0) ?_
          refine g_istore_n (ls' := [(0, _), (1, _), (2, _)]) h dX11_turn_48 rfl (by decide) rfl rfl ?_
          refine g_iconst (v := nI 0) h dX11_turn_49 (by decide) ?_
          refine g_istore_n (ls' := [(0, _), (1, _), (2, _), (3, _)]) h dX11_turn_50 rfl (by decide) rfl rfl ?_
          have LP : ∀ (j k : Nat) (w : Sto), (rgN v a T 0) < k + j → k ≤ (rgN v a T 0) → (K9 w (rmM (su u 178 0 (nI 0)) pc) (trG (u 179) (atF v a) (fun i => ix (ptI v (atF v a i))) k) ∧ ∀ i, i < rgN v a T 0 → w 191 i = nI (atF v a i) ∧ w 192 i = nI (ix (ptI v (atF v a i)))) → G E X (QMP E X (PMa (cdL [ioob, ise]) (turR v pf pc (nI a)) u pc T W) 0) 4 0 51 [(0, .ref (E.ad 178)), (1, .int (nI a)), (2, .int (nI (rgN v a T 0))), (3, .int (nI k))] [] w := by
            intro j
            induction j with
            | zero => intro k w h1 h2 hw; omega
            | succ j ih =>
              intro k w h1 h2 hw
              refine g_iload_n h dX11_turn_51 rfl rfl ?_
              refine g_iload_n h dX11_turn_52 rfl rfl ?_
              refine g_icmp_ge (tgt := 101) h dX11_turn_53 (by decide) (fun c53 => ?_) (fun c53 => ?_)
              · have n53 := le_n (by omega) (by omega) (show nI (rgN v a T 0) ≤ nI (k) from c53)
                refine g_iload_n h dX11_turn_101 rfl rfl ?_
                exact g_iretP h hrt dX11_turn_102 (by omega) (pa_k (by rw [turR, if_pos n3, ia, if_pos (show 0 < rgN v a 10 0 by rw [hre]; omega)]) (by rw [hre]) (by rw [hre]; exact J_tr hJ0 hW0 hwk (fun i hi => ⟨(hAB0 i hi).1, by rw [rmS_c (by decide) (by omega)]; exact (hAB0 i hi).2.1, (hAB0 i hi).2.2⟩) _ (Nat.le_refl _)) (fun j hj => tr_g (fun i hi => (hAB0 i hi).2.2) hj _ (Nat.le_refl _)) (by rw [show rgN v a T 0 = k by omega]; exact hw.1))
              · have n53 := nle_n (by omega) (by omega) (show ¬ nI (rgN v a T 0) ≤ nI (k) from c53)
                have hz := hw.2 k n53
                have hAB := hAB0 k n53
                refine g_aload_n h dX11_turn_56 rfl rfl ?_
                refine g_aload_n h dX11_turn_57 rfl rfl ?_
                refine g_getR h fl_X11_54_10 sh_178 (by decide) rfl dX11_turn_58 ?_
                refine g_iload_n h dX11_turn_61 rfl rfl ?_
                refine g_iald h _ _ _ sh_192 (by decide) (by decide) rfl (by omega) dX11_turn_62 ?_
                refine g_top hz.2 ?_
                refine g_aload_n h dX11_turn_63 rfl rfl ?_
                refine g_getR h fl_X11_51_10 sh_178 (by decide) rfl dX11_turn_64 ?_
                refine g_iload_n h dX11_turn_67 rfl rfl ?_
                refine g_iald h _ _ _ sh_191 (by decide) (by decide) rfl (by omega) dX11_turn_68 ?_
                refine g_top hz.1 ?_
                refine g_aload_n h dX11_turn_69 rfl rfl ?_
                refine g_getR h fl_X11_51_10 sh_178 (by decide) rfl dX11_turn_70 ?_
                refine g_iload_n h dX11_turn_73 rfl rfl ?_
                refine g_iald h _ _ _ sh_191 (by decide) (by decide) rfl (by omega) dX11_turn_74 ?_
                refine g_top hz.1 ?_
                refine g_V h lv_X11_149_X11 sh_178 (by decide) rfl (c_X11_has (ix (ptI v (atF v a k))) hAB.2.2 _ _ _) (fitR hR (by first | decide | omega) (by decide) (by omega)) rfl rfl (Nat.le_of_ble_eq_true rfl) dX11_turn_75 ?_
                refine g_aload_n h dX11_turn_78 rfl rfl ?_
                refine g_aload_n h dX11_turn_79 rfl rfl ?_
                refine g_getR h fl_X11_54_10 sh_178 (by decide) rfl dX11_turn_80 ?_
                refine g_iload_n h dX11_turn_83 rfl rfl ?_
                refine g_iald h _ _ _ sh_192 (by decide) (by decide) rfl (by omega) dX11_turn_84 ?_
                refine g_top ((congrFun (su_cell _ _ (by decide)) _).trans ((congrFun (su_cell _ _ (by decide)) _).trans hz.2)) ?_
                refine g_aload_n h dX11_turn_85 rfl rfl ?_
                refine g_getR h fl_X11_51_10 sh_178 (by decide) rfl dX11_turn_86 ?_
                refine g_iload_n h dX11_turn_89 rfl rfl ?_
                refine g_iald h _ _ _ sh_191 (by decide) (by decide) rfl (by omega) dX11_turn_90 ?_
                refine g_top ((congrFun (su_cell _ _ (by decide)) _).trans ((congrFun (su_cell _ _ (by decide)) _).trans hz.1)) ?_
                refine g_iconst (v := nI 4) h dX11_turn_91 (by decide) ?_
                refine g_V h lv_X11_298_X11 sh_178 (by decide) rfl (c_X11_writes _ _ _ _) (fitR hR (by first | decide | omega) (by decide) (by omega)) rfl rfl (Nat.le_of_ble_eq_true rfl) dX11_turn_92 ?_
                refine g_iinc (v := nI (k + 1)) (ls' := [(0, _), (1, _), (2, _), (3, _)]) h dX11_turn_95 rfl (nI_1 k) (by decide) rfl rfl ?_
                refine g_goto (tgt := 51) h dX11_turn_98 (by decide) ?_
                exact ih (k + 1) _ (by omega) (by omega) ⟨k9_wr (k9_has hw.1 _ _ _) _ _ _, fun i hi => by
                  rw [sc_ne _ _ (by decide : (191 : Nat) ≠ 179), sc_ne _ _ (by decide : (192 : Nat) ≠ 179), su_cell _ _ (by decide : (191 : Nat) ≠ 179), su_cell _ _ (by decide : (191 : Nat) ≠ 179), su_cell _ _ (by decide : (192 : Nat) ≠ 179), su_cell _ _ (by decide : (192 : Nat) ≠ 179)]
                  exact hw.2 i hi⟩
          exact LP ((rgN v a T 0) + 1) 0 _ (by omega) (by omega) ⟨k9_sim (rm_k (sim.refl u)) (hs45.trans (rmM_sim (sim_su hs15 _ _ _) _)), fun i hi => ⟨(hrow i hi).1, (hrow i hi).2.trans (by obtain ⟨r9, hr9, e9, -⟩ := pt_i (rg_all T 0 i (Nat.zero_le _) hi); rw [e9, ix_nI (by omega)])⟩⟩
          
      · have hz0 : rgN v a T 0 = 0 := (rgV_n (by omega)).mp c19
        refine g_iconst (v := nI 2) h dX11_turn_22 (by decide) ?_
        refine g_goto (tgt := 27) h dX11_turn_23 (by decide) ?_
        refine g_putI h pfl_X11_69_10 sh_178 (by decide) rfl dX11_turn_27 ?_
        refine g_aload_n h dX11_turn_30 rfl rfl ?_
        refine g_getI h fl_X11_69_10 sh_178 (by decide) rfl dX11_turn_31 ?_
        refine g_top su_k ?_
        refine g_if_le (tgt := 39) h dX11_turn_34 (by decide) (fun q => absurd q (by decide)) (fun _ => ?_)
        refine g_iconst (v := nI 0) h dX11_turn_37 (by decide) ?_
        exact g_iretP h hrt dX11_turn_38 (by omega) (by first | exact pa_x (Ex := ioob) (by rw [turR, if_pos n3, ia, if_neg (show ¬ 0 < rgN v a 10 0 by rw [hre]; omega)]) (by decide) (sim.refl _) | exact pa_x (Ex := ioob) (by rw [turR, if_pos n3, ia, if_neg (show ¬ 0 < rgN v a 10 0 by rw [hre]; omega)]) (by decide) (sim_su hs15 _ _ _) | exact pa_x (Ex := ise) (by rw [turR, if_pos n3, ia, if_neg (show ¬ 0 < rgN v a 10 0 by rw [hre]; omega)]) (by decide) (sim.refl _) | exact pa_x (Ex := ise) (by rw [turR, if_pos n3, ia, if_neg (show ¬ 0 < rgN v a 10 0 by rw [hre]; omega)]) (by decide) (sim_su hs15 _ _ _))
  · refine g_top (b2_f n3) ?_
    refine g_if_ne (tgt := 13) h dX11_turn_6 (by decide) (fun q => absurd q (by decide)) (fun _ => ?_)
    refine g_iconst (v := nI 1) h dX11_turn_9 (by decide) ?_
    refine g_goto (tgt := 27) h dX11_turn_10 (by decide) ?_
    refine g_putI h pfl_X11_69_10 sh_178 (by decide) rfl dX11_turn_27 ?_
    refine g_aload_n h dX11_turn_30 rfl rfl ?_
    refine g_getI h fl_X11_69_10 sh_178 (by decide) rfl dX11_turn_31 ?_
    refine g_top su_k ?_
    refine g_if_le (tgt := 39) h dX11_turn_34 (by decide) (fun q => absurd q (by decide)) (fun _ => ?_)
    refine g_iconst (v := nI 0) h dX11_turn_37 (by decide) ?_
    exact g_iretP h hrt dX11_turn_38 (by omega) (by first | exact pa_x (Ex := ioob) (by rw [turR, if_neg n3]) (by decide) (sim.refl _) | exact pa_x (Ex := ioob) (by rw [turR, if_neg n3]) (by decide) (sim_su hs15 _ _ _) | exact pa_x (Ex := ise) (by rw [turR, if_neg n3]) (by decide) (sim.refl _) | exact pa_x (Ex := ise) (by rw [turR, if_neg n3]) (by decide) (sim_su hs15 _ _ _))
