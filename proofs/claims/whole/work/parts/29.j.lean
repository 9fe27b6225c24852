def paS (u : Sto) : Nat → Sto
  | 0 => u
  | k + 1 => prS (paS u k) k 168
def daS (u : Sto) : Nat → Sto
  | 0 => u
  | k + 1 => if daS u k 13 k = -1 then drS (daS u k) k else daS u k
theorem WI_pa {u : Sto} (h : WI u) : ∀ k, WI (paS u k)
  | 0 => h
  | k + 1 => WI_pr (WI_pa h k) k 168
theorem WI_da {u : Sto} (h : WI u) : ∀ k, k ≤ 10 → WI (daS u k)
  | 0, _ => h
  | k + 1, hk => by
    rw [daS]
    split
    · exact WI_dr (WI_da h k (by omega)) (by omega)
    · exact WI_da h k (by omega)
theorem prR_c {u : Sto} {a r k : Nat} (h1 : k ≠ 4) (h2 : k ≠ 5) (h3 : k ≠ 8) (h4 : k ≠ 7) (h5 : k ≠ 3) : prR u a r k = u k := by
  unfold prR
  split
  · split
    · exact frT_c h1 h2 h3
    · unfold pyS
      rw [su_c h5, su_c h4]
  · rfl
theorem prS_c {u : Sto} {a k : Nat} (h1 : k ≠ 4) (h2 : k ≠ 5) (h3 : k ≠ 8) (h4 : k ≠ 7) (h5 : k ≠ 3) : ∀ j, prS u a j k = u k
  | 0 => rfl
  | j + 1 => by rw [prS, prR_c h1 h2 h3 h4 h5, prS_c h1 h2 h3 h4 h5 j]
theorem paS_c {u : Sto} {k : Nat} (h1 : k ≠ 4) (h2 : k ≠ 5) (h3 : k ≠ 8) (h4 : k ≠ 7) (h5 : k ≠ 3) : ∀ j, paS u j k = u k
  | 0 => rfl
  | j + 1 => by rw [paS, prS_c h1 h2 h3 h4 h5, paS_c h1 h2 h3 h4 h5 j]
theorem drS_c {u : Sto} {a k : Nat} (h1 : k ≠ 4) (h2 : k ≠ 5) (h3 : k ≠ 8) (h4 : k ≠ 7) (h5 : k ≠ 3) (h6 : k ≠ 9) : drS u a k = u k := by
  unfold drS
  split
  · exact sd1_c h5
  · show (if _ then _ else _ : Sto) k = u k
    split
    · unfold gvS ctT pyS
      rw [enT_c h6 h5, soT_c h1 h2 h3, su_c h5, su_c h4, sd1_c h5, sd1_c h5]
    · rw [sd1_c h5, sd1_c h5]
theorem daS_c {u : Sto} {k : Nat} (h1 : k ≠ 4) (h2 : k ≠ 5) (h3 : k ≠ 8) (h4 : k ≠ 7) (h5 : k ≠ 3) (h6 : k ≠ 9) : ∀ j, daS u j k = u k
  | 0 => rfl
  | j + 1 => by
    rw [daS]
    split
    · rw [drS_c h1 h2 h3 h4 h5 h6, daS_c h1 h2 h3 h4 h5 h6 j]
    · exact daS_c h1 h2 h3 h4 h5 h6 j
/-- a tick more -/
def tkS (u : Sto) (T : Nat) : Sto :=
  let nw := aft (ix (u 3 10))
  let u1 := su u 3 10 (nI nw)
  if nw = 0 then daS (paS (su u1 3 9 (u 3 9 + nI 1)) T) T else u1
theorem WI_su {u : Sto} (h : WI u) {j : Nat} (x : Int32) (hj : j ≠ 6) : WI (su u 3 j x) := ⟨law_c h.1 (su_c (by decide)) (su_c (by decide)), fun r hr => by rw [su_c (by decide)]; exact h.2.1 r hr, by rw [su_slot (fun q => hj q.symm)]; exact h.2.2⟩
set_option maxHeartbeats 1000000 in
theorem c_X9_tickOn {E : EE} (T : Nat) (hT9 : T ≤ 10) (nw : Nat) (hn : nw < 168) (u : Sto) (hw : WI u) (hT : u 10 8 = nI T) (hnw : u 3 10 = nI nw) : CtP E 7 0 yX9_tickOn cX9_tickOn 2 none [.ref (E.ad 2)] u (PS (.inl none) (tkS u T)) := by
  refine ctp_of (by decide) (Nat.le_of_ble_eq_true rfl) (fun X h hR hrt htab hargs => ?_)
  have hix : ix (u 3 10) = nw := by rw [hnw]; exact ix_nI (by omega)
  have hw1 : WI (su (su u 3 10 (nI (aft nw))) 3 9 (u 3 9 + nI 1)) := WI_su (WI_su hw _ (by decide)) _ (by decide)
  have L2 : aft nw = 0 → ∀ j k : Nat, ∀ w : Sto, sim w (daS (paS (su (su u 3 10 (nI (aft nw))) 3 9 (u 3 9 + nI 1)) T) k) → T < k + j → k ≤ T → G E X (QMP E X (PS (.inl none) (tkS u T)) 0) 2 0 67 [(0, .ref (E.ad 2)), (1, .int (nI k))] [] w := by
    intro n24 j
    induction j with
    | zero => intro k w hs h1 h2; omega
    | succ j ih =>
      intro k w hs h1 h2
      refine g_iload_n h dX9_tickOn_67 rfl rfl ?_
      refine g_aload_n h dX9_tickOn_68 rfl rfl ?_
      refine g_getR h fl_X9_21_8 sh_2 (by decide) rfl dX9_tickOn_69 ?_
      refine g_getI h fl_X9_53_4 sh_10 (by decide) rfl dX9_tickOn_72 ?_
      refine g_top (y := nI T) (by rw [hs.c 10 (by decide), daS_c (by decide) (by decide) (by decide) (by decide) (by decide) (by decide), paS_c (by decide) (by decide) (by decide) (by decide) (by decide), su_ne2 (by decide), su_ne2 (by decide)]; exact hT) ?_
      refine g_icmp_ge (tgt := 97) h dX9_tickOn_75 (by decide) (fun c75 => ?_) (fun c75 => ?_)
      · have n75 := le_n (by omega) (by omega) (show nI (T) ≤ nI (k) from c75)
        obtain rfl : k = T := by omega
        exact g_vretP h hrt dX9_tickOn_97 (by omega) ⟨rfl, by unfold tkS; simp only [hix]; rw [if_pos n24]; exact hs⟩
      · have n75 := nle_n (by omega) (by omega) (show ¬ nI (T) ≤ nI (k) from c75)
        refine g_aload_n h dX9_tickOn_78 rfl rfl ?_
        refine g_iload_n h dX9_tickOn_79 rfl rfl ?_
        refine g_V h lv_X9_49_X9 sh_2 (by decide) rfl (c_X9_isChild k (by omega) _) (fitR hR (by decide) (by decide) (by omega)) rfl rfl (Nat.le_of_ble_eq_true rfl) dX9_tickOn_80 ?_
        refine g_if_ne (tgt := 91) h dX9_tickOn_83 (by decide) (fun c83 => ?_) (fun c83 => ?_)
        · have d83 := b2_n0.mp c83
          refine g_iinc (v := nI (k + 1)) (ls' := [(0, _), (1, _)]) h dX9_tickOn_91 rfl (inc1 k) (by decide) rfl rfl ?_
          refine g_goto (tgt := 67) h dX9_tickOn_94 (by decide) ?_
          exact ih (k + 1) w (by rw [daS, if_neg (by rw [← hs.c 13 (by decide)]; exact d83)]; exact hs) (by omega) (by omega)
        · have d83 := Decidable.not_not.mp (b2_0.mp c83)
          refine g_aload_n h dX9_tickOn_86 rfl rfl ?_
          refine g_iload_n h dX9_tickOn_87 rfl rfl ?_
          refine g_VP h lv_X9_146_X9 sh_2 (by decide) rfl (c_X9_drawRoom k (by omega) _ (WI_sim hs (WI_da (WI_pa hw1 T) k (by omega)))) ps_nx (fitR hR (by decide) (by decide) (by omega)) rfl rfl (Nat.le_of_ble_eq_true rfl) dX9_tickOn_88 (fun v88 u88 hs88 => ?_)
          obtain ⟨hv88, hs88⟩ := hs88
          cases hv88
          refine g_iinc (v := nI (k + 1)) (ls' := [(0, _), (1, _)]) h dX9_tickOn_91 rfl (inc1 k) (by decide) rfl rfl ?_
          refine g_goto (tgt := 67) h dX9_tickOn_94 (by decide) ?_
          exact ih (k + 1) _ (by rw [daS, if_pos (by rw [← hs.c 13 (by decide)]; exact d83)]; exact hs88.trans (drS_sim hs k)) (by omega) (by omega)
  have L1 : aft nw = 0 → ∀ j k : Nat, ∀ w : Sto, sim w (paS (su (su u 3 10 (nI (aft nw))) 3 9 (u 3 9 + nI 1)) k) → T < k + j → k ≤ T → G E X (QMP E X (PS (.inl none) (tkS u T)) 0) 2 0 43 [(0, .ref (E.ad 2)), (1, .int (nI k))] [] w := by
    intro n24 j
    induction j with
    | zero => intro k w hs h1 h2; omega
    | succ j ih =>
      intro k w hs h1 h2
      refine g_iload_n h dX9_tickOn_43 rfl rfl ?_
      refine g_aload_n h dX9_tickOn_44 rfl rfl ?_
      refine g_getR h fl_X9_21_8 sh_2 (by decide) rfl dX9_tickOn_45 ?_
      refine g_getI h fl_X9_53_4 sh_10 (by decide) rfl dX9_tickOn_48 ?_
      refine g_top (y := nI T) (by rw [hs.c 10 (by decide), paS_c (by decide) (by decide) (by decide) (by decide) (by decide), su_ne2 (by decide), su_ne2 (by decide)]; exact hT) ?_
      refine g_icmp_ge (tgt := 65) h dX9_tickOn_51 (by decide) (fun c51 => ?_) (fun c51 => ?_)
      · have n51 := le_n (by omega) (by omega) (show nI (T) ≤ nI (k) from c51)
        obtain rfl : k = T := by omega
        refine g_iconst (v := nI 0) h dX9_tickOn_65 (by decide) ?_
        refine g_istore_n (ls' := [(0, _), (1, _)]) h dX9_tickOn_66 rfl (by decide) rfl rfl ?_
        exact L2 n24 (k + 1) 0 w hs (by omega) (by omega)
      · have n51 := nle_n (by omega) (by omega) (show ¬ nI (T) ≤ nI (k) from c51)
        refine g_aload_n h dX9_tickOn_54 rfl rfl ?_
        refine g_iload_n h dX9_tickOn_55 rfl rfl ?_
        refine g_VP h lv_X9_143_X9 sh_2 (by decide) rfl (c_X9_payRents k (by omega) _ (WI_sim hs (WI_pa hw1 k))) ps_nx (fitR hR (by decide) (by decide) (by omega)) rfl rfl (Nat.le_of_ble_eq_true rfl) dX9_tickOn_56 (fun v56 u56 hs56 => ?_)
        obtain ⟨hv56, hs56⟩ := hs56
        cases hv56
        refine g_iinc (v := nI (k + 1)) (ls' := [(0, _), (1, _)]) h dX9_tickOn_59 rfl (inc1 k) (by decide) rfl rfl ?_
        refine g_goto (tgt := 43) h dX9_tickOn_62 (by decide) ?_
        exact ih (k + 1) _ (by rw [paS]; exact hs56.trans (prS_sim hs k 168)) (by omega) (by omega)
  refine g_aload_n h dX9_tickOn_0 rfl rfl ?_
  refine g_getR h fl_X9_12_8 sh_2 (by decide) rfl dX9_tickOn_1 ?_
  refine g_aload_n h dX9_tickOn_4 rfl rfl ?_
  refine g_getR h fl_X9_12_8 sh_2 (by decide) rfl dX9_tickOn_5 ?_
  refine g_getI h fl_X9_140_6 sh_3 (by decide) rfl dX9_tickOn_8 ?_
  refine g_top hnw ?_
  refine g_S h ls_X9_90 (c_X10_after _ (by omega) _) (fitR hR (by decide) (by decide) (by omega)) rfl rfl (Nat.le_of_ble_eq_true rfl) dX9_tickOn_11 ?_
  refine g_putI h pfl_X9_140_6 sh_3 (by decide) rfl dX9_tickOn_14 ?_
  refine g_aload_n h dX9_tickOn_17 rfl rfl ?_
  refine g_getR h fl_X9_12_8 sh_2 (by decide) rfl dX9_tickOn_18 ?_
  refine g_getI h fl_X9_140_6 sh_3 (by decide) rfl dX9_tickOn_21 ?_
  refine g_top (y := nI (aft nw)) (su_same _ _ _ _) ?_
  refine g_if_eq (tgt := 28) h dX9_tickOn_24 (by decide) (fun c24 => ?_) (fun c24 => ?_)
  · have n24 : aft nw = 0 := eq_n (by have := aft_lt nw; omega) (by omega) (show nI (aft nw) = nI 0 from c24)
    refine g_aload_n h dX9_tickOn_28 rfl rfl ?_
    refine g_getR h fl_X9_12_8 sh_2 (by decide) rfl dX9_tickOn_29 ?_
    refine g_dup h dX9_tickOn_32 rfl ?_
    refine g_getI h fl_X9_80_6 sh_3 (by decide) rfl dX9_tickOn_33 ?_
    refine g_top (y := u 3 9) (by rw [su_slot (by decide)]) ?_
    refine g_iconst (v := nI 1) h dX9_tickOn_36 (by decide) ?_
    refine g_iadd h dX9_tickOn_37 ?_
    refine g_putI h pfl_X9_80_6 sh_3 (by decide) rfl dX9_tickOn_38 ?_
    refine g_iconst (v := nI 0) h dX9_tickOn_41 (by decide) ?_
    refine g_istore_n (ls' := [(0, _), (1, _)]) h dX9_tickOn_42 rfl (by decide) rfl rfl ?_
    exact L1 n24 (T + 1) 0 _ (sim.refl _) (by omega) (by omega)
  · have n24 : ¬ aft nw = 0 := fun q => c24 (by rw [q]; rfl)
    exact g_vretP h hrt dX9_tickOn_27 (by omega) ⟨rfl, by unfold tkS; simp only [hix]; rw [if_neg n24]; exact sim.refl _⟩
