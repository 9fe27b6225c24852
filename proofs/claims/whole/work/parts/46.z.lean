-- after: 38.r 39.s 40.t
theorem pyS_3 {u : Sto} {a j : Nat} {x : Int32} (h : j ≠ 8) : pyS u a x 3 j = u 3 j := by unfold pyS; rw [su_slot h, su_ne2 (by decide)]
theorem enT_3 {u : Sto} {r a x : Int32} {j : Nat} (h6 : j ≠ 6) (h7 : j ≠ 7) : enT u 3 r a x 3 j = u 3 j := by unfold enT; rw [su_slot h7, su_slot h6, su_ne2 (by decide)]
theorem ctT_3 {u : Sto} {r a j : Nat} {x : Int32} (h6 : j ≠ 6) (h7 : j ≠ 7) : ctT u 3 r a x 3 j = u 3 j := by unfold ctT; rw [enT_3 h6 h7, soT_c (by decide) (by decide) (by decide)]
theorem gvS_3 {u : Sto} {a r j : Nat} {x : Int32} (h6 : j ≠ 6) (h7 : j ≠ 7) (h8 : j ≠ 8) : gvS u a r x 3 j = u 3 j := by unfold gvS; rw [ctT_3 h6 h7, pyS_3 h8]
theorem prR_3 {u : Sto} {a r j : Nat} (h8 : j ≠ 8) : prR u a r 3 j = u 3 j := by
  unfold prR
  split
  · split
    · rw [frT_c (by decide) (by decide) (by decide)]
    · exact pyS_3 h8
  · rfl
theorem prS_3 {u : Sto} {a j : Nat} (h8 : j ≠ 8) : ∀ k, prS u a k 3 j = u 3 j
  | 0 => rfl
  | k + 1 => by rw [prS, prR_3 h8, prS_3 h8 k]
theorem paS_3 {u : Sto} {j : Nat} (h8 : j ≠ 8) : ∀ k, paS u k 3 j = u 3 j
  | 0 => rfl
  | k + 1 => by rw [paS, prS_3 h8, paS_3 h8 k]
theorem sd1_3 {u : Sto} {j : Nat} (h : j ≠ 11) : sd1 u 3 j = u 3 j := su_slot h
theorem drS_3 {u : Sto} {a j : Nat} (h6 : j ≠ 6) (h7 : j ≠ 7) (h8 : j ≠ 8) (h11 : j ≠ 11) : drS u a 3 j = u 3 j := by
  unfold drS
  split
  · exact sd1_3 h11
  · show (if _ then _ else _ : Sto) 3 j = _
    split
    · rw [gvS_3 h6 h7 h8, sd1_3 h11, sd1_3 h11]
    · rw [sd1_3 h11, sd1_3 h11]
theorem daS_3 {u : Sto} {j : Nat} (h6 : j ≠ 6) (h7 : j ≠ 7) (h8 : j ≠ 8) (h11 : j ≠ 11) : ∀ k, daS u k 3 j = u 3 j
  | 0 => rfl
  | k + 1 => by
    rw [daS]
    split
    · rw [drS_3 h6 h7 h8 h11, daS_3 h6 h7 h8 h11 k]
    · exact daS_3 h6 h7 h8 h11 k
theorem tkS_now {u : Sto} {T : Nat} : tkS u T 3 10 = nI (aft (ix (u 3 10))) := by
  unfold tkS
  try dsimp only
  split
  · rw [daS_3 (by decide) (by decide) (by decide) (by decide), paS_3 (by decide), su_slot (by decide)]; exact su_same _ _ _ _
  · exact su_same _ _ _ _
theorem tkS_c {u : Sto} {T k : Nat} (h1 : k ≠ 4) (h2 : k ≠ 5) (h3 : k ≠ 8) (h4 : k ≠ 7) (h5 : k ≠ 3) (h6 : k ≠ 9) : tkS u T k = u k := by
  unfold tkS
  try dsimp only
  split
  · rw [daS_c h1 h2 h3 h4 h5 h6, paS_c h1 h2 h3 h4 h5, su_c h5, su_c h5]
  · rw [su_c h5]
theorem WI_tk {u : Sto} (h : WI u) {T : Nat} (hT : T ≤ 10) : WI (tkS u T) := by
  unfold tkS
  try dsimp only
  split
  · exact WI_da (WI_pa (WI_su (WI_su h _ (by decide)) _ (by decide)) T) T hT
  · exact WI_su h _ (by decide)
theorem paS_sim {w u : Sto} (h : sim w u) : ∀ k, sim (paS w k) (paS u k)
  | 0 => h
  | k + 1 => prS_sim (paS_sim h k) _ _
theorem daS_sim {w u : Sto} (h : sim w u) : ∀ k, sim (daS w k) (daS u k)
  | 0 => h
  | k + 1 => by
    have i := daS_sim h k
    rw [daS, daS, i.c 13 (by decide)]
    split
    · exact drS_sim i k
    · exact i
theorem tkS_sim {w u : Sto} (h : sim w u) (T : Nat) : sim (tkS w T) (tkS u T) := by
  unfold tkS
  try dsimp only
  rw [h.c 3 (by decide)]
  split
  · exact daS_sim (paS_sim (sim_su (sim_su h _ _ _) _ _ _) T) T
  · exact sim_su h _ _ _
def tcS (u : Sto) (T : Nat) : Nat → Sto
  | 0 => u
  | k + 1 => tkS (tcS u T k) T
theorem tc_inv {u : Sto} (h : WI u) {T : Nat} (hT : T ≤ 10) (ht : u 10 8 = nI T) {nw : Nat} (hn : nw < 168) (hnw : u 3 10 = nI nw) : ∀ k, WI (tcS u T k) ∧ tcS u T k 10 = u 10 ∧ ∃ n, n < 168 ∧ tcS u T k 3 10 = nI n
  | 0 => ⟨h, rfl, nw, hn, hnw⟩
  | k + 1 => by
    obtain ⟨i1, i2, n, i3, i4⟩ := tc_inv h hT ht hn hnw k
    exact ⟨WI_tk i1 hT, by rw [tcS, tkS_c (by decide) (by decide) (by decide) (by decide) (by decide) (by decide), i2], _, aft_lt _, tkS_now⟩
def ticR (u : Sto) (T pf pc : Nat) (n : Int32) : Res × Sto := if okN n (nI 1) (nI 400) then (.inl (some (.int (tcS (rmS u pf pc) T (ix n) 3 8 - u 3 8))), tcS (rmS u pf pc) T (ix n)) else (.inr iae, u)
set_option maxHeartbeats 1000000 in
theorem c_X10_ticks {E : EE} (T : Nat) (hT9 : T ≤ 10) (pf pc : Nat) (nw : Nat) (hn : nw < 168) (n : Int32) (u : Sto) (hw : WI u) (hT : u 10 8 = nI T) (hp : PI u pf pc) (hnw : u 3 10 = nI nw) : CtP E 9 1 yX10_ticks cX10_ticks 4 (some .int) [.ref (E.ad 0), .int n] u (PSp (ticR u T pf pc n)) := by
  refine ctp_of (by decide) (Nat.le_of_ble_eq_true rfl) (fun X h hR hrt htab hargs => ?_)
  refine g_iload_n h dX10_ticks_0 rfl rfl ?_
  refine g_iconst (v := nI 1) h dX10_ticks_1 (by decide) ?_
  refine g_sipush (v := nI 400) h dX10_ticks_2 (by decide) ?_
  refine g_nN h dX10_ticks_5 hR (by decide) (by omega) (fun hc5 => ?_) (fun hc5 => ?_)
  · exact psp (by rw [ticR, if_neg hc5]) (sim.refl _)
  obtain ⟨N, hN1, hN, eN, rfl⟩ := okN_k (by decide) hc5
  refine g_aload_n h dX10_ticks_8 rfl rfl ?_
  refine g_V h lv_X10_222_X10 sh_0 (by decide) rfl (c_X10_remember pf pc _ hp) (fitR hR (by decide) (by decide) (by omega)) rfl rfl (Nat.le_of_ble_eq_true rfl) dX10_ticks_9 ?_
  refine g_aload_n h dX10_ticks_12 rfl rfl ?_
  refine g_getR h fl_X10_20_9 sh_0 (by decide) rfl dX10_ticks_13 ?_
  refine g_getR h fl_X10_89_8 sh_2 (by decide) rfl dX10_ticks_16 ?_
  refine g_getI h fl_X10_263_6 sh_3 (by decide) rfl dX10_ticks_19 ?_
  refine g_top (y := u 3 8) (by rw [rmS_c (by decide) (by omega)]) ?_
  refine g_istore_n (ls' := [(0, _), (1, _), (2, _)]) h dX10_ticks_22 rfl (by decide) rfl rfl ?_
  refine g_iconst (v := nI 0) h dX10_ticks_23 (by decide) ?_
  refine g_istore_n (ls' := [(0, _), (1, _), (2, _), (3, _)]) h dX10_ticks_24 rfl (by decide) rfl rfl ?_
  have LP : ∀ j k : Nat, ∀ w : Sto, sim w (tcS (rmS u pf pc) T k) → N < k + j → k ≤ N → G E X (QMP E X (PSp (ticR u T pf pc (nI N))) 1) 4 0 25 [(0, .ref (E.ad 0)), (1, .int (nI N)), (2, .int (u 3 8)), (3, .int (nI k))] [] (w) := by
    intro j
    induction j with
    | zero => intro k w hs h1 h2; omega
    | succ j ih =>
      intro k w hs h1 h2
      obtain ⟨i1, i2, n9, hn9, i4⟩ := tc_inv (WI_rm hw pf pc) hT9 (by rw [rmS_c (by decide) (by omega)]; exact hT) hn (by rw [rmS_c (by decide) (by omega)]; exact hnw) k
      refine g_iload_n h dX10_ticks_25 rfl rfl ?_
      refine g_iload_n h dX10_ticks_26 rfl rfl ?_
      refine g_icmp_ge (tgt := 43) h dX10_ticks_27 (by decide) (fun c27 => ?_) (fun c27 => ?_)
      · have n27 := le_n (by omega) (by omega) (show nI (N) ≤ nI (k) from c27)
        obtain rfl : N = k := by omega
        refine g_aload_n h dX10_ticks_43 rfl rfl ?_
        refine g_getR h fl_X10_20_9 sh_0 (by decide) rfl dX10_ticks_44 ?_
        refine g_getR h fl_X10_89_8 sh_2 (by decide) rfl dX10_ticks_47 ?_
        refine g_getI h fl_X10_263_6 sh_3 (by decide) rfl dX10_ticks_50 ?_
        refine g_top (y := tcS (rmS u pf pc) T N 3 8) (by rw [hs.c 3 (by decide)]) ?_
        refine g_iload_n h dX10_ticks_53 rfl rfl ?_
        refine g_isub h dX10_ticks_54 ?_
        exact g_iretP h hrt dX10_ticks_55 (by omega) (psp (by rw [ticR, if_pos hc5, eN]) hs)
      · have n27 := nle_n (by omega) (by omega) (show ¬ nI (N) ≤ nI (k) from c27)
        refine g_aload_n h dX10_ticks_30 rfl rfl ?_
        refine g_getR h fl_X10_20_9 sh_0 (by decide) rfl dX10_ticks_31 ?_
        refine g_VP h lv_X10_266_X9 sh_2 (by decide) rfl (c_X9_tickOn T hT9 n9 hn9 _ (WI_sim hs i1) (by rw [hs.c 10 (by decide), i2, rmS_c (by decide) (by omega)]; exact hT) (by rw [hs.c 3 (by decide)]; exact i4)) ps_nx (fitR hR (by decide) (by decide) (by omega)) rfl rfl (Nat.le_of_ble_eq_true rfl) dX10_ticks_34 (fun v34 u34 hs34 => ?_)
        obtain ⟨hv34, hs34⟩ := hs34
        cases hv34
        refine g_iinc (v := nI (k + 1)) (ls' := [(0, _), (1, _), (2, _), (3, _)]) h dX10_ticks_37 rfl (nI_1 k) (by decide) rfl rfl ?_
        refine g_goto (tgt := 25) h dX10_ticks_40 (by decide) ?_
        exact ih (k + 1) _ (hs34.trans (tkS_sim hs T)) (by omega) (by omega)
  exact LP (N + 1) (0) _ (sim.refl _) (by omega) (by omega)
  
set_option maxHeartbeats 1000000 in
theorem c_X10_count {E : EE} (x : Int32) (u : Sto) : Ct E 3 0 yX10_count cX10_count 2 (some .int) [.ref (E.ad 0), .int x] u (.inl (some (.int (cntV u x)))) (u) := by
  refine ct_of (by decide) (Nat.le_of_ble_eq_true rfl) (fun X h hR hrt htab hargs hini => ?_)
  refine g_iload_n h dX10_count_0 rfl rfl ?_
  refine g_swV (v := nI 0) (i := 0) (tgt := 80) h dX10_count_1 (by decide) (by decide) rfl (by decide) (fun e1_0 => ?_) (fun e1_0 => ?_)
  · subst e1_0
    refine g_aload_n h dX10_count_80 rfl rfl ?_
    refine g_getR h fl_X10_20_9 sh_0 (by decide) rfl dX10_count_81 ?_
    refine g_getR h fl_X10_97_8 sh_2 (by decide) rfl dX10_count_84 ?_
    refine g_getI h fl_X10_340_4 sh_10 (by decide) rfl dX10_count_87 ?_
    exact g_iret h hrt dX10_count_90 (by omega) (by rw [cntV, if_pos rfl]) rfl
  refine g_swV (v := nI 1) (i := 1) (tgt := 91) h dX10_count_1 (by decide) (by decide) rfl (by decide) (fun e1_1 => ?_) (fun e1_1 => ?_)
  · subst e1_1
    refine g_aload_n h dX10_count_91 rfl rfl ?_
    refine g_getR h fl_X10_20_9 sh_0 (by decide) rfl dX10_count_92 ?_
    refine g_getR h fl_X10_97_8 sh_2 (by decide) rfl dX10_count_95 ?_
    refine g_getI h fl_X10_121_4 sh_10 (by decide) rfl dX10_count_98 ?_
    exact g_iret h hrt dX10_count_101 (by omega) (by rw [cntV, if_neg (by decide), if_pos rfl]) rfl
  refine g_swV (v := nI 2) (i := 2) (tgt := 102) h dX10_count_1 (by decide) (by decide) rfl (by decide) (fun e1_2 => ?_) (fun e1_2 => ?_)
  · subst e1_2
    refine g_aload_n h dX10_count_102 rfl rfl ?_
    refine g_getR h fl_X10_20_9 sh_0 (by decide) rfl dX10_count_103 ?_
    refine g_getR h fl_X10_47_8 sh_2 (by decide) rfl dX10_count_106 ?_
    refine g_getI h fl_X10_140_2 sh_19 (by decide) rfl dX10_count_109 ?_
    exact g_iret h hrt dX10_count_112 (by omega) (by rw [cntV, if_neg (by decide), if_neg (by decide), if_pos rfl]) rfl
  refine g_swV (v := nI 3) (i := 3) (tgt := 113) h dX10_count_1 (by decide) (by decide) rfl (by decide) (fun e1_3 => ?_) (fun e1_3 => ?_)
  · subst e1_3
    refine g_aload_n h dX10_count_113 rfl rfl ?_
    refine g_getR h fl_X10_20_9 sh_0 (by decide) rfl dX10_count_114 ?_
    refine g_getR h fl_X10_89_8 sh_2 (by decide) rfl dX10_count_117 ?_
    refine g_getI h fl_X10_381_6 sh_3 (by decide) rfl dX10_count_120 ?_
    exact g_iret h hrt dX10_count_123 (by omega) (by rw [cntV, if_neg (by decide), if_neg (by decide), if_neg (by decide), if_pos rfl]) rfl
  refine g_swV (v := nI 4) (i := 4) (tgt := 124) h dX10_count_1 (by decide) (by decide) rfl (by decide) (fun e1_4 => ?_) (fun e1_4 => ?_)
  · subst e1_4
    refine g_aload_n h dX10_count_124 rfl rfl ?_
    refine g_getR h fl_X10_20_9 sh_0 (by decide) rfl dX10_count_125 ?_
    refine g_getR h fl_X10_89_8 sh_2 (by decide) rfl dX10_count_128 ?_
    refine g_getI h fl_X10_384_6 sh_3 (by decide) rfl dX10_count_131 ?_
    exact g_iret h hrt dX10_count_134 (by omega) (by rw [cntV, if_neg (by decide), if_neg (by decide), if_neg (by decide), if_neg (by decide), if_pos rfl]) rfl
  refine g_swV (v := nI 5) (i := 5) (tgt := 135) h dX10_count_1 (by decide) (by decide) rfl (by decide) (fun e1_5 => ?_) (fun e1_5 => ?_)
  · subst e1_5
    refine g_aload_n h dX10_count_135 rfl rfl ?_
    refine g_getR h fl_X10_20_9 sh_0 (by decide) rfl dX10_count_136 ?_
    refine g_getR h fl_X10_89_8 sh_2 (by decide) rfl dX10_count_139 ?_
    refine g_getI h fl_X10_263_6 sh_3 (by decide) rfl dX10_count_142 ?_
    exact g_iret h hrt dX10_count_145 (by omega) (by rw [cntV, if_neg (by decide), if_neg (by decide), if_neg (by decide), if_neg (by decide), if_neg (by decide), if_pos rfl]) rfl
  refine g_swV (v := nI 6) (i := 6) (tgt := 146) h dX10_count_1 (by decide) (by decide) rfl (by decide) (fun e1_6 => ?_) (fun e1_6 => ?_)
  · subst e1_6
    refine g_aload_n h dX10_count_146 rfl rfl ?_
    refine g_getR h fl_X10_20_9 sh_0 (by decide) rfl dX10_count_147 ?_
    refine g_getR h fl_X10_89_8 sh_2 (by decide) rfl dX10_count_150 ?_
    refine g_getR h fl_X10_146_6 sh_3 (by decide) rfl dX10_count_153 ?_
    refine g_S h ls_X10_387 (c_X10_sumOf_7 _) (fitR hR (by decide) (by decide) (by omega)) rfl rfl (Nat.le_of_ble_eq_true rfl) dX10_count_156 ?_
    exact g_iret h hrt dX10_count_159 (by omega) (by rw [cntV, if_neg (by decide), if_neg (by decide), if_neg (by decide), if_neg (by decide), if_neg (by decide), if_neg (by decide), if_pos rfl]) rfl
  refine g_swV (v := nI 7) (i := 7) (tgt := 160) h dX10_count_1 (by decide) (by decide) rfl (by decide) (fun e1_7 => ?_) (fun e1_7 => ?_)
  · subst e1_7
    refine g_aload_n h dX10_count_160 rfl rfl ?_
    refine g_getR h fl_X10_20_9 sh_0 (by decide) rfl dX10_count_161 ?_
    refine g_getR h fl_X10_97_8 sh_2 (by decide) rfl dX10_count_164 ?_
    refine g_getI h fl_X10_391_4 sh_10 (by decide) rfl dX10_count_167 ?_
    exact g_iret h hrt dX10_count_170 (by omega) (by rw [cntV, if_neg (by decide), if_neg (by decide), if_neg (by decide), if_neg (by decide), if_neg (by decide), if_neg (by decide), if_neg (by decide), if_pos rfl]) rfl
  refine g_swV (v := nI 8) (i := 8) (tgt := 171) h dX10_count_1 (by decide) (by decide) rfl (by decide) (fun e1_8 => ?_) (fun e1_8 => ?_)
  · subst e1_8
    refine g_aload_n h dX10_count_171 rfl rfl ?_
    refine g_getR h fl_X10_20_9 sh_0 (by decide) rfl dX10_count_172 ?_
    refine g_iconst (v := -1) h dX10_count_175 (by decide) ?_
    refine g_V h lv_X10_164_X9 sh_2 (by decide) rfl (c_X9_livedIn _ _) (fitR hR (by decide) (by decide) (by omega)) rfl rfl (Nat.le_of_ble_eq_true rfl) dX10_count_176 ?_
    exact g_iret h hrt dX10_count_179 (by omega) (by rw [cntV, if_neg (by decide), if_neg (by decide), if_neg (by decide), if_neg (by decide), if_neg (by decide), if_neg (by decide), if_neg (by decide), if_neg (by decide), if_pos rfl]; rfl) rfl
  refine g_swV (v := nI 9) (i := 9) (tgt := 180) h dX10_count_1 (by decide) (by decide) rfl (by decide) (fun e1_9 => ?_) (fun e1_9 => ?_)
  · subst e1_9
    refine g_aload_n h dX10_count_180 rfl rfl ?_
    refine g_getR h fl_X10_20_9 sh_0 (by decide) rfl dX10_count_181 ?_
    refine g_V h lv_X10_394_X9 sh_2 (by decide) rfl (c_X9_subletRooms _) (fitR hR (by decide) (by decide) (by omega)) rfl rfl (Nat.le_of_ble_eq_true rfl) dX10_count_184 ?_
    exact g_iret h hrt dX10_count_187 (by omega) (by rw [cntV, if_neg (by decide), if_neg (by decide), if_neg (by decide), if_neg (by decide), if_neg (by decide), if_neg (by decide), if_neg (by decide), if_neg (by decide), if_neg (by decide), if_pos rfl]) rfl
  refine g_swV (v := nI 10) (i := 10) (tgt := 188) h dX10_count_1 (by decide) (by decide) rfl (by decide) (fun e1_10 => ?_) (fun e1_10 => ?_)
  · subst e1_10
    refine g_aload_n h dX10_count_188 rfl rfl ?_
    refine g_getR h fl_X10_20_9 sh_0 (by decide) rfl dX10_count_189 ?_
    refine g_getR h fl_X10_89_8 sh_2 (by decide) rfl dX10_count_192 ?_
    refine g_getR h fl_X10_187_6 sh_3 (by decide) rfl dX10_count_195 ?_
    refine g_S h ls_X10_387 (c_X10_sumOf_6 _) (fitR hR (by decide) (by decide) (by omega)) rfl rfl (Nat.le_of_ble_eq_true rfl) dX10_count_198 ?_
    exact g_iret h hrt dX10_count_201 (by omega) (by rw [cntV, if_neg (by decide), if_neg (by decide), if_neg (by decide), if_neg (by decide), if_neg (by decide), if_neg (by decide), if_neg (by decide), if_neg (by decide), if_neg (by decide), if_neg (by decide), if_pos rfl]) rfl
  refine g_swV (v := nI 11) (i := 11) (tgt := 202) h dX10_count_1 (by decide) (by decide) rfl (by decide) (fun e1_11 => ?_) (fun e1_11 => ?_)
  · subst e1_11
    refine g_aload_n h dX10_count_202 rfl rfl ?_
    refine g_getR h fl_X10_20_9 sh_0 (by decide) rfl dX10_count_203 ?_
    refine g_getR h fl_X10_97_8 sh_2 (by decide) rfl dX10_count_206 ?_
    refine g_getI h fl_X10_397_4 sh_10 (by decide) rfl dX10_count_209 ?_
    exact g_iret h hrt dX10_count_212 (by omega) (by rw [cntV, if_neg (by decide), if_neg (by decide), if_neg (by decide), if_neg (by decide), if_neg (by decide), if_neg (by decide), if_neg (by decide), if_neg (by decide), if_neg (by decide), if_neg (by decide), if_neg (by decide), if_pos rfl]) rfl
  refine g_swV (v := nI 12) (i := 12) (tgt := 213) h dX10_count_1 (by decide) (by decide) rfl (by decide) (fun e1_12 => ?_) (fun e1_12 => ?_)
  · subst e1_12
    refine g_aload_n h dX10_count_213 rfl rfl ?_
    refine g_getR h fl_X10_20_9 sh_0 (by decide) rfl dX10_count_214 ?_
    refine g_getR h fl_X10_97_8 sh_2 (by decide) rfl dX10_count_217 ?_
    refine g_getI h fl_X10_400_4 sh_10 (by decide) rfl dX10_count_220 ?_
    exact g_iret h hrt dX10_count_223 (by omega) (by rw [cntV, if_neg (by decide), if_neg (by decide), if_neg (by decide), if_neg (by decide), if_neg (by decide), if_neg (by decide), if_neg (by decide), if_neg (by decide), if_neg (by decide), if_neg (by decide), if_neg (by decide), if_neg (by decide), if_pos rfl]) rfl
  refine g_swV (v := nI 13) (i := 13) (tgt := 224) h dX10_count_1 (by decide) (by decide) rfl (by decide) (fun e1_13 => ?_) (fun e1_13 => ?_)
  · subst e1_13
    refine g_aload_n h dX10_count_224 rfl rfl ?_
    refine g_getR h fl_X10_20_9 sh_0 (by decide) rfl dX10_count_225 ?_
    refine g_getR h fl_X10_89_8 sh_2 (by decide) rfl dX10_count_228 ?_
    refine g_getI h fl_X10_349_6 sh_3 (by decide) rfl dX10_count_231 ?_
    exact g_iret h hrt dX10_count_234 (by omega) (by rw [cntV, if_neg (by decide), if_neg (by decide), if_neg (by decide), if_neg (by decide), if_neg (by decide), if_neg (by decide), if_neg (by decide), if_neg (by decide), if_neg (by decide), if_neg (by decide), if_neg (by decide), if_neg (by decide), if_neg (by decide), if_pos rfl]) rfl
  refine g_swV (v := nI 14) (i := 14) (tgt := 235) h dX10_count_1 (by decide) (by decide) rfl (by decide) (fun e1_14 => ?_) (fun e1_14 => ?_)
  · subst e1_14
    refine g_aload_n h dX10_count_235 rfl rfl ?_
    refine g_getR h fl_X10_20_9 sh_0 (by decide) rfl dX10_count_236 ?_
    refine g_getR h fl_X10_97_8 sh_2 (by decide) rfl dX10_count_239 ?_
    refine g_getR h fl_X10_190_4 sh_10 (by decide) rfl dX10_count_242 ?_
    refine g_S h ls_X10_387 (c_X10_sumOf_14 _) (fitR hR (by decide) (by decide) (by omega)) rfl rfl (Nat.le_of_ble_eq_true rfl) dX10_count_245 ?_
    exact g_iret h hrt dX10_count_248 (by omega) (by rw [cntV, if_neg (by decide), if_neg (by decide), if_neg (by decide), if_neg (by decide), if_neg (by decide), if_neg (by decide), if_neg (by decide), if_neg (by decide), if_neg (by decide), if_neg (by decide), if_neg (by decide), if_neg (by decide), if_neg (by decide), if_neg (by decide), if_pos rfl]) rfl
  refine g_swV (v := nI 15) (i := 15) (tgt := 249) h dX10_count_1 (by decide) (by decide) rfl (by decide) (fun e1_15 => ?_) (fun e1_15 => ?_)
  · subst e1_15
    refine g_aload_n h dX10_count_249 rfl rfl ?_
    refine g_getI h fl_X10_129_9 sh_0 (by decide) rfl dX10_count_250 ?_
    exact g_iret h hrt dX10_count_253 (by omega) (by rw [cntV, if_neg (by decide), if_neg (by decide), if_neg (by decide), if_neg (by decide), if_neg (by decide), if_neg (by decide), if_neg (by decide), if_neg (by decide), if_neg (by decide), if_neg (by decide), if_neg (by decide), if_neg (by decide), if_neg (by decide), if_neg (by decide), if_neg (by decide), if_pos rfl]) rfl
  refine g_swO (tgt := 254) h dX10_count_1 (by have := lv_neT e1_0 (show (nI 0 : Int32).toInt = 0 by decide); have := lv_neT e1_1 (show (nI 1 : Int32).toInt = 1 by decide); have := lv_neT e1_2 (show (nI 2 : Int32).toInt = 2 by decide); have := lv_neT e1_3 (show (nI 3 : Int32).toInt = 3 by decide); have := lv_neT e1_4 (show (nI 4 : Int32).toInt = 4 by decide); have := lv_neT e1_5 (show (nI 5 : Int32).toInt = 5 by decide); have := lv_neT e1_6 (show (nI 6 : Int32).toInt = 6 by decide); have := lv_neT e1_7 (show (nI 7 : Int32).toInt = 7 by decide); have := lv_neT e1_8 (show (nI 8 : Int32).toInt = 8 by decide); have := lv_neT e1_9 (show (nI 9 : Int32).toInt = 9 by decide); have := lv_neT e1_10 (show (nI 10 : Int32).toInt = 10 by decide); have := lv_neT e1_11 (show (nI 11 : Int32).toInt = 11 by decide); have := lv_neT e1_12 (show (nI 12 : Int32).toInt = 12 by decide); have := lv_neT e1_13 (show (nI 13 : Int32).toInt = 13 by decide); have := lv_neT e1_14 (show (nI 14 : Int32).toInt = 14 by decide); have := lv_neT e1_15 (show (nI 15 : Int32).toInt = 15 by decide); omega) (by decide) ?_
  refine g_iconst (v := -1) h dX10_count_254 (by decide) ?_
  exact g_iret h hrt dX10_count_255 (by omega) (by rw [cntV, if_neg e1_0, if_neg e1_1, if_neg e1_2, if_neg e1_3, if_neg e1_4, if_neg e1_5, if_neg e1_6, if_neg e1_7, if_neg e1_8, if_neg e1_9, if_neg e1_10, if_neg e1_11, if_neg e1_12, if_neg e1_13, if_neg e1_14, if_neg e1_15]) rfl
def okB (u : Sto) (s k : Nat) : Bool := decide (okR (u 1 (s * k)))
def thF (u : Sto) (T : Nat) : Nat → Int32
  | 0 => guI u (-1) T
  | k + 1 => thF u T k &&& nbI u (ix (u 1 k))
def tU (u : Sto) : Sto := su u 0 1 (nI 0)
def thiR (u : Sto) (T tl : Nat) : Res × Sto := if allB (okB u 1) tl = true then if ¬ tl = 0 then (.inl (some (.int (thF u T tl))), tU u) else (.inr iae, tU u) else (.inr iae, tU u)
theorem allB_n {p : Nat → Bool} : ∀ {n : Nat}, ¬ allB p n = true → ∃ k, k < n ∧ ¬ p k = true
  | 0, h => absurd rfl h
  | n + 1, h => by
    by_cases q : allB p n = true
    · exact ⟨n, by omega, fun z => h (by rw [allB, q, z]; rfl)⟩
    · obtain ⟨k, h1, h2⟩ := allB_n q
      exact ⟨k, by omega, h2⟩
theorem okR_ix {x : Int32} (h : okR x) : x = nI (ix x) ∧ ix x < 168 := by
  obtain ⟨r, h1, h2, rfl⟩ := okR_n h
  rw [h2]; exact ⟨rfl, h1⟩
theorem tU_c {u : Sto} {k : Nat} (h : k ≠ 0) : tU u k = u k := su_c h
theorem thF_c {u v : Sto} {T : Nat} (h1 : v 1 = u 1) (h4 : v 4 = u 4) (h5 : v 5 = u 5) (h13 : v 13 = u 13) : ∀ k, thF v T k = thF u T k := by
  have hl : ∀ r, lvT v 3 r = lvT u 3 r := fun r => by unfold lvT; rw [show (3 + 1) = 4 from rfl, show (3 + 2) = 5 from rfl, h4, h5]
  have hg : ∀ k, guI v (-1) k = guI u (-1) k := fun k => by
    induction k with
    | zero => rfl
    | succ k ih => rw [guI, guI, ih, h13]
  intro k
  induction k with
  | zero => exact hg T
  | succ k ih => rw [thF, thF, ih, nbI, nbI, hl, hl, hl, h1]
theorem su_at1 {u : Sto} {k : Nat} : tU u 1 k = u 1 k := by rw [tU_c (by decide)]
set_option maxHeartbeats 1000000 in
theorem c_X10_thieves {E : EE} (T : Nat) (hT9 : T ≤ 10) (tl : Nat) (ht : tl ≤ 400) (u : Sto) (hT : u 10 8 = nI T) (htl : u 0 1 = nI tl) : CtP E 10 1 yX10_thieves cX10_thieves 4 (some .int) [.ref (E.ad 0)] u (PSp (thiR u T tl)) := by
  refine ctp_of (by decide) (Nat.le_of_ble_eq_true rfl) (fun X h hR hrt htab hargs => ?_)
  refine g_aload_n h dX10_thieves_0 rfl rfl ?_
  refine g_V h lv_X10_106_X10 sh_0 (by decide) rfl (c_X10_useTape _) (fitR hR (by decide) (by decide) (by omega)) rfl rfl (Nat.le_of_ble_eq_true rfl) dX10_thieves_1 ?_
  refine g_top htl ?_
  refine g_sto (u2 := tU u) rfl ?_
  refine g_istore_n (ls' := [(0, _), (1, _)]) h dX10_thieves_4 rfl (by decide) rfl rfl ?_
  refine g_aload_n h dX10_thieves_5 rfl rfl ?_
  refine g_iload_n h dX10_thieves_6 rfl rfl ?_
  refine g_iconst (v := nI 1) h dX10_thieves_7 (by decide) ?_
  by_cases hA : allB (okB u 1) tl = true
  case neg =>
    obtain ⟨k0, hk0, hb0⟩ := allB_n hA
    exact g_VXP h lv_X10_330_X10 lv_X10_330_X10_p sh_0 (by decide) rfl (c_X10_needAllRooms_1x tl ht k0 _ hk0 (fun q => hb0 (decide_eq_true (by rw [Nat.one_mul, ← su_at1 (u := u)]; exact q)))) (fitR hR (by decide) (by decide) (by omega)) rfl rfl (Nat.le_of_ble_eq_true rfl) dX10_thieves_8 htab (by omega) (psp (by rw [thiR, if_neg hA]) (sim.refl _))
  refine g_V h lv_X10_330_X10 sh_0 (by decide) rfl (c_X10_needAllRooms_1 tl ht _ (fun k hk => by rw [su_at1]; have := of_decide_eq_true (allB_i.mp hA k hk); rw [Nat.one_mul] at this; exact this)) (fitR hR (by decide) (by decide) (by omega)) rfl rfl (Nat.le_of_ble_eq_true rfl) dX10_thieves_8 ?_
  refine g_iload_n h dX10_thieves_11 rfl rfl ?_
  refine g_if_ne (tgt := 26) h dX10_thieves_12 (by decide) (fun c12 => ?_) (fun c12 => ?_)
  · have n12 : ¬ tl = 0 := ne_n (show ¬ nI tl = nI 0 from c12)
    refine g_aload_n h dX10_thieves_26 rfl rfl ?_
    refine g_getR h fl_X10_20_9 sh_0 (by decide) rfl dX10_thieves_27 ?_
    refine g_iconst (v := -1) h dX10_thieves_30 (by decide) ?_
    refine g_V h lv_X10_280_X9 sh_2 (by decide) rfl (c_X9_grownUps T hT9 _ _ (by rw [tU_c (by decide)]; exact hT)) (fitR hR (by decide) (by decide) (by omega)) rfl rfl (Nat.le_of_ble_eq_true rfl) dX10_thieves_31 ?_
    refine g_istore_n (ls' := [(0, _), (1, _), (2, _)]) h dX10_thieves_34 rfl (by decide) rfl rfl ?_
    refine g_iconst (v := nI 0) h dX10_thieves_35 (by decide) ?_
    refine g_istore_n (ls' := [(0, _), (1, _), (2, _), (3, _)]) h dX10_thieves_36 rfl (by decide) rfl rfl ?_
    have LP : ∀ j k : Nat, tl < k + j → k ≤ tl → G E X (QMP E X (PSp (thiR u T tl)) 1) 4 0 37 [(0, .ref (E.ad 0)), (1, .int (nI tl)), (2, .int (thF (tU u) T k)), (3, .int (nI k))] [] (tU u) := by
      intro j
      induction j with
      | zero => intro k h1 h2; omega
      | succ j ih =>
        intro k h1 h2
        refine g_iload_n h dX10_thieves_37 rfl rfl ?_
        refine g_iload_n h dX10_thieves_38 rfl rfl ?_
        refine g_icmp_ge (tgt := 64) h dX10_thieves_39 (by decide) (fun c39 => ?_) (fun c39 => ?_)
        · have n39 := le_n (by omega) (by omega) (show nI (tl) ≤ nI (k) from c39)
          obtain rfl : tl = k := by omega
          refine g_iload_n h dX10_thieves_64 rfl rfl ?_
          exact g_iretP h hrt dX10_thieves_65 (by omega) (psp (by rw [thiR, if_pos hA, if_pos n12, thF_c (v := tU u) (u := u) (by rw [tU_c (by decide)]) (by rw [tU_c (by decide)]) (by rw [tU_c (by decide)]) (by rw [tU_c (by decide)])]) (sim.refl _))
        · have n39 := nle_n (by omega) (by omega) (show ¬ nI (tl) ≤ nI (k) from c39)
          have hq := okR_ix (of_decide_eq_true (allB_i.mp hA k n39))
          rw [Nat.one_mul] at hq
          refine g_iload_n h dX10_thieves_42 rfl rfl ?_
          refine g_aload_n h dX10_thieves_43 rfl rfl ?_
          refine g_getR h fl_X10_63_9 sh_0 (by decide) rfl dX10_thieves_44 ?_
          refine g_aload_n h dX10_thieves_47 rfl rfl ?_
          refine g_getR h fl_X10_9_9 sh_0 (by decide) rfl dX10_thieves_48 ?_
          refine g_iload_n h dX10_thieves_51 rfl rfl ?_
          refine g_iald h _ _ _ sh_1 (by decide) (by decide) rfl (by omega) dX10_thieves_52 ?_
          refine g_top (y := nI (ix (u 1 k))) (by rw [su_at1]; exact hq.1) ?_
          refine g_V h lv_X10_335_X5 sh_162 (by decide) rfl (c_X5_nearBy _ hq.2 _) (fitR hR (by decide) (by decide) (by omega)) rfl rfl (Nat.le_of_ble_eq_true rfl) dX10_thieves_53 ?_
          refine g_iand h dX10_thieves_56 ?_
          refine g_istore_n (ls' := [(0, _), (1, _), (2, _), (3, _)]) h dX10_thieves_57 rfl (by decide) rfl rfl ?_
          refine g_iinc (v := nI (k + 1)) (ls' := [(0, _), (1, _), (2, _), (3, _)]) h dX10_thieves_58 rfl (nI_1 k) (by decide) rfl rfl ?_
          refine g_goto (tgt := 37) h dX10_thieves_61 (by decide) ?_
          exact g_cv (by rw [thF, su_at1]) rfl (ih (k + 1) (by omega) (by omega))
    exact LP (tl + 1) (0) (by omega) (by omega)
    
  · have n12 : tl = 0 := eq_n (by omega) (by omega) (show nI tl = nI 0 from c12)
    exact g_throwWP h th_X10_333_118 dX10_thieves_15 dX10_thieves_18 dX10_thieves_19 dX10_thieves_22 dX10_thieves_25 htab (by rw [hR]; decide) (by rw [hR]; decide) (by rw [hR]; decide) (by rw [hR]; decide) (by omega) (psp (by rw [thiR, if_pos hA, if_neg (fun q => q n12)]; rfl) (sim.refl _))
def tnB (u : Sto) (T k : Nat) : Bool := decide (okN (u 1 (2 * k + 1) - nI 97) (nI 0) (nI T - nI 1))
def seB (u : Sto) (k : Nat) : Bool := decide (¬ lvT u 3 (ix (u 1 (2 * k))) = hmI u (ix (u 1 (2 * k + 1) - nI 97)))
def senR (u : Sto) (T tl : Nat) : Res × Sto := if tl % 2 = 0 then if allB (okB u 2) (tl / 2) = true then if allB (tnB u T) (tl / 2) = true then (.inl (some (.int (frs (seB u) nI (tl / 2) 0))), tU u) else (.inr iae, tU u) else (.inr iae, tU u) else (.inr iae, tU u)
theorem tn_97 {x : Int32} {T : Nat} (hT : T ≤ 10) (h : okN x (nI 0) (nI T - nI 1)) : x = nI (ix x) ∧ ix x < T := by
  by_cases h0 : T = 0
  · subst h0
    exact absurd h.2 (fun q => h.1 (Int32.lt_of_le_of_lt q (by decide)))
  · rw [pk_sub (by omega)] at h
    obtain ⟨k, hk, rfl⟩ := okN_n (by omega) h
    rw [ix_nI (by omega)]; exact ⟨rfl, by omega⟩
theorem lv_tU {u : Sto} {r : Nat} : lvT (tU u) 3 r = lvT u 3 r := by unfold lvT; rw [tU_c (by decide), tU_c (by decide)]
theorem hm_tU {u : Sto} {a : Nat} : hmI (tU u) a = hmI u a := by unfold hmI; rw [tU_c (by decide)]
set_option maxHeartbeats 1000000 in
theorem c_X10_seen {E : EE} (T : Nat) (hT9 : T ≤ 10) (tl : Nat) (ht : tl ≤ 400) (u : Sto) (hT : u 10 8 = nI T) (htl : u 0 1 = nI tl) : CtP E 10 1 yX10_seen cX10_seen 3 (some .int) [.ref (E.ad 0)] u (PSp (senR u T tl)) := by
  refine ctp_of (by decide) (Nat.le_of_ble_eq_true rfl) (fun X h hR hrt htab hargs => ?_)
  refine g_aload_n h dX10_seen_0 rfl rfl ?_
  refine g_V h lv_X10_106_X10 sh_0 (by decide) rfl (c_X10_useTape _) (fitR hR (by decide) (by decide) (by omega)) rfl rfl (Nat.le_of_ble_eq_true rfl) dX10_seen_1 ?_
  refine g_top htl ?_
  refine g_sto (u2 := tU u) rfl ?_
  refine g_istore_n (ls' := [(0, _), (1, _)]) h dX10_seen_4 rfl (by decide) rfl rfl ?_
  refine g_iload_n h dX10_seen_5 rfl rfl ?_
  refine g_iconst (v := nI 2) h dX10_seen_6 (by decide) ?_
  refine g_irem h dX10_seen_7 (by decide) ?_
  refine g_top (pk_rem (a := tl) (d := 2) (by omega) (by omega) (by omega)) ?_
  refine g_if_eq (tgt := 22) h dX10_seen_8 (by decide) (fun c8 => ?_) (fun c8 => ?_)
  · have n8 : tl % 2 = 0 := eq_n (by omega) (by omega) (show nI (tl % 2) = nI 0 from c8)
    refine g_aload_n h dX10_seen_22 rfl rfl ?_
    refine g_iload_n h dX10_seen_23 rfl rfl ?_
    refine g_iconst (v := nI 2) h dX10_seen_24 (by decide) ?_
    by_cases hA : allB (okB u 2) (tl / 2) = true
    case neg =>
      obtain ⟨k0, hk0, hb0⟩ := allB_n hA
      exact g_VXP h lv_X10_330_X10 lv_X10_330_X10_p sh_0 (by decide) rfl (c_X10_needAllRooms_2x tl ht k0 _ (by omega) (fun q => hb0 (decide_eq_true (by rw [← su_at1 (u := u)]; exact q)))) (fitR hR (by decide) (by decide) (by omega)) rfl rfl (Nat.le_of_ble_eq_true rfl) dX10_seen_25 htab (by omega) (psp (by rw [senR, if_pos n8, if_neg hA]) (sim.refl _))
    refine g_V h lv_X10_330_X10 sh_0 (by decide) rfl (c_X10_needAllRooms_2 tl ht _ (fun k hk => by rw [su_at1]; exact of_decide_eq_true (allB_i.mp hA k (by omega)))) (fitR hR (by decide) (by decide) (by omega)) rfl rfl (Nat.le_of_ble_eq_true rfl) dX10_seen_25 ?_
    refine g_iconst (v := nI 1) h dX10_seen_28 (by decide) ?_
    refine g_istore_n (ls' := [(0, _), (1, _), (2, _)]) h dX10_seen_29 rfl (by decide) rfl rfl ?_
    have LP : ∀ j k : Nat, allB (tnB u T) k = true → tl / 2 < k + j → k ≤ tl / 2 → G E X (QMP E X (PSp (senR u T tl)) 1) 3 0 30 [(0, .ref (E.ad 0)), (1, .int (nI tl)), (2, .int (nI (2 * k + 1)))] [] (tU u) := by
      intro j
      induction j with
      | zero => intro k hC0 h1 h2; omega
      | succ j ih =>
        intro k hC0 h1 h2
        refine g_iload_n h dX10_seen_30 rfl rfl ?_
        refine g_iload_n h dX10_seen_31 rfl rfl ?_
        refine g_icmp_ge (tgt := 66) h dX10_seen_32 (by decide) (fun c32 => ?_) (fun c32 => ?_)
        · have n32 := le_n (by omega) (by omega) (show nI (tl) ≤ nI (2 * k + 1) from c32)
          obtain rfl : k = tl / 2 := by omega
          refine g_iconst (v := nI 0) h dX10_seen_66 (by decide) ?_
          refine g_istore_n (ls' := [(0, _), (1, _), (2, _)]) h dX10_seen_67 rfl (by decide) rfl rfl ?_
          have hC : allB (tnB u T) (tl / 2) = true := hC0
          have LP2 : ∀ j k : Nat, frs (seB u) nI (tl / 2) 0 = frs (seB u) nI (tl / 2 - k) k → tl / 2 < k + j → k ≤ tl / 2 → G E X (QMP E X (PSp (senR u T tl)) 1) 3 0 68 [(0, .ref (E.ad 0)), (1, .int (nI tl)), (2, .int (nI (2 * k)))] [] (tU u) := by
            intro j
            induction j with
            | zero => intro k hf h1 h2; omega
            | succ j ih =>
              intro k hf h1 h2
              refine g_iload_n h dX10_seen_68 rfl rfl ?_
              refine g_iload_n h dX10_seen_69 rfl rfl ?_
              refine g_icmp_ge (tgt := 120) h dX10_seen_70 (by decide) (fun c70 => ?_) (fun c70 => ?_)
              · have n70 := le_n (by omega) (by omega) (show nI (tl) ≤ nI (2 * k) from c70)
                obtain rfl : k = tl / 2 := by omega
                rw [frs_e] at hf
                refine g_iconst (v := -1) h dX10_seen_120 (by decide) ?_
                exact g_iretP h hrt dX10_seen_121 (by omega) (psp (by rw [senR, if_pos n8, if_pos hA, if_pos hC, hf]) (sim.refl _))
              · have n70 := nle_n (by omega) (by omega) (show ¬ nI (tl) ≤ nI (2 * k) from c70)
                have hk2 : k < tl / 2 := by omega
                rw [frs_s hk2] at hf
                have hq := okR_ix (of_decide_eq_true (allB_i.mp hA k hk2))
                have ht9 := tn_97 hT9 (of_decide_eq_true (allB_i.mp hC k hk2))
                refine g_aload_n h dX10_seen_73 rfl rfl ?_
                refine g_getR h fl_X10_20_9 sh_0 (by decide) rfl dX10_seen_74 ?_
                refine g_getR h fl_X10_89_8 sh_2 (by decide) rfl dX10_seen_77 ?_
                refine g_aload_n h dX10_seen_80 rfl rfl ?_
                refine g_getR h fl_X10_9_9 sh_0 (by decide) rfl dX10_seen_81 ?_
                refine g_iload_n h dX10_seen_84 rfl rfl ?_
                refine g_iald h _ _ _ sh_1 (by decide) (by decide) rfl (by omega) dX10_seen_85 ?_
                refine g_top (y := nI (ix (u 1 (2 * k)))) (by rw [su_at1]; exact hq.1) ?_
                refine g_V h lv_X10_184_X7 sh_3 (by decide) rfl (c_X7_livesIn 3 (by decide) _ hq.2 _) (fitR hR (by decide) (by decide) (by omega)) rfl rfl (Nat.le_of_ble_eq_true rfl) dX10_seen_86 ?_
                rw [lv_tU]
                refine g_aload_n h dX10_seen_89 rfl rfl ?_
                refine g_getR h fl_X10_20_9 sh_0 (by decide) rfl dX10_seen_90 ?_
                refine g_aload_n h dX10_seen_93 rfl rfl ?_
                refine g_getR h fl_X10_9_9 sh_0 (by decide) rfl dX10_seen_94 ?_
                refine g_iload_n h dX10_seen_97 rfl rfl ?_
                refine g_iconst (v := nI 1) h dX10_seen_98 (by decide) ?_
                refine g_iadd h dX10_seen_99 ?_
                refine g_top (nI_add (2 * k) 1) ?_
                refine g_iald h _ _ _ sh_1 (by decide) (by decide) rfl (by omega) dX10_seen_100 ?_
                refine g_top su_at1 ?_
                refine g_bipush (v := nI 97) h dX10_seen_101 (by decide) ?_
                refine g_isub h dX10_seen_103 ?_
                refine g_top ht9.1 ?_
                refine g_V h lv_X10_161_X9 sh_2 (by decide) rfl (c_X9_homeOf _ (by omega) _) (fitR hR (by decide) (by decide) (by omega)) rfl rfl (Nat.le_of_ble_eq_true rfl) dX10_seen_104 ?_
                rw [hm_tU]
                refine g_icmp_eq (tgt := 114) h dX10_seen_107 (by decide) (fun c107 => ?_) (fun c107 => ?_)
                · have d107 : ¬ seB u k = true := fun q => (of_decide_eq_true q : ¬ _) c107
                  rw [if_neg d107] at hf
                  refine g_iinc (v := nI (2 * (k + 1))) (ls' := [(0, _), (1, _), (2, _)]) h dX10_seen_114 rfl (nI_add (2 * k) 2) (by decide) rfl rfl ?_
                  refine g_goto (tgt := 68) h dX10_seen_117 (by decide) ?_
                  exact ih (k + 1) hf (by omega) (by omega)
                · have d107 : seB u k = true := decide_eq_true c107
                  rw [if_pos d107] at hf
                  refine g_iload_n h dX10_seen_110 rfl rfl ?_
                  refine g_iconst (v := nI 2) h dX10_seen_111 (by decide) ?_
                  refine g_idiv h dX10_seen_112 (by decide) ?_
                  refine g_top (y := nI k) (by rw [pk_div (a := 2 * k) (d := 2) (by omega) (by omega) (by omega), show 2 * k / 2 = k by omega]) ?_
                  exact g_iretP h hrt dX10_seen_113 (by omega) (psp (by rw [senR, if_pos n8, if_pos hA, if_pos hC, hf]) (sim.refl _))
          exact LP2 (tl / 2 + 1) (0) rfl (by omega) (by omega)
          
        · have n32 := nle_n (by omega) (by omega) (show ¬ nI (tl) ≤ nI (2 * k + 1) from c32)
          have hk2 : k < tl / 2 := by omega
          refine g_aload_n h dX10_seen_35 rfl rfl ?_
          refine g_getR h fl_X10_9_9 sh_0 (by decide) rfl dX10_seen_36 ?_
          refine g_iload_n h dX10_seen_39 rfl rfl ?_
          refine g_iald h _ _ _ sh_1 (by decide) (by decide) rfl (by omega) dX10_seen_40 ?_
          refine g_top su_at1 ?_
          refine g_bipush (v := nI 97) h dX10_seen_41 (by decide) ?_
          refine g_isub h dX10_seen_43 ?_
          refine g_iconst (v := nI 0) h dX10_seen_44 (by decide) ?_
          refine g_aload_n h dX10_seen_45 rfl rfl ?_
          refine g_getR h fl_X10_20_9 sh_0 (by decide) rfl dX10_seen_46 ?_
          refine g_getR h fl_X10_97_8 sh_2 (by decide) rfl dX10_seen_49 ?_
          refine g_getI h fl_X10_340_4 sh_10 (by decide) rfl dX10_seen_52 ?_
          refine g_top (y := nI T) (by rw [tU_c (by decide)]; exact hT) ?_
          refine g_iconst (v := nI 1) h dX10_seen_55 (by decide) ?_
          refine g_isub h dX10_seen_56 ?_
          by_cases hB : tnB u T k = true
          case neg =>
            exact g_SXP h ls_X10_232 ls_X10_232_p (c_X10_needNumber_x _ _ _ _ (fun q => hB (decide_eq_true q))) (fitR hR (by decide) (by decide) (by omega)) rfl rfl (Nat.le_of_ble_eq_true rfl) dX10_seen_57 htab (by omega) (psp (by rw [senR, if_pos n8, if_pos hA, if_neg (allB_f hB hk2)]) (sim.refl _))
          refine g_S h ls_X10_232 (c_X10_needNumber_ok _ _ _ _ (of_decide_eq_true hB)) (fitR hR (by decide) (by decide) (by omega)) rfl rfl (Nat.le_of_ble_eq_true rfl) dX10_seen_57 ?_
          refine g_iinc (v := nI (2 * (k + 1) + 1)) (ls' := [(0, _), (1, _), (2, _)]) h dX10_seen_60 rfl (nI_add (2 * k + 1) 2) (by decide) rfl rfl ?_
          refine g_goto (tgt := 30) h dX10_seen_63 (by decide) ?_
          exact ih (k + 1) (by rw [allB, hC0, hB]; rfl) (by omega) (by omega)
    exact LP (tl / 2 + 1) (0) rfl (by omega) (by omega)
    
  · have n8 : ¬ tl % 2 = 0 := ne_n (show ¬ nI (tl % 2) = nI 0 from c8)
    exact g_throwWP h th_X10_338_118 dX10_seen_11 dX10_seen_14 dX10_seen_15 dX10_seen_18 dX10_seen_21 htab (by rw [hR]; decide) (by rw [hR]; decide) (by rw [hR]; decide) (by rw [hR]; decide) (by omega) (psp (by rw [senR, if_neg n8]; rfl) (sim.refl _))
