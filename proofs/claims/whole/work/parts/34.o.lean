theorem scr_f {k j : Nat} (h : k < 24 ∨ 25 < k ∧ k < 163) : scrB k j = false := by simp [scrB]; omega
theorem sim_cpc {w u : Sto} (h : sim w u) {t o N : Nat} (ht : t < 24 ∨ 25 < t ∧ t < 163) (ho : o < 24 ∨ 25 < o ∧ o < 163) : sim (sc w t (cpy (w o) (w t) N)) (sc u t (cpy (u o) (u t) N)) := by
  rw [h.cell o (fun j => scr_f ho), h.cell t (fun j => scr_f ht)]
  intro k j q
  unfold sc
  by_cases e : k = t
  · rw [if_pos e, if_pos e]
  · rw [if_neg e, if_neg e]; exact h k j q
theorem sim_suc {w u : Sto} (h : sim w u) {t i o j : Nat} (ho : o < 24 ∨ 25 < o ∧ o < 163) : sim (su w t i (w o j)) (su u t i (u o j)) := by
  rw [h.cell o (fun j => scr_f ho)]
  exact sim_su h _ _ _
theorem cpT_sim {w u : Sto} (h : sim w u) {t o : Nat} (ht : t + 6 < 24 ∨ 25 < t ∧ t + 6 < 163) (ho : o + 6 < 24 ∨ 25 < o ∧ o + 6 < 163) : sim (cpT w t o) (cpT u t o) := by
  have i1 := sim_cpc (N := 168) h (t := t + 1) (o := o + 1) (by omega) (by omega)
  have i2 := sim_cpc (N := 168) i1 (t := t + 2) (o := o + 2) (by omega) (by omega)
  have i3 := sim_cpc (N := 168) i2 (t := t + 3) (o := o + 3) (by omega) (by omega)
  have i4 := sim_cpc (N := 10) i3 (t := t + 4) (o := o + 4) (by omega) (by omega)
  have i5 := sim_cpc (N := 10) i4 (t := t + 5) (o := o + 5) (by omega) (by omega)
  have i6 := sim_cpc (N := 80) i5 (t := t + 6) (o := o + 6) (by omega) (by omega)
  exact sim_suc (o := o) (sim_suc (o := o) (sim_suc (o := o) (sim_suc (o := o) (sim_suc (o := o) (sim_suc (o := o) (i := 6) i6 (by omega)) (by omega)) (by omega)) (by omega)) (by omega)) (by omega)
theorem rmS_sim {w u : Sto} (h : sim w u) (pf pc : Nat) : sim (rmS w pf pc) (rmS u pf pc) := by
  unfold rmS
  have hi : (pf + pc) % 12 < 12 := Nat.mod_lt _ (by omega)
  have hj : ((pf + 1) % 12 + 11) % 12 < 12 := Nat.mod_lt _ (by omega)
  split
  · exact sim_su (cpT_sim (sim_su (sim_su h _ _ _) _ _ _) (by omega) (by omega)) _ _ _
  · exact sim_su (cpT_sim h (by omega) (by omega)) _ _ _
theorem rmS_c {u : Sto} {pf pc k : Nat} (h0 : k ≠ 0) (h : k < 75 ∨ 158 < k) : rmS u pf pc k = u k := by
  have hi : (pf + pc) % 12 < 12 := Nat.mod_lt _ (by omega)
  have hj : ((pf + 1) % 12 + 11) % 12 < 12 := Nat.mod_lt _ (by omega)
  unfold rmS
  split
  · rw [su_c h0, cpT_c (by omega), su_c h0, su_c h0]
  · rw [su_c h0, cpT_c (by omega)]
theorem WI_c {u v : Sto} (h : WI u) (h3 : v 3 = u 3) (h4 : v 4 = u 4) (h19 : v 19 = u 19) (h21 : v 21 = u 21) : WI v := ⟨law_c h.1 h19 h21, by rw [h4]; exact h.2.1, by rw [h3]; exact h.2.2⟩
theorem WI_rm {u : Sto} (h : WI u) (pf pc : Nat) : WI (rmS u pf pc) := WI_c h (rmS_c (by decide) (by omega)) (rmS_c (by decide) (by omega)) (rmS_c (by decide) (by omega)) (rmS_c (by decide) (by omega))
abbrev PI (u : Sto) (pf pc : Nat) : Prop := pf < 12 ∧ pc ≤ 12 ∧ u 0 8 = nI pf ∧ u 0 9 = nI pc
theorem PI_sim {w u : Sto} (h : sim w u) {pf pc : Nat} (q : PI u pf pc) : PI w pf pc := by rw [PI, h.c 0 (by decide)]; exact q
theorem c_X10_remember {E : EE} (pf pc : Nat) (u : Sto) (hp : PI u pf pc) : Ct E 4 0 yX10_remember cX10_remember 1 none [.ref (E.ad 0)] u (.inl none) (rmS u pf pc) := by
  obtain ⟨h1, h2, h3, h4⟩ := hp
  by_cases h : pc = 12
  · subst h; exact c_X10_remember_f pf h1 u h3 h4
  · exact c_X10_remember_n pf h1 pc (by omega) u h3 h4
theorem tn_ix {x : Int32} {n : Nat} (hn : n < 2 ^ 31) (h : tn x n) (h1 : ¬ x = -1) : x = nI (ix x) ∧ ix x < n := by
  rcases h with h | ⟨a, ha, rfl⟩
  · exact absurd h h1
  · rw [ix_nI (by omega)]; exact ⟨rfl, ha⟩
theorem sbS_4 {u : Sto} {r a o : Nat} {x : Int32} : sbS u r a o x 4 = u 4 := by
  unfold sbS
  rw [enT_c (by decide) (by decide), su_c (by decide), su_c (by decide), su_c (by decide), su_c (by decide)]
theorem sbS_sim {w u : Sto} (h : sim w u) (r a o : Nat) (x : Int32) : sim (sbS w r a o x) (sbS u r a o x) := by
  unfold sbS
  dsimp only
  rw [h.c 7 (by decide)]
  have i1 := sim_su h 7 a (u 7 a - x)
  rw [i1.c 7 (by decide)]
  have i2 := sim_su i1 7 o (su u 7 a (u 7 a - x) 7 o + mnI x (nI 9999 - u 7 o))
  rw [i2.c 3 (by decide)]
  exact enT_sim (sim_su (sim_su i2 _ _ _) _ _ _) _ _ _
theorem poS_sim {w u : Sto} (h : sim w u) (r o : Nat) : sim (poS w r o) (poS u r o) := by
  unfold poS poP
  rw [h.c 4 (by decide), h.c 14 (by decide)]
  split
  · exact ctT_sim (frT_sim h _) _ _ _
  · exact frT_sim h _
theorem poV_sim {w u : Sto} (h : sim w u) (r : Nat) : poV w r = poV u r := by
  unfold poV poP
  rw [h.c 4 (by decide), h.c 14 (by decide)]
def tkeR (u : Sto) (pf pc : Nat) (x y : Int32) : Res × Sto :=
  if okT u x then if okR y then if mtP u (ix x) (ix y) (u 7 (ix x)) then (.inl (some (.int (rtI (rmS u pf pc) (ix x) (ix y)))), gvS (rmS u pf pc) (ix x) (ix y) (nI 0)) else (.inr ise, u) else (.inr ioob, u) else (.inr ioob, u)
def leaR (u : Sto) (pf pc : Nat) (y : Int32) : Res × Sto :=
  if okR y then if ¬ u 4 (ix y) = -1 then (.inl (some (.int (u 4 (ix y)))), frT (rmS u pf pc) 3 (ix y)) else (.inr ise, u) else (.inr ioob, u)
def sblR (u : Sto) (pf pc : Nat) (y x z : Int32) : Res × Sto :=
  if okR y then if okT u x then if okN z (nI 0) (nI 999) then if msP u (ix y) (ix x) z then (.inl (some (.int (u 4 (ix y)))), sbS (rmS u pf pc) (ix y) (ix x) (ix (u 4 (ix y))) z) else (.inr ise, u) else (.inr iae, u) else (.inr ioob, u) else (.inr ioob, u)
def ensR (u : Sto) (pf pc : Nat) (y : Int32) : Res × Sto :=
  if okR y then if ¬ u 5 (ix y) = -1 then (.inl (some (.int (u 5 (ix y)))), su (rmS u pf pc) 5 (ix y) (-1)) else (.inr ise, u) else (.inr ioob, u)
def eviR (u : Sto) (pf pc : Nat) (y : Int32) : Res × Sto :=
  if okR y then if ¬ lvT u 3 (ix y) = -1 then if u 5 (ix y) = -1 then (.inl (some (.int (poV (rmS u pf pc) (ix y)))), poS (rmS u pf pc) (ix y) (ix (u 4 (ix y)))) else (.inl (some (.int (-1))), su (rmS u pf pc) 5 (ix y) (-1)) else (.inr ise, u) else (.inr ioob, u)
def caN (u : Sto) (r q : Nat) (n : Int32) : Int32 := mnI n (mnI (u 6 r) (nI 99 - u 6 q))
def caS (u : Sto) (r q : Nat) (c : Int32) : Sto := su (su u 6 r (u 6 r - c)) 6 q (su u 6 r (u 6 r - c) 6 q + c)
def carR (u : Sto) (pf pc : Nat) (x y z n : Int32) : Res × Sto :=
  if okT u x then if okR y then if okR z then if okN n (nI 1) (nI 99) then if ¬ y = z then if lvT u 3 (ix y) = x ∧ lvT u 3 (ix z) = x then (.inl (some (.int (caN u (ix y) (ix z) n))), caS (rmS u pf pc) (ix y) (ix z) (caN u (ix y) (ix z) n)) else (.inr ise, u) else (.inr iae, u) else (.inr iae, u) else (.inr ioob, u) else (.inr ioob, u) else (.inr ioob, u)
def swaR (u : Sto) (pf pc : Nat) (y z : Int32) : Res × Sto :=
  if okR y then if okR z then if ¬ y = z then if mwQ u (ix y) (ix z) then (.inl (some (.int (u 4 (ix z)))), ctT (ctT (rmS u pf pc) 3 (ix y) (ix (u 4 (ix z))) (nI 3)) 3 (ix z) (ix (u 4 (ix y))) (nI 3)) else (.inr ise, u) else (.inr iae, u) else (.inr ioob, u) else (.inr ioob, u)
set_option maxHeartbeats 1000000 in
theorem c_X10_take {E : EE} (T : Nat) (hT9 : T ≤ 10) (pf pc : Nat) (x y : Int32) (u : Sto) (hw : WI u) (hT : u 10 8 = nI T) (hp : PI u pf pc) : CtP E 9 1 yX10_take cX10_take 3 (some .int) [.ref (E.ad 0), .int x, .int y] u (PSp (tkeR u pf pc x y)) := by
  refine ctp_of (by decide) (Nat.le_of_ble_eq_true rfl) (fun X h hR hrt htab hargs => ?_)
  refine g_aload_n h dX10_take_0 rfl rfl ?_
  refine g_iload_n h dX10_take_1 rfl rfl ?_
  refine g_nT h dX10_take_2 hR (by decide) (by omega) ⟨hT9, hT⟩ (fun hc2 => ?_) (fun hc2 => ?_)
  · exact psp (by rw [tkeR, if_neg hc2]) (sim.refl _)
  obtain ⟨a, haT, ha, ea, rfl⟩ := okT_n hT9 hT hc2
  refine g_iload_n h dX10_take_5 rfl rfl ?_
  refine g_nR h dX10_take_6 hR (by decide) (by omega) (fun hc6 => ?_) (fun hc6 => ?_)
  · exact psp (by rw [tkeR, if_pos hc2, ea, if_neg hc6]) (sim.refl _)
  obtain ⟨r, hr, er, rfl⟩ := okR_n hc6
  refine g_aload_n h dX10_take_9 rfl rfl ?_
  refine g_getR h fl_X10_20_9 sh_0 (by decide) rfl dX10_take_10 ?_
  refine g_iload_n h dX10_take_13 rfl rfl ?_
  refine g_iload_n h dX10_take_14 rfl rfl ?_
  refine g_aload_n h dX10_take_15 rfl rfl ?_
  refine g_getR h fl_X10_20_9 sh_0 (by decide) rfl dX10_take_16 ?_
  refine g_getR h fl_X10_89_8 sh_2 (by decide) rfl dX10_take_19 ?_
  refine g_getR h fl_X10_146_6 sh_3 (by decide) rfl dX10_take_22 ?_
  refine g_iload_n h dX10_take_25 rfl rfl ?_
  refine g_iald h _ _ _ sh_7 (by decide) (by decide) rfl (by omega) dX10_take_26 ?_
  refine g_VP h lv_X10_214_X9 sh_2 (by decide) rfl (c_X9_mayTake a ha r hr _ _ hw.1) ps_nx (fitR hR (by decide) (by decide) (by omega)) rfl rfl (Nat.le_of_ble_eq_true rfl) dX10_take_27 (fun v27 u27 hs27 => ?_)
  obtain ⟨hv27, hs27⟩ := hs27
  cases hv27
  refine g_nA h dX10_take_30 hR (by decide) (by omega) (fun hc30 => ?_) (fun hc30 => ?_)
  · exact psp (by rw [tkeR, if_pos hc2, ea, if_pos hc6, er, if_neg hc30]) hs27
  refine g_aload_n h dX10_take_33 rfl rfl ?_
  refine g_V h lv_X10_222_X10 sh_0 (by decide) rfl (c_X10_remember pf pc _ (PI_sim hs27 hp)) (fitR hR (by decide) (by decide) (by omega)) rfl rfl (Nat.le_of_ble_eq_true rfl) dX10_take_34 ?_
  refine g_aload_n h dX10_take_37 rfl rfl ?_
  refine g_getR h fl_X10_20_9 sh_0 (by decide) rfl dX10_take_38 ?_
  refine g_iload_n h dX10_take_41 rfl rfl ?_
  refine g_iload_n h dX10_take_42 rfl rfl ?_
  refine g_iconst (v := nI 0) h dX10_take_43 (by decide) ?_
  refine g_VP h lv_X10_225_X9 sh_2 (by decide) rfl (c_X9_giveTo a ha r hr _ _ (WI_rm (WI_sim hs27 hw) pf pc)) ps_nx (fitR hR (by decide) (by decide) (by omega)) rfl rfl (Nat.le_of_ble_eq_true rfl) dX10_take_44 (fun v44 u44 hs44 => ?_)
  obtain ⟨hv44, hs44⟩ := hs44
  cases hv44
  refine g_top (rtI_sim (rmS_sim hs27 pf pc) a r) ?_
  exact g_iretP h hrt dX10_take_47 (by omega) (psp (by rw [tkeR, if_pos hc2, ea, if_pos hc6, er, if_pos hc30]) (hs44.trans (gvS_sim (rmS_sim hs27 pf pc) _ _ _)))
set_option maxHeartbeats 1000000 in
theorem c_X10_leave {E : EE} (T : Nat) (hT9 : T ≤ 10) (pf pc : Nat) (y : Int32) (u : Sto) (hw : WI u) (hT : u 10 8 = nI T) (hp : PI u pf pc) : CtP E 9 1 yX10_leave cX10_leave 3 (some .int) [.ref (E.ad 0), .int y] u (PSp (leaR u pf pc y)) := by
  refine ctp_of (by decide) (Nat.le_of_ble_eq_true rfl) (fun X h hR hrt htab hargs => ?_)
  refine g_iload_n h dX10_leave_0 rfl rfl ?_
  refine g_nR h dX10_leave_1 hR (by decide) (by omega) (fun hc1 => ?_) (fun hc1 => ?_)
  · exact psp (by rw [leaR, if_neg hc1]) (sim.refl _)
  obtain ⟨r, hr, er, rfl⟩ := okR_n hc1
  refine g_aload_n h dX10_leave_4 rfl rfl ?_
  refine g_getR h fl_X10_20_9 sh_0 (by decide) rfl dX10_leave_5 ?_
  refine g_getR h fl_X10_89_8 sh_2 (by decide) rfl dX10_leave_8 ?_
  refine g_getR h fl_X10_181_6 sh_3 (by decide) rfl dX10_leave_11 ?_
  refine g_iload_n h dX10_leave_14 rfl rfl ?_
  refine g_iald h _ _ _ sh_4 (by decide) (by decide) rfl (by omega) dX10_leave_15 ?_
  refine g_istore_n (ls' := [(0, _), (1, _), (2, _)]) h dX10_leave_16 rfl (by decide) rfl rfl ?_
  refine g_iload_n h dX10_leave_17 rfl rfl ?_
  refine g_iconst (v := -1) h dX10_leave_18 (by decide) ?_
  refine g_j2 27 (x := b2 (¬ u 4 r = -1)) ?_ (fun J27 => ?_)
  · refine g_nA h dX10_leave_27 hR (by decide) (by omega) (fun hc27 => ?_) (fun hc27 => ?_)
    · exact psp (by rw [leaR, if_pos hc1, er, if_neg hc27]) (sim.refl _)
    refine g_aload_n h dX10_leave_30 rfl rfl ?_
    refine g_V h lv_X10_222_X10 sh_0 (by decide) rfl (c_X10_remember pf pc _ hp) (fitR hR (by decide) (by decide) (by omega)) rfl rfl (Nat.le_of_ble_eq_true rfl) dX10_leave_31 ?_
    refine g_aload_n h dX10_leave_34 rfl rfl ?_
    refine g_getR h fl_X10_20_9 sh_0 (by decide) rfl dX10_leave_35 ?_
    refine g_getR h fl_X10_89_8 sh_2 (by decide) rfl dX10_leave_38 ?_
    refine g_iload_n h dX10_leave_41 rfl rfl ?_
    refine g_V h lv_X10_229_X7 sh_3 (by decide) rfl (c_X7_free 3 (by decide) r hr _ ((WI_rm hw pf pc).2.1 r hr)) (fitR hR (by decide) (by decide) (by omega)) rfl rfl (Nat.le_of_ble_eq_true rfl) dX10_leave_42 ?_
    refine g_iload_n h dX10_leave_45 rfl rfl ?_
    exact g_iretP h hrt dX10_leave_46 (by omega) (psp (by rw [leaR, if_pos hc1, er, if_pos hc27]) (sim.refl _))
  · refine g_icmp_eq (tgt := 26) h dX10_leave_19 (by decide) (fun c19 => ?_) (fun c19 => ?_)
    · refine g_iconst (v := nI 0) h dX10_leave_26 (by decide) ?_
      exact g_top (by simp_all [b2]) J27
    · refine g_iconst (v := nI 1) h dX10_leave_22 (by decide) ?_
      refine g_goto (tgt := 27) h dX10_leave_23 (by decide) ?_
      exact g_top (by simp_all [b2]) J27
set_option maxHeartbeats 1000000 in
theorem c_X10_sublet {E : EE} (T : Nat) (hT9 : T ≤ 10) (pf pc : Nat) (y x z : Int32) (u : Sto) (hw : WI u) (hT : u 10 8 = nI T) (hp : PI u pf pc) : CtP E 9 1 yX10_sublet cX10_sublet 4 (some .int) [.ref (E.ad 0), .int y, .int x, .int z] u (PSp (sblR u pf pc y x z)) := by
  refine ctp_of (by decide) (Nat.le_of_ble_eq_true rfl) (fun X h hR hrt htab hargs => ?_)
  refine g_iload_n h dX10_sublet_0 rfl rfl ?_
  refine g_nR h dX10_sublet_1 hR (by decide) (by omega) (fun hc1 => ?_) (fun hc1 => ?_)
  · exact psp (by rw [sblR, if_neg hc1]) (sim.refl _)
  obtain ⟨r, hr, er, rfl⟩ := okR_n hc1
  refine g_aload_n h dX10_sublet_4 rfl rfl ?_
  refine g_iload_n h dX10_sublet_5 rfl rfl ?_
  refine g_nT h dX10_sublet_6 hR (by decide) (by omega) ⟨hT9, hT⟩ (fun hc6 => ?_) (fun hc6 => ?_)
  · exact psp (by rw [sblR, if_pos hc1, er, if_neg hc6]) (sim.refl _)
  obtain ⟨a, haT, ha, ea, rfl⟩ := okT_n hT9 hT hc6
  refine g_iload_n h dX10_sublet_9 rfl rfl ?_
  refine g_iconst (v := nI 0) h dX10_sublet_10 (by decide) ?_
  refine g_sipush (v := nI 999) h dX10_sublet_11 (by decide) ?_
  refine g_nN h dX10_sublet_14 hR (by decide) (by omega) (fun hc14 => ?_) (fun hc14 => ?_)
  · exact psp (by rw [sblR, if_pos hc1, er, if_pos hc6, ea, if_neg hc14]) (sim.refl _)
  refine g_aload_n h dX10_sublet_17 rfl rfl ?_
  refine g_getR h fl_X10_20_9 sh_0 (by decide) rfl dX10_sublet_18 ?_
  refine g_iload_n h dX10_sublet_21 rfl rfl ?_
  refine g_iload_n h dX10_sublet_22 rfl rfl ?_
  refine g_iload_n h dX10_sublet_23 rfl rfl ?_
  refine g_VP h lv_X10_236_X9 sh_2 (by decide) rfl (c_X9_maySublet r hr a ha _ _ hw.1) ps_nx (fitR hR (by decide) (by decide) (by omega)) rfl rfl (Nat.le_of_ble_eq_true rfl) dX10_sublet_24 (fun v24 u24 hs24 => ?_)
  obtain ⟨hv24, hs24⟩ := hs24
  cases hv24
  refine g_nA h dX10_sublet_27 hR (by decide) (by omega) (fun hc27 => ?_) (fun hc27 => ?_)
  · exact psp (by rw [sblR, if_pos hc1, er, if_pos hc6, ea, if_pos hc14, if_neg hc27]) hs24
  have ho := tn_ix (by decide) (hw.2.1 r hr) hc27.1
  refine g_aload_n h dX10_sublet_30 rfl rfl ?_
  refine g_V h lv_X10_222_X10 sh_0 (by decide) rfl (c_X10_remember pf pc _ (PI_sim hs24 hp)) (fitR hR (by decide) (by decide) (by omega)) rfl rfl (Nat.le_of_ble_eq_true rfl) dX10_sublet_31 ?_
  refine g_aload_n h dX10_sublet_34 rfl rfl ?_
  refine g_getR h fl_X10_20_9 sh_0 (by decide) rfl dX10_sublet_35 ?_
  refine g_iload_n h dX10_sublet_38 rfl rfl ?_
  refine g_iload_n h dX10_sublet_39 rfl rfl ?_
  refine g_iload_n h dX10_sublet_40 rfl rfl ?_
  refine g_V h lv_X10_239_X9 sh_2 (by decide) rfl (c_X9_subletTo r hr a ha _ ho.2 _ _ (WI_rm (WI_sim hs24 hw) pf pc) (by rw [rmS_c (by decide) (by omega), hs24.c 4 (by decide)]; exact ho.1)) (fitR hR (by decide) (by decide) (by omega)) rfl rfl (Nat.le_of_ble_eq_true rfl) dX10_sublet_41 ?_
  refine g_aload_n h dX10_sublet_44 rfl rfl ?_
  refine g_getR h fl_X10_20_9 sh_0 (by decide) rfl dX10_sublet_45 ?_
  refine g_getR h fl_X10_89_8 sh_2 (by decide) rfl dX10_sublet_48 ?_
  refine g_getR h fl_X10_181_6 sh_3 (by decide) rfl dX10_sublet_51 ?_
  refine g_iload_n h dX10_sublet_54 rfl rfl ?_
  refine g_iald h _ _ _ sh_4 (by decide) (by decide) rfl (by omega) dX10_sublet_55 ?_
  refine g_top (y := u 4 r) (by show sbS _ _ _ _ _ 4 r = _; rw [sbS_4, rmS_c (by decide) (by omega), hs24.c 4 (by decide)]) ?_
  exact g_iretP h hrt dX10_sublet_56 (by omega) (psp (by rw [sblR, if_pos hc1, er, if_pos hc6, ea, if_pos hc14, if_pos hc27]) (sbS_sim (rmS_sim hs24 pf pc) _ _ _ _))
set_option maxHeartbeats 1000000 in
theorem c_X10_ends {E : EE} (T : Nat) (hT9 : T ≤ 10) (pf pc : Nat) (y : Int32) (u : Sto) (hw : WI u) (hT : u 10 8 = nI T) (hp : PI u pf pc) : CtP E 9 1 yX10_ends cX10_ends 3 (some .int) [.ref (E.ad 0), .int y] u (PSp (ensR u pf pc y)) := by
  refine ctp_of (by decide) (Nat.le_of_ble_eq_true rfl) (fun X h hR hrt htab hargs => ?_)
  refine g_iload_n h dX10_ends_0 rfl rfl ?_
  refine g_nR h dX10_ends_1 hR (by decide) (by omega) (fun hc1 => ?_) (fun hc1 => ?_)
  · exact psp (by rw [ensR, if_neg hc1]) (sim.refl _)
  obtain ⟨r, hr, er, rfl⟩ := okR_n hc1
  refine g_aload_n h dX10_ends_4 rfl rfl ?_
  refine g_getR h fl_X10_20_9 sh_0 (by decide) rfl dX10_ends_5 ?_
  refine g_getR h fl_X10_89_8 sh_2 (by decide) rfl dX10_ends_8 ?_
  refine g_getR h fl_X10_242_6 sh_3 (by decide) rfl dX10_ends_11 ?_
  refine g_iload_n h dX10_ends_14 rfl rfl ?_
  refine g_iald h _ _ _ sh_5 (by decide) (by decide) rfl (by omega) dX10_ends_15 ?_
  refine g_istore_n (ls' := [(0, _), (1, _), (2, _)]) h dX10_ends_16 rfl (by decide) rfl rfl ?_
  refine g_iload_n h dX10_ends_17 rfl rfl ?_
  refine g_iconst (v := -1) h dX10_ends_18 (by decide) ?_
  refine g_j2 27 (x := b2 (¬ u 5 r = -1)) ?_ (fun J27 => ?_)
  · refine g_nA h dX10_ends_27 hR (by decide) (by omega) (fun hc27 => ?_) (fun hc27 => ?_)
    · exact psp (by rw [ensR, if_pos hc1, er, if_neg hc27]) (sim.refl _)
    refine g_aload_n h dX10_ends_30 rfl rfl ?_
    refine g_V h lv_X10_222_X10 sh_0 (by decide) rfl (c_X10_remember pf pc _ hp) (fitR hR (by decide) (by decide) (by omega)) rfl rfl (Nat.le_of_ble_eq_true rfl) dX10_ends_31 ?_
    refine g_aload_n h dX10_ends_34 rfl rfl ?_
    refine g_getR h fl_X10_20_9 sh_0 (by decide) rfl dX10_ends_35 ?_
    refine g_getR h fl_X10_89_8 sh_2 (by decide) rfl dX10_ends_38 ?_
    refine g_getR h fl_X10_242_6 sh_3 (by decide) rfl dX10_ends_41 ?_
    refine g_iload_n h dX10_ends_44 rfl rfl ?_
    refine g_iconst (v := -1) h dX10_ends_45 (by decide) ?_
    refine g_iast h _ _ _ sh_5 (by decide) (by decide) rfl (by omega) dX10_ends_46 ?_
    refine g_iload_n h dX10_ends_47 rfl rfl ?_
    exact g_iretP h hrt dX10_ends_48 (by omega) (psp (by rw [ensR, if_pos hc1, er, if_pos hc27]) (sim.refl _))
  · refine g_icmp_eq (tgt := 26) h dX10_ends_19 (by decide) (fun c19 => ?_) (fun c19 => ?_)
    · refine g_iconst (v := nI 0) h dX10_ends_26 (by decide) ?_
      exact g_top (by simp_all [b2]) J27
    · refine g_iconst (v := nI 1) h dX10_ends_22 (by decide) ?_
      refine g_goto (tgt := 27) h dX10_ends_23 (by decide) ?_
      exact g_top (by simp_all [b2]) J27
set_option maxHeartbeats 1000000 in
theorem c_X10_evict {E : EE} (T : Nat) (hT9 : T ≤ 10) (pf pc : Nat) (y : Int32) (u : Sto) (hw : WI u) (hT : u 10 8 = nI T) (hp : PI u pf pc) : CtP E 9 1 yX10_evict cX10_evict 2 (some .int) [.ref (E.ad 0), .int y] u (PSp (eviR u pf pc y)) := by
  refine ctp_of (by decide) (Nat.le_of_ble_eq_true rfl) (fun X h hR hrt htab hargs => ?_)
  refine g_iload_n h dX10_evict_0 rfl rfl ?_
  refine g_nR h dX10_evict_1 hR (by decide) (by omega) (fun hc1 => ?_) (fun hc1 => ?_)
  · exact psp (by rw [eviR, if_neg hc1]) (sim.refl _)
  obtain ⟨r, hr, er, rfl⟩ := okR_n hc1
  refine g_aload_n h dX10_evict_4 rfl rfl ?_
  refine g_getR h fl_X10_20_9 sh_0 (by decide) rfl dX10_evict_5 ?_
  refine g_getR h fl_X10_89_8 sh_2 (by decide) rfl dX10_evict_8 ?_
  refine g_iload_n h dX10_evict_11 rfl rfl ?_
  refine g_V h lv_X10_184_X7 sh_3 (by decide) rfl (c_X7_livesIn 3 (by decide) _ (by omega) _) (fitR hR (by decide) (by decide) (by omega)) rfl rfl (Nat.le_of_ble_eq_true rfl) dX10_evict_12 ?_
  refine g_iconst (v := -1) h dX10_evict_15 (by decide) ?_
  refine g_j2 24 (x := b2 (¬ lvT u 3 r = -1)) ?_ (fun J24 => ?_)
  · refine g_nA h dX10_evict_24 hR (by decide) (by omega) (fun hc24 => ?_) (fun hc24 => ?_)
    · exact psp (by rw [eviR, if_pos hc1, er, if_neg hc24]) (sim.refl _)
    refine g_aload_n h dX10_evict_27 rfl rfl ?_
    refine g_V h lv_X10_222_X10 sh_0 (by decide) rfl (c_X10_remember pf pc _ hp) (fitR hR (by decide) (by decide) (by omega)) rfl rfl (Nat.le_of_ble_eq_true rfl) dX10_evict_28 ?_
    refine g_aload_n h dX10_evict_31 rfl rfl ?_
    refine g_getR h fl_X10_20_9 sh_0 (by decide) rfl dX10_evict_32 ?_
    refine g_getR h fl_X10_89_8 sh_2 (by decide) rfl dX10_evict_35 ?_
    refine g_getR h fl_X10_242_6 sh_3 (by decide) rfl dX10_evict_38 ?_
    refine g_iload_n h dX10_evict_41 rfl rfl ?_
    refine g_iald h _ _ _ sh_5 (by decide) (by decide) rfl (by omega) dX10_evict_42 ?_
    refine g_top (y := u 5 r) (by rw [rmS_c (by decide) (by omega)]) ?_
    refine g_iconst (v := -1) h dX10_evict_43 (by decide) ?_
    refine g_icmp_eq (tgt := 62) h dX10_evict_44 (by decide) (fun c44 => ?_) (fun c44 => ?_)
    · have ho := tn_ix (by decide) (hw.2.1 r hr) (fun q => hc24 (by rw [lvT, if_pos c44]; exact q))
      refine g_aload_n h dX10_evict_62 rfl rfl ?_
      refine g_getR h fl_X10_20_9 sh_0 (by decide) rfl dX10_evict_63 ?_
      refine g_iload_n h dX10_evict_66 rfl rfl ?_
      refine g_V h lv_X10_245_X9 sh_2 (by decide) rfl (c_X9_putOut r hr _ ho.2 _ (WI_rm hw pf pc) (by rw [rmS_c (by decide) (by omega)]; exact ho.1)) (fitR hR (by decide) (by decide) (by omega)) rfl rfl (Nat.le_of_ble_eq_true rfl) dX10_evict_67 ?_
      exact g_iretP h hrt dX10_evict_70 (by omega) (psp (by rw [eviR, if_pos hc1, er, if_pos hc24, if_pos c44]) (sim.refl _))
    · refine g_aload_n h dX10_evict_47 rfl rfl ?_
      refine g_getR h fl_X10_20_9 sh_0 (by decide) rfl dX10_evict_48 ?_
      refine g_getR h fl_X10_89_8 sh_2 (by decide) rfl dX10_evict_51 ?_
      refine g_getR h fl_X10_242_6 sh_3 (by decide) rfl dX10_evict_54 ?_
      refine g_iload_n h dX10_evict_57 rfl rfl ?_
      refine g_iconst (v := -1) h dX10_evict_58 (by decide) ?_
      refine g_iast h _ _ _ sh_5 (by decide) (by decide) rfl (by omega) dX10_evict_59 ?_
      refine g_iconst (v := -1) h dX10_evict_60 (by decide) ?_
      exact g_iretP h hrt dX10_evict_61 (by omega) (psp (by rw [eviR, if_pos hc1, er, if_pos hc24, if_neg c44]) (sim.refl _))
  · refine g_icmp_eq (tgt := 23) h dX10_evict_16 (by decide) (fun c16 => ?_) (fun c16 => ?_)
    · refine g_iconst (v := nI 0) h dX10_evict_23 (by decide) ?_
      exact g_top (by simp_all [b2]) J24
    · refine g_iconst (v := nI 1) h dX10_evict_19 (by decide) ?_
      refine g_goto (tgt := 24) h dX10_evict_20 (by decide) ?_
      exact g_top (by simp_all [b2]) J24
set_option maxHeartbeats 1000000 in
theorem c_X10_carry {E : EE} (T : Nat) (hT9 : T ≤ 10) (pf pc : Nat) (x y z n : Int32) (u : Sto) (hw : WI u) (hT : u 10 8 = nI T) (hp : PI u pf pc) : CtP E 9 1 yX10_carry cX10_carry 7 (some .int) [.ref (E.ad 0), .int x, .int y, .int z, .int n] u (PSp (carR u pf pc x y z n)) := by
  refine ctp_of (by decide) (Nat.le_of_ble_eq_true rfl) (fun X h hR hrt htab hargs => ?_)
  refine g_aload_n h dX10_carry_0 rfl rfl ?_
  refine g_iload_n h dX10_carry_1 rfl rfl ?_
  refine g_nT h dX10_carry_2 hR (by decide) (by omega) ⟨hT9, hT⟩ (fun hc2 => ?_) (fun hc2 => ?_)
  · exact psp (by rw [carR, if_neg hc2]) (sim.refl _)
  obtain ⟨a, haT, ha, ea, rfl⟩ := okT_n hT9 hT hc2
  refine g_iload_n h dX10_carry_5 rfl rfl ?_
  refine g_nR h dX10_carry_6 hR (by decide) (by omega) (fun hc6 => ?_) (fun hc6 => ?_)
  · exact psp (by rw [carR, if_pos hc2, if_neg hc6]) (sim.refl _)
  obtain ⟨r, hr, er, rfl⟩ := okR_n hc6
  refine g_iload_n h dX10_carry_9 rfl rfl ?_
  refine g_nR h dX10_carry_10 hR (by decide) (by omega) (fun hc10 => ?_) (fun hc10 => ?_)
  · exact psp (by rw [carR, if_pos hc2, if_pos hc6, er, if_neg hc10]) (sim.refl _)
  obtain ⟨q, hq, eq, rfl⟩ := okR_n hc10
  refine g_iload h dX10_carry_13 rfl ?_
  refine g_iconst (v := nI 1) h dX10_carry_15 (by decide) ?_
  refine g_bipush (v := nI 99) h dX10_carry_16 (by decide) ?_
  refine g_nN h dX10_carry_18 hR (by decide) (by omega) (fun hc18 => ?_) (fun hc18 => ?_)
  · exact psp (by rw [carR, if_pos hc2, if_pos hc6, er, if_pos hc10, eq, if_neg hc18]) (sim.refl _)
  refine g_iload_n h dX10_carry_21 rfl rfl ?_
  refine g_iload_n h dX10_carry_22 rfl rfl ?_
  refine g_nW h dX10_carry_23 hR (by decide) (by omega) (fun hc23 => ?_) (fun hc23 => ?_)
  · exact psp (by rw [carR, if_pos hc2, if_pos hc6, er, if_pos hc10, eq, if_pos hc18, if_neg hc23]) (sim.refl _)
  refine g_aload_n h dX10_carry_26 rfl rfl ?_
  refine g_getR h fl_X10_20_9 sh_0 (by decide) rfl dX10_carry_27 ?_
  refine g_getR h fl_X10_89_8 sh_2 (by decide) rfl dX10_carry_30 ?_
  refine g_iload_n h dX10_carry_33 rfl rfl ?_
  refine g_V h lv_X10_184_X7 sh_3 (by decide) rfl (c_X7_livesIn 3 (by decide) r hr _) (fitR hR (by decide) (by decide) (by omega)) rfl rfl (Nat.le_of_ble_eq_true rfl) dX10_carry_34 ?_
  refine g_iload_n h dX10_carry_37 rfl rfl ?_
  refine g_j2 61 (x := b2 (lvT u 3 r = nI a ∧ lvT u 3 q = nI a)) ?_ (fun J61 => ?_)
  · refine g_nA h dX10_carry_61 hR (by decide) (by omega) (fun hc61 => ?_) (fun hc61 => ?_)
    · exact psp (by rw [carR, if_pos hc2, if_pos hc6, er, if_pos hc10, eq, if_pos hc18, if_pos hc23, if_neg hc61]) (sim.refl _)
    refine g_aload_n h dX10_carry_64 rfl rfl ?_
    refine g_V h lv_X10_222_X10 sh_0 (by decide) rfl (c_X10_remember pf pc _ hp) (fitR hR (by decide) (by decide) (by omega)) rfl rfl (Nat.le_of_ble_eq_true rfl) dX10_carry_65 ?_
    refine g_aload_n h dX10_carry_68 rfl rfl ?_
    refine g_getR h fl_X10_20_9 sh_0 (by decide) rfl dX10_carry_69 ?_
    refine g_getR h fl_X10_89_8 sh_2 (by decide) rfl dX10_carry_72 ?_
    refine g_getR h fl_X10_187_6 sh_3 (by decide) rfl dX10_carry_75 ?_
    refine g_astore (ls' := [(0, _), (1, _), (2, _), (3, _), (4, _), (5, _)]) h dX10_carry_78 (by decide) rfl rfl ?_
    refine g_iload h dX10_carry_80 rfl ?_
    refine g_aload h dX10_carry_82 rfl ?_
    refine g_iload_n h dX10_carry_84 rfl rfl ?_
    refine g_iald h _ _ _ sh_6 (by decide) (by decide) rfl (by omega) dX10_carry_85 ?_
    refine g_top (y := u 6 r) (by rw [rmS_c (by decide) (by omega)]) ?_
    refine g_bipush (v := nI 99) h dX10_carry_86 (by decide) ?_
    refine g_aload h dX10_carry_88 rfl ?_
    refine g_iload_n h dX10_carry_90 rfl rfl ?_
    refine g_iald h _ _ _ sh_6 (by decide) (by decide) rfl (by omega) dX10_carry_91 ?_
    refine g_top (y := u 6 q) (by rw [rmS_c (by decide) (by omega)]) ?_
    refine g_isub h dX10_carry_92 ?_
    refine g_S h ls_X10_252 (c_J9_min_7cf53 _ _ _) (fitR hR (by decide) (by decide) (by omega)) rfl rfl (Nat.le_of_ble_eq_true rfl) dX10_carry_93 ?_
    refine g_S h ls_X10_252 (c_J9_min_7cf53 _ _ _) (fitR hR (by decide) (by decide) (by omega)) rfl rfl (Nat.le_of_ble_eq_true rfl) dX10_carry_96 ?_
    refine g_istore (ls' := [(0, _), (1, _), (2, _), (3, _), (4, _), (5, _), (6, _)]) h dX10_carry_99 (by decide) rfl rfl ?_
    refine g_aload h dX10_carry_101 rfl ?_
    refine g_iload_n h dX10_carry_103 rfl rfl ?_
    refine g_dup2 h dX10_carry_104 rfl rfl ?_
    refine g_iald h _ _ _ sh_6 (by decide) (by decide) rfl (by omega) dX10_carry_105 ?_
    refine g_iload h dX10_carry_106 rfl ?_
    refine g_isub h dX10_carry_108 ?_
    refine g_iast h _ _ _ sh_6 (by decide) (by decide) rfl (by omega) dX10_carry_109 ?_
    refine g_aload h dX10_carry_110 rfl ?_
    refine g_iload_n h dX10_carry_112 rfl rfl ?_
    refine g_dup2 h dX10_carry_113 rfl rfl ?_
    refine g_iald h _ _ _ sh_6 (by decide) (by decide) rfl (by omega) dX10_carry_114 ?_
    refine g_iload h dX10_carry_115 rfl ?_
    refine g_iadd h dX10_carry_117 ?_
    refine g_iast h _ _ _ sh_6 (by decide) (by decide) rfl (by omega) dX10_carry_118 ?_
    refine g_iload h dX10_carry_119 rfl ?_
    exact g_iretP h hrt dX10_carry_121 (by omega) (psp (by rw [carR, if_pos hc2, if_pos hc6, er, if_pos hc10, eq, if_pos hc18, if_pos hc23, if_pos hc61]; rfl) (sim.refl _))
  · refine g_icmp_ne (tgt := 60) h dX10_carry_38 (by decide) (fun c38 => ?_) (fun c38 => ?_)
    · refine g_iconst (v := nI 0) h dX10_carry_60 (by decide) ?_
      exact g_top (by simp_all [b2]) J61
    · refine g_aload_n h dX10_carry_41 rfl rfl ?_
      refine g_getR h fl_X10_20_9 sh_0 (by decide) rfl dX10_carry_42 ?_
      refine g_getR h fl_X10_89_8 sh_2 (by decide) rfl dX10_carry_45 ?_
      refine g_iload_n h dX10_carry_48 rfl rfl ?_
      refine g_V h lv_X10_184_X7 sh_3 (by decide) rfl (c_X7_livesIn 3 (by decide) q hq _) (fitR hR (by decide) (by decide) (by omega)) rfl rfl (Nat.le_of_ble_eq_true rfl) dX10_carry_49 ?_
      refine g_iload_n h dX10_carry_52 rfl rfl ?_
      refine g_icmp_ne (tgt := 60) h dX10_carry_53 (by decide) (fun c53 => ?_) (fun c53 => ?_)
      · refine g_iconst (v := nI 0) h dX10_carry_60 (by decide) ?_
        exact g_top (by simp_all [b2]) J61
      · refine g_iconst (v := nI 1) h dX10_carry_56 (by decide) ?_
        refine g_goto (tgt := 61) h dX10_carry_57 (by decide) ?_
        exact g_top (by simp_all [b2]) J61
set_option maxHeartbeats 1000000 in
theorem c_X10_swap {E : EE} (T : Nat) (hT9 : T ≤ 10) (pf pc : Nat) (y z : Int32) (u : Sto) (hw : WI u) (hT : u 10 8 = nI T) (hp : PI u pf pc) : CtP E 9 1 yX10_swap cX10_swap 5 (some .int) [.ref (E.ad 0), .int y, .int z] u (PSp (swaR u pf pc y z)) := by
  refine ctp_of (by decide) (Nat.le_of_ble_eq_true rfl) (fun X h hR hrt htab hargs => ?_)
  refine g_iload_n h dX10_swap_0 rfl rfl ?_
  refine g_nR h dX10_swap_1 hR (by decide) (by omega) (fun hc1 => ?_) (fun hc1 => ?_)
  · exact psp (by rw [swaR, if_neg hc1]) (sim.refl _)
  obtain ⟨r, hr, er, rfl⟩ := okR_n hc1
  refine g_iload_n h dX10_swap_4 rfl rfl ?_
  refine g_nR h dX10_swap_5 hR (by decide) (by omega) (fun hc5 => ?_) (fun hc5 => ?_)
  · exact psp (by rw [swaR, if_pos hc1, er, if_neg hc5]) (sim.refl _)
  obtain ⟨q, hq, eq, rfl⟩ := okR_n hc5
  refine g_iload_n h dX10_swap_8 rfl rfl ?_
  refine g_iload_n h dX10_swap_9 rfl rfl ?_
  refine g_nW h dX10_swap_10 hR (by decide) (by omega) (fun hc10 => ?_) (fun hc10 => ?_)
  · exact psp (by rw [swaR, if_pos hc1, er, if_pos hc5, eq, if_neg hc10]) (sim.refl _)
  refine g_aload_n h dX10_swap_13 rfl rfl ?_
  refine g_getR h fl_X10_20_9 sh_0 (by decide) rfl dX10_swap_14 ?_
  refine g_iload_n h dX10_swap_17 rfl rfl ?_
  refine g_iload_n h dX10_swap_18 rfl rfl ?_
  refine g_VP h lv_X10_257_X9 sh_2 (by decide) rfl (c_X9_maySwap r hr q hq _ hw) ps_nx (fitR hR (by decide) (by decide) (by omega)) rfl rfl (Nat.le_of_ble_eq_true rfl) dX10_swap_19 (fun v19 u19 hs19 => ?_)
  obtain ⟨hv19, hs19⟩ := hs19
  cases hv19
  refine g_nA h dX10_swap_22 hR (by decide) (by omega) (fun hc22 => ?_) (fun hc22 => ?_)
  · exact psp (by rw [swaR, if_pos hc1, er, if_pos hc5, eq, if_pos hc10, if_neg hc22]) hs19
  have ha := tn_ix (by decide) (hw.2.1 r hr) hc22.1
  have hb := tn_ix (by decide) (hw.2.1 q hq) hc22.2.1
  have hW := WI_rm (WI_sim hs19 hw) pf pc
  obtain ⟨ln, hln, hl⟩ := hW.2.2
  have hW2 := WI_ct hW r hb.2 (nI 3)
  obtain ⟨ln2, hln2, hl2⟩ := hW2.2.2
  refine g_aload_n h dX10_swap_25 rfl rfl ?_
  refine g_V h lv_X10_222_X10 sh_0 (by decide) rfl (c_X10_remember pf pc _ (PI_sim hs19 hp)) (fitR hR (by decide) (by decide) (by omega)) rfl rfl (Nat.le_of_ble_eq_true rfl) dX10_swap_26 ?_
  refine g_aload_n h dX10_swap_29 rfl rfl ?_
  refine g_getR h fl_X10_20_9 sh_0 (by decide) rfl dX10_swap_30 ?_
  refine g_getR h fl_X10_89_8 sh_2 (by decide) rfl dX10_swap_33 ?_
  refine g_getR h fl_X10_181_6 sh_3 (by decide) rfl dX10_swap_36 ?_
  refine g_iload_n h dX10_swap_39 rfl rfl ?_
  refine g_iald h _ _ _ sh_4 (by decide) (by decide) rfl (by omega) dX10_swap_40 ?_
  refine g_top (y := nI (ix (u 4 r))) (by rw [rmS_c (by decide) (by omega), hs19.c 4 (by decide)]; exact ha.1) ?_
  refine g_istore_n (ls' := [(0, _), (1, _), (2, _), (3, _)]) h dX10_swap_41 rfl (by decide) rfl rfl ?_
  refine g_aload_n h dX10_swap_42 rfl rfl ?_
  refine g_getR h fl_X10_20_9 sh_0 (by decide) rfl dX10_swap_43 ?_
  refine g_getR h fl_X10_89_8 sh_2 (by decide) rfl dX10_swap_46 ?_
  refine g_getR h fl_X10_181_6 sh_3 (by decide) rfl dX10_swap_49 ?_
  refine g_iload_n h dX10_swap_52 rfl rfl ?_
  refine g_iald h _ _ _ sh_4 (by decide) (by decide) rfl (by omega) dX10_swap_53 ?_
  refine g_top (y := nI (ix (u 4 q))) (by rw [rmS_c (by decide) (by omega), hs19.c 4 (by decide)]; exact hb.1) ?_
  refine g_istore (ls' := [(0, _), (1, _), (2, _), (3, _), (4, _)]) h dX10_swap_54 (by decide) rfl rfl ?_
  refine g_aload_n h dX10_swap_56 rfl rfl ?_
  refine g_getR h fl_X10_20_9 sh_0 (by decide) rfl dX10_swap_57 ?_
  refine g_getR h fl_X10_89_8 sh_2 (by decide) rfl dX10_swap_60 ?_
  refine g_iload_n h dX10_swap_63 rfl rfl ?_
  refine g_iload h dX10_swap_64 rfl ?_
  refine g_iconst (v := nI 3) h dX10_swap_66 (by decide) ?_
  refine g_V h lv_X10_260_X7 sh_3 (by decide) rfl (c_X7_comeTo 3 (by decide) r hr _ hb.2 _ ln hln _ hl (hW.2.1 r hr)) (fitR hR (by decide) (by decide) (by omega)) rfl rfl (Nat.le_of_ble_eq_true rfl) dX10_swap_67 ?_
  refine g_aload_n h dX10_swap_70 rfl rfl ?_
  refine g_getR h fl_X10_20_9 sh_0 (by decide) rfl dX10_swap_71 ?_
  refine g_getR h fl_X10_89_8 sh_2 (by decide) rfl dX10_swap_74 ?_
  refine g_iload_n h dX10_swap_77 rfl rfl ?_
  refine g_iload_n h dX10_swap_78 rfl rfl ?_
  refine g_iconst (v := nI 3) h dX10_swap_79 (by decide) ?_
  refine g_V h lv_X10_260_X7 sh_3 (by decide) rfl (c_X7_comeTo 3 (by decide) q hq _ ha.2 _ ln2 hln2 _ hl2 (hW2.2.1 q hq)) (fitR hR (by decide) (by decide) (by omega)) rfl rfl (Nat.le_of_ble_eq_true rfl) dX10_swap_80 ?_
  refine g_iload h dX10_swap_83 rfl ?_
  refine g_top hb.1.symm ?_
  exact g_iretP h hrt dX10_swap_85 (by omega) (psp (by rw [swaR, if_pos hc1, er, if_pos hc5, eq, if_pos hc10, if_pos hc22]) (ctT_sim (ctT_sim (rmS_sim hs19 pf pc) _ _ _) _ _ _))
