-- after: 9e.oi
/-- what an act of the model does beside the class's act p -/
def PMa (cd : String → Nat) (p : Res × Sto) (u : Sto) (pc T W : Nat) : Res → Sto → Prop := fun o t => ∃ x, o = .inl (some (.int x)) ∧ (match p.1 with
  | .inl w => w = some (.int x) ∧ ∃ g, J p.2 g T W ∧ (∀ j, tnJ j = false → g j = u 179 j) ∧ sim t (sc (rmM (su u 178 0 (nI 0)) pc) 179 g)
  | .inr Ex => sim t (su u 178 0 (nI (cd Ex))))
theorem pa_x {cd : String → Nat} {p : Res × Sto} {u t w : Sto} {x : Int32} {Ex : String} {n pc T W : Nat} (h : p = (.inr Ex, w)) (hn : cd Ex = n) (ht : sim t (su u 178 0 (nI n))) : PMa cd p u pc T W (.inl (some (.int x))) t := by
  subst h; subst hn; exact ⟨x, rfl, ht⟩
theorem pa_k {cd : String → Nat} {p : Res × Sto} {u t v' : Sto} {x y : Int32} {pc T W : Nat} {g : Nat → Int32} (h : p = (.inl (some (.int y)), v')) (hy : y = x) (hJ : J v' g T W) (hg : ∀ j, tnJ j = false → g j = u 179 j) (ht : K9 t (rmM (su u 178 0 (nI 0)) pc) g) : PMa cd p u pc T W (.inl (some (.int x))) t := by
  subst h; subst hy; exact ⟨y, rfl, rfl, g, hJ, hg, k9_f ht⟩
theorem rmM_c {u : Sto} {a k : Nat} (h : k ≠ 178) (h2 : k ≠ 182) : rmM u a k = u k := by unfold rmM; rw [su_cell _ _ h, sc_ne _ _ h2]
theorem rmM_sim {w u : Sto} (h : sim w u) (a : Nat) : sim (rmM w a) (rmM u a) := by
  have e1 : w 182 = u 182 := h.cell 182 (fun j => by simp [scrB])
  have e2 : w 179 = u 179 := h.cell 179 (fun j => by simp [scrB])
  have e3 : rmA w a = rmA u a := by unfold rmA shA; rw [e1, e2]
  unfold rmM
  refine sim_su (fun k j hs => ?_) _ _ _
  by_cases e : k = 182
  · subst e; rw [sc_at, sc_at, e3]
  · rw [sc_ne _ _ e, sc_ne _ _ e]; exact h k j hs
theorem rm_6 {w u : Sto} {n : Nat} {x : Int32} (h : sim w u) (e : u 178 6 = nI n) : su w 178 0 x 178 6 = nI n := by rw [su_i (by decide), h 178 6 (by decide), e]
theorem rm_k {w u : Sto} {pc : Nat} (h : sim w u) : K9 (rmM (su w 178 0 (nI 0)) pc) (rmM (su u 178 0 (nI 0)) pc) (u 179) := by
  have := k9_0 (rmM_sim (sim_su h 178 0 (nI 0)) pc)
  rw [rmM_c (by decide) (by decide), su_cell _ _ (by decide)] at this
  exact this
theorem hs_g {g : Nat → Int32} {r j : Nat} {x y : Int32} (hr : r < 168) (hj : tnJ j = false) : hsF g r x y j = g j := hs_n (fun q => by rw [q] at hj; exact absurd hj (by rw [Bool.not_eq_false]; exact decide_eq_true (by omega))) (fun q => by rw [q] at hj; exact absurd hj (by rw [Bool.not_eq_false]; exact decide_eq_true (by omega)))
theorem wr_g {g : Nat → Int32} {r w h : Int32} {j : Nat} (hj : tnJ j = false) : wrF g r w h j = g j := by
  by_cases q : j = 10
  · subst q; exact absurd hj (by decide)
  · by_cases q2 : 760 ≤ j ∧ j < 1080
    · exact absurd hj (by rw [Bool.not_eq_false]; exact decide_eq_true (by omega))
    · exact wr_n (by omega) q
theorem up_g {g : Nat → Int32} {i j : Nat} {x : Int32} (hi : tnJ i = true) (hj : tnJ j = false) : upd g i x j = g j := pk_un (fun q => by rw [q, hi] at hj; exact absurd hj (by decide))
theorem tn_t {j : Nat} (h : j = 4 ∨ j = 5 ∨ j = 6 ∨ j = 10 ∨ j = 11 ∨ (16 ≤ j ∧ j < 56 ∧ (j - 16) % 4 = 0) ∨ (88 ≤ j ∧ j < 760 ∧ ¬ (j - 88) % 4 = 3) ∨ (760 ≤ j ∧ j < 1080)) : tnJ j = true := decide_eq_true h
theorem py_g {g : Nat → Int32} {a j : Nat} {x : Int32} (ha : a < 10) (hj : tnJ j = false) : pyF g a x j = g j := by
  unfold pyF
  rw [up_g (by decide) hj, up_g (tn_t (by omega)) hj]
theorem ct_g {g : Nat → Int32} {r a j : Nat} {h : Int32} (hr : r < 168) (hj : tnJ j = false) : ctG g r a h j = g j := by unfold ctG; rw [wr_g hj, hs_g hr hj]
theorem tk_g {g : Nat → Int32} {r a j : Nat} {h x : Int32} (hr : r < 168) (ha : a < 10) (hj : tnJ j = false) : tkG g a r h x j = g j := by unfold tkG; rw [ct_g hr hj, py_g ha hj]
theorem hs_wr {g : Nat → Int32} {r : Nat} {x y a b c : Int32} (hr : r < 168) : hsF (wrF g a b c) r x y = wrF (hsF g r x y) a b c := by
  funext j
  by_cases e1 : j = 89 + 4 * r
  · subst e1
    rw [wr_n (Or.inl (by omega)) (by omega)]
    unfold hsF; rw [pk_us, pk_us]
  · by_cases e2 : j = 88 + 4 * r
    · subst e2
      rw [wr_n (Or.inl (by omega)) (by omega)]
      unfold hsF; rw [pk_un e1, pk_us, pk_un e1, pk_us]
    · rw [hs_n e2 e1]
      by_cases q : j = 10
      · subst q
        unfold wrF
        rw [pk_us, pk_us, hs_n (by omega) (by omega)]
      · by_cases q2 : 764 ≤ j ∧ j < 1080
        · rw [wr_s q2, wr_s q2, hs_n (by omega) (by omega)]
        · have w0 := wr_0 (g := g) (r := a) (w := b) (h := c)
          have w1 := wr_0 (g := hsF g r x y) (r := a) (w := b) (h := c)
          by_cases q3 : 760 ≤ j ∧ j < 764
          · have : j = 760 ∨ j = 761 ∨ j = 762 ∨ j = 763 := by omega
            rcases this with rfl | rfl | rfl | rfl
            · rw [w0.1, w1.1, hs_n (by omega) (by omega)]
            · rw [w0.2.1, w1.2.1]
            · rw [w0.2.2.1, w1.2.2.1]
            · rw [w0.2.2.2, w1.2.2.2]
          · rw [wr_n (by omega) q, wr_n (by omega) q, hs_n e2 e1]
theorem tk_nx {v u : Sto} {a r : Nat} {x : Int32} : ∀ Ex s, ¬ (fun (o : Res) t => o = .inl (some (.int (rtI v a r))) ∧ K9 t u (tkG (u 179) a r x (rtI v a r))) (.inr Ex) s := fun _ _ h => nomatch h.1
set_option maxHeartbeats 1000000 in
theorem c_X11_take {E : EE} (v : Sto) (T W pf pc wk : Nat) (hpc : pc ≤ 12) (hwk : wk < 2 ^ 17) (x y : Int32) (u : Sto) (hJ : J v (u 179) T W) (hA : u 178 6 = nI pc) (hW : v 3 9 = nI wk) : CtP E 35 0 yX11_take cX11_take 3 (some .int) [.ref (E.ad 178), .int x, .int y] u (PMa (cdL [ioob, ise]) (tkeR v pf pc x y) u pc T W) := by
  have hK : LK v u T W := hJ.k
  have hT := hK.hT
  have hJ0 : J (rmS v pf pc) (u 179) T W := J_v hJ vim_rm
  have hW0 : rmS v pf pc 3 9 = nI wk := by rw [rmS_c (by decide) (by omega)]; exact hW
  refine ctp_of (by decide) (Nat.le_of_ble_eq_true rfl) (fun X h hR hrt htab hargs => ?_)
  refine g_aload_n h dX11_take_0 rfl rfl ?_
  refine g_aload_n h dX11_take_1 rfl rfl ?_
  refine g_iload_n h dX11_take_2 rfl rfl ?_
  refine g_V h lv_X11_277_X11 sh_178 (by decide) rfl (c_X11_isTenant x v T W u hK.r) (fitR hR (by first | decide | omega) (by decide) (by omega)) rfl rfl (Nat.le_of_ble_eq_true rfl) dX11_take_3 ?_
  by_cases n3 : okT v x
  · refine g_top (b2_t n3) ?_
    obtain ⟨a, ha, ha9, ia, rfl⟩ := okT_n hK.hT hK.r.vt n3
    refine g_if_eq (tgt := 16) h dX11_take_6 (by decide) (fun q => absurd q (by decide)) (fun _ => ?_)
    refine g_iload_n h dX11_take_9 rfl rfl ?_
    refine g_S h ls_X11_289 (c_X11_isRoom y u) (fitR hR (by first | decide | omega) (by decide) (by omega)) rfl rfl (Nat.le_of_ble_eq_true rfl) dX11_take_10 ?_
    by_cases n10 : okR y
    · refine g_top (b2_t n10) ?_
      obtain ⟨r, hr, ir, rfl⟩ := okR_n n10
      refine g_if_ne (tgt := 20) h dX11_take_13 (by decide) (fun _ => ?_) (fun q => absurd q (by decide))
      refine g_aload_n h dX11_take_20 rfl rfl ?_
      refine g_iload_n h dX11_take_21 rfl rfl ?_
      refine g_iload_n h dX11_take_22 rfl rfl ?_
      refine g_VP h lv_X11_301_X11 sh_178 (by decide) rfl (c_X11_mayTake v T W a r ha hr u hK hJ.ri) ps_nx (fitR hR (by first | decide | omega) (by decide) (by omega)) rfl rfl (Nat.le_of_ble_eq_true rfl) dX11_take_23 (fun v23 u23 hs23 => ?_)
      obtain ⟨hv23, hs23⟩ := hs23
      cases hv23
      by_cases n23 : mtP v a r (v 7 a)
      · refine g_top (b2_t n23) ?_
        refine g_if_ne (tgt := 33) h dX11_take_26 (by decide) (fun _ => ?_) (fun q => absurd q (by decide))
        refine g_iconst (v := nI 0) h dX11_take_33 (by decide) ?_
        refine g_putI h pfl_X11_69_10 sh_178 (by decide) rfl dX11_take_34 ?_
        refine g_aload_n h dX11_take_37 rfl rfl ?_
        refine g_getI h fl_X11_69_10 sh_178 (by decide) rfl dX11_take_38 ?_
        refine g_top su_k ?_
        refine g_if_le (tgt := 46) h dX11_take_41 (by decide) (fun _ => ?_) (fun q => absurd q (by decide))
        refine g_aload_n h dX11_take_46 rfl rfl ?_
        refine g_V h lv_X11_305_X11 sh_178 (by decide) rfl (c_X11_remembers pc hpc _ (rm_6 hs23 hA)) (fitR hR (by first | decide | omega) (by decide) (by omega)) rfl rfl (Nat.le_of_ble_eq_true rfl) dX11_take_47 ?_
        refine g_aload_n h dX11_take_50 rfl rfl ?_
        refine g_iload_n h dX11_take_51 rfl rfl ?_
        refine g_iload_n h dX11_take_52 rfl rfl ?_
        refine g_iconst (v := nI 0) h dX11_take_53 (by decide) ?_
        refine g_VP h lv_X11_308_X11 sh_178 (by decide) rfl (c_X11_takes v T W a r ha hr _ _ (k9_K (rm_k hs23) hK rfl)) tk_nx (fitR hR (by first | decide | omega) (by decide) (by omega)) rfl rfl (Nat.le_of_ble_eq_true rfl) dX11_take_54 (fun v54 u54 hs54 => ?_)
        obtain ⟨hv54, hk54⟩ := hs54
        · cases hv54
          exact g_iretP h hrt dX11_take_57 (by omega) (pa_k (g := tkG (u 179) a r (nI 0) (rtI v a r)) (by rw [tkeR, if_pos n3, ia, if_pos n10, ir, if_pos n23]) (rtI_v vim_rm a r) (by rw [← rtI_v (vim_rm (v := v) (pf := pf) (pc := pc)) a r]; exact J_tk hJ0 hW0 hwk hr ha (by rw [rmS_c (by decide) (by omega)]; exact n23.1) (by decide)) (fun j hj => tk_g hr ha9 hj) (by rw [(rm_k hs23).2] at hk54; exact k9_tr hk54 (rm_k hs23)))
      · refine g_top (b2_f n23) ?_
        refine g_if_ne (tgt := 33) h dX11_take_26 (by decide) (fun q => absurd q (by decide)) (fun _ => ?_)
        refine g_iconst (v := nI 2) h dX11_take_29 (by decide) ?_
        refine g_goto (tgt := 34) h dX11_take_30 (by decide) ?_
        refine g_putI h pfl_X11_69_10 sh_178 (by decide) rfl dX11_take_34 ?_
        refine g_aload_n h dX11_take_37 rfl rfl ?_
        refine g_getI h fl_X11_69_10 sh_178 (by decide) rfl dX11_take_38 ?_
        refine g_top su_k ?_
        refine g_if_le (tgt := 46) h dX11_take_41 (by decide) (fun q => absurd q (by decide)) (fun _ => ?_)
        refine g_iconst (v := nI 0) h dX11_take_44 (by decide) ?_
        exact g_iretP h hrt dX11_take_45 (by omega) (by first | exact pa_x (Ex := ioob) (by rw [tkeR, if_pos n3, ia, if_pos n10, ir, if_neg n23]) (by decide) (sim.refl _) | exact pa_x (Ex := ioob) (by rw [tkeR, if_pos n3, ia, if_pos n10, ir, if_neg n23]) (by decide) (sim_su hs23 _ _ _) | exact pa_x (Ex := ise) (by rw [tkeR, if_pos n3, ia, if_pos n10, ir, if_neg n23]) (by decide) (sim.refl _) | exact pa_x (Ex := ise) (by rw [tkeR, if_pos n3, ia, if_pos n10, ir, if_neg n23]) (by decide) (sim_su hs23 _ _ _))
    · refine g_top (b2_f n10) ?_
      refine g_if_ne (tgt := 20) h dX11_take_13 (by decide) (fun q => absurd q (by decide)) (fun _ => ?_)
      refine g_iconst (v := nI 1) h dX11_take_16 (by decide) ?_
      refine g_goto (tgt := 34) h dX11_take_17 (by decide) ?_
      refine g_putI h pfl_X11_69_10 sh_178 (by decide) rfl dX11_take_34 ?_
      refine g_aload_n h dX11_take_37 rfl rfl ?_
      refine g_getI h fl_X11_69_10 sh_178 (by decide) rfl dX11_take_38 ?_
      refine g_top su_k ?_
      refine g_if_le (tgt := 46) h dX11_take_41 (by decide) (fun q => absurd q (by decide)) (fun _ => ?_)
      refine g_iconst (v := nI 0) h dX11_take_44 (by decide) ?_
      exact g_iretP h hrt dX11_take_45 (by omega) (by first | exact pa_x (Ex := ioob) (by rw [tkeR, if_pos n3, ia, if_neg n10]) (by decide) (sim.refl _) | exact pa_x (Ex := ioob) (by rw [tkeR, if_pos n3, ia, if_neg n10]) (by decide) (sim_su hs23 _ _ _) | exact pa_x (Ex := ise) (by rw [tkeR, if_pos n3, ia, if_neg n10]) (by decide) (sim.refl _) | exact pa_x (Ex := ise) (by rw [tkeR, if_pos n3, ia, if_neg n10]) (by decide) (sim_su hs23 _ _ _))
  · refine g_top (b2_f n3) ?_
    refine g_if_eq (tgt := 16) h dX11_take_6 (by decide) (fun _ => ?_) (fun q => absurd q (by decide))
    refine g_iconst (v := nI 1) h dX11_take_16 (by decide) ?_
    refine g_goto (tgt := 34) h dX11_take_17 (by decide) ?_
    refine g_putI h pfl_X11_69_10 sh_178 (by decide) rfl dX11_take_34 ?_
    refine g_aload_n h dX11_take_37 rfl rfl ?_
    refine g_getI h fl_X11_69_10 sh_178 (by decide) rfl dX11_take_38 ?_
    refine g_top su_k ?_
    refine g_if_le (tgt := 46) h dX11_take_41 (by decide) (fun q => absurd q (by decide)) (fun _ => ?_)
    refine g_iconst (v := nI 0) h dX11_take_44 (by decide) ?_
    exact g_iretP h hrt dX11_take_45 (by omega) (by first | exact pa_x (Ex := ioob) (by rw [tkeR, if_neg n3]) (by decide) (sim.refl _) | exact pa_x (Ex := ioob) (by rw [tkeR, if_neg n3]) (by decide) (sim_su hs23 _ _ _) | exact pa_x (Ex := ise) (by rw [tkeR, if_neg n3]) (by decide) (sim.refl _) | exact pa_x (Ex := ise) (by rw [tkeR, if_neg n3]) (by decide) (sim_su hs23 _ _ _))
set_option maxHeartbeats 1000000 in
theorem c_X11_leave {E : EE} (v : Sto) (T W pf pc wk : Nat) (hpc : pc ≤ 12) (hwk : wk < 2 ^ 17) (y : Int32) (u : Sto) (hJ : J v (u 179) T W) (hA : u 178 6 = nI pc) (hW : v 3 9 = nI wk) : CtP E 35 0 yX11_leave cX11_leave 3 (some .int) [.ref (E.ad 178), .int y] u (PMa (cdL [ioob, ise]) (leaR v pf pc y) u pc T W) := by
  have hK : LK v u T W := hJ.k
  have hT := hK.hT
  have hJ0 : J (rmS v pf pc) (u 179) T W := J_v hJ vim_rm
  have hW0 : rmS v pf pc 3 9 = nI wk := by rw [rmS_c (by decide) (by omega)]; exact hW
  refine ctp_of (by decide) (Nat.le_of_ble_eq_true rfl) (fun X h hR hrt htab hargs => ?_)
  refine g_aload_n h dX11_leave_0 rfl rfl ?_
  refine g_iload_n h dX11_leave_1 rfl rfl ?_
  refine g_S h ls_X11_289 (c_X11_isRoom y u) (fitR hR (by first | decide | omega) (by decide) (by omega)) rfl rfl (Nat.le_of_ble_eq_true rfl) dX11_leave_2 ?_
  by_cases n2 : okR y
  · refine g_top (b2_t n2) ?_
    obtain ⟨r, hr, ir, rfl⟩ := okR_n n2
    refine g_if_ne (tgt := 12) h dX11_leave_5 (by decide) (fun _ => ?_) (fun q => absurd q (by decide))
    refine g_aload_n h dX11_leave_12 rfl rfl ?_
    refine g_iload_n h dX11_leave_13 rfl rfl ?_
    refine g_iconst (v := nI 0) h dX11_leave_14 (by decide) ?_
    refine g_V h lv_X11_84_X11 sh_178 (by decide) rfl (c_X11_ofRoom r 0 hr (by decide) _) (fitR hR (by first | decide | omega) (by decide) (by omega)) rfl rfl (Nat.le_of_ble_eq_true rfl) dX11_leave_15 ?_
    refine g_top (hK.own hr) ?_
    refine g_iconst (v := -1) h dX11_leave_18 (by decide) ?_
    refine g_icmp_ne (tgt := 26) h dX11_leave_19 (by decide) (fun c19 => ?_) (fun c19 => ?_)
    · refine g_iconst (v := nI 0) h dX11_leave_26 (by decide) ?_
      refine g_putI h pfl_X11_69_10 sh_178 (by decide) rfl dX11_leave_27 ?_
      refine g_aload_n h dX11_leave_30 rfl rfl ?_
      refine g_getI h fl_X11_69_10 sh_178 (by decide) rfl dX11_leave_31 ?_
      refine g_top su_k ?_
      refine g_if_le (tgt := 39) h dX11_leave_34 (by decide) (fun _ => ?_) (fun q => absurd q (by decide))
      refine g_aload_n h dX11_leave_39 rfl rfl ?_
      refine g_V h lv_X11_305_X11 sh_178 (by decide) rfl (c_X11_remembers pc hpc _ (rm_6 (sim.refl u) hA)) (fitR hR (by first | decide | omega) (by decide) (by omega)) rfl rfl (Nat.le_of_ble_eq_true rfl) dX11_leave_40 ?_
      refine g_aload_n h dX11_leave_43 rfl rfl ?_
      refine g_iload_n h dX11_leave_44 rfl rfl ?_
      refine g_iconst (v := nI 0) h dX11_leave_45 (by decide) ?_
      refine g_V h lv_X11_84_X11 sh_178 (by decide) rfl (c_X11_ofRoom r 0 hr (by decide) _) (fitR hR (by first | decide | omega) (by decide) (by omega)) rfl rfl (Nat.le_of_ble_eq_true rfl) dX11_leave_46 ?_
      refine g_top ((k9_K (rm_k (pc := pc) (sim.refl u)) hK rfl).own hr) ?_
      refine g_istore_n (ls' := [(0, _), (1, _), (2, _)]) h dX11_leave_49 rfl (by decide) rfl rfl ?_
      refine g_aload_n h dX11_leave_50 rfl rfl ?_
      refine g_iload_n h dX11_leave_51 rfl rfl ?_
      refine g_iconst (v := -1) h dX11_leave_52 (by decide) ?_
      refine g_iconst (v := -1) h dX11_leave_53 (by decide) ?_
      refine g_V h lv_X11_149_X11 sh_178 (by decide) rfl (c_X11_has r hr _ _ _) (fitR hR (by first | decide | omega) (by decide) (by omega)) rfl rfl (Nat.le_of_ble_eq_true rfl) dX11_leave_54 ?_
      refine g_iload_n h dX11_leave_57 rfl rfl ?_
      exact g_iretP h hrt dX11_leave_58 (by omega) (pa_k (by rw [leaR, if_pos n2, ir, if_pos c19]) rfl (J_free hJ0 hr) (fun j hj => hs_g hr hj) (k9_has (rm_k (sim.refl u)) _ _ _))
    · refine g_iconst (v := nI 2) h dX11_leave_22 (by decide) ?_
      refine g_goto (tgt := 27) h dX11_leave_23 (by decide) ?_
      refine g_putI h pfl_X11_69_10 sh_178 (by decide) rfl dX11_leave_27 ?_
      refine g_aload_n h dX11_leave_30 rfl rfl ?_
      refine g_getI h fl_X11_69_10 sh_178 (by decide) rfl dX11_leave_31 ?_
      refine g_top su_k ?_
      refine g_if_le (tgt := 39) h dX11_leave_34 (by decide) (fun q => absurd q (by decide)) (fun _ => ?_)
      refine g_iconst (v := nI 0) h dX11_leave_37 (by decide) ?_
      exact g_iretP h hrt dX11_leave_38 (by omega) (by first | exact pa_x (Ex := ioob) (by rw [leaR, if_pos n2, ir, if_neg (fun q => q c19)]) (by decide) (sim.refl _) | exact pa_x (Ex := ise) (by rw [leaR, if_pos n2, ir, if_neg (fun q => q c19)]) (by decide) (sim.refl _))
  · refine g_top (b2_f n2) ?_
    refine g_if_ne (tgt := 12) h dX11_leave_5 (by decide) (fun q => absurd q (by decide)) (fun _ => ?_)
    refine g_iconst (v := nI 1) h dX11_leave_8 (by decide) ?_
    refine g_goto (tgt := 27) h dX11_leave_9 (by decide) ?_
    refine g_putI h pfl_X11_69_10 sh_178 (by decide) rfl dX11_leave_27 ?_
    refine g_aload_n h dX11_leave_30 rfl rfl ?_
    refine g_getI h fl_X11_69_10 sh_178 (by decide) rfl dX11_leave_31 ?_
    refine g_top su_k ?_
    refine g_if_le (tgt := 39) h dX11_leave_34 (by decide) (fun q => absurd q (by decide)) (fun _ => ?_)
    refine g_iconst (v := nI 0) h dX11_leave_37 (by decide) ?_
    exact g_iretP h hrt dX11_leave_38 (by omega) (by first | exact pa_x (Ex := ioob) (by rw [leaR, if_neg n2]) (by decide) (sim.refl _) | exact pa_x (Ex := ise) (by rw [leaR, if_neg n2]) (by decide) (sim.refl _))
set_option maxHeartbeats 1000000 in
theorem c_X11_ends {E : EE} (v : Sto) (T W pf pc wk : Nat) (hpc : pc ≤ 12) (hwk : wk < 2 ^ 17) (y : Int32) (u : Sto) (hJ : J v (u 179) T W) (hA : u 178 6 = nI pc) (hW : v 3 9 = nI wk) : CtP E 35 0 yX11_ends cX11_ends 3 (some .int) [.ref (E.ad 178), .int y] u (PMa (cdL [ioob, ise]) (ensR v pf pc y) u pc T W) := by
  have hK : LK v u T W := hJ.k
  have hT := hK.hT
  have hJ0 : J (rmS v pf pc) (u 179) T W := J_v hJ vim_rm
  have hW0 : rmS v pf pc 3 9 = nI wk := by rw [rmS_c (by decide) (by omega)]; exact hW
  refine ctp_of (by decide) (Nat.le_of_ble_eq_true rfl) (fun X h hR hrt htab hargs => ?_)
  refine g_aload_n h dX11_ends_0 rfl rfl ?_
  refine g_iload_n h dX11_ends_1 rfl rfl ?_
  refine g_S h ls_X11_289 (c_X11_isRoom y u) (fitR hR (by first | decide | omega) (by decide) (by omega)) rfl rfl (Nat.le_of_ble_eq_true rfl) dX11_ends_2 ?_
  by_cases n2 : okR y
  · refine g_top (b2_t n2) ?_
    obtain ⟨r, hr, ir, rfl⟩ := okR_n n2
    refine g_if_ne (tgt := 12) h dX11_ends_5 (by decide) (fun _ => ?_) (fun q => absurd q (by decide))
    refine g_aload_n h dX11_ends_12 rfl rfl ?_
    refine g_iload_n h dX11_ends_13 rfl rfl ?_
    refine g_V h lv_X11_311_X11 sh_178 (by decide) rfl (c_X11_isSublet r hr v T W u hK.t) (fitR hR (by first | decide | omega) (by decide) (by omega)) rfl rfl (Nat.le_of_ble_eq_true rfl) dX11_ends_14 ?_
    by_cases n14 : v 5 r = -1
    · refine g_top (b2_f (fun q => q ((hJ.ti.sbl hr).mpr n14))) ?_
      refine g_if_ne (tgt := 24) h dX11_ends_17 (by decide) (fun q => absurd q (by decide)) (fun _ => ?_)
      refine g_iconst (v := nI 2) h dX11_ends_20 (by decide) ?_
      refine g_goto (tgt := 25) h dX11_ends_21 (by decide) ?_
      refine g_putI h pfl_X11_69_10 sh_178 (by decide) rfl dX11_ends_25 ?_
      refine g_aload_n h dX11_ends_28 rfl rfl ?_
      refine g_getI h fl_X11_69_10 sh_178 (by decide) rfl dX11_ends_29 ?_
      refine g_top su_k ?_
      refine g_if_le (tgt := 37) h dX11_ends_32 (by decide) (fun q => absurd q (by decide)) (fun _ => ?_)
      refine g_iconst (v := nI 0) h dX11_ends_35 (by decide) ?_
      exact g_iretP h hrt dX11_ends_36 (by omega) (by first | exact pa_x (Ex := ioob) (by rw [ensR, if_pos n2, ir, if_neg (fun q => q n14)]) (by decide) (sim.refl _) | exact pa_x (Ex := ise) (by rw [ensR, if_pos n2, ir, if_neg (fun q => q n14)]) (by decide) (sim.refl _))
    · refine g_top (b2_t (fun q => n14 ((hJ.ti.sbl hr).mp q))) ?_
      refine g_if_ne (tgt := 24) h dX11_ends_17 (by decide) (fun _ => ?_) (fun q => absurd q (by decide))
      refine g_iconst (v := nI 0) h dX11_ends_24 (by decide) ?_
      refine g_putI h pfl_X11_69_10 sh_178 (by decide) rfl dX11_ends_25 ?_
      refine g_aload_n h dX11_ends_28 rfl rfl ?_
      refine g_getI h fl_X11_69_10 sh_178 (by decide) rfl dX11_ends_29 ?_
      refine g_top su_k ?_
      refine g_if_le (tgt := 37) h dX11_ends_32 (by decide) (fun _ => ?_) (fun q => absurd q (by decide))
      refine g_aload_n h dX11_ends_37 rfl rfl ?_
      refine g_V h lv_X11_305_X11 sh_178 (by decide) rfl (c_X11_remembers pc hpc _ (rm_6 (sim.refl u) hA)) (fitR hR (by first | decide | omega) (by decide) (by omega)) rfl rfl (Nat.le_of_ble_eq_true rfl) dX11_ends_38 ?_
      refine g_aload_n h dX11_ends_41 rfl rfl ?_
      refine g_iload_n h dX11_ends_42 rfl rfl ?_
      refine g_iconst (v := nI 1) h dX11_ends_43 (by decide) ?_
      refine g_V h lv_X11_84_X11 sh_178 (by decide) rfl (c_X11_ofRoom r 1 hr (by decide) _) (fitR hR (by first | decide | omega) (by decide) (by omega)) rfl rfl (Nat.le_of_ble_eq_true rfl) dX11_ends_44 ?_
      refine g_top (y := v 5 r) (((k9_K (rm_k (pc := pc) (sim.refl u)) hK rfl).liv hr).trans (by unfold lvT; exact if_neg n14)) ?_
      refine g_istore_n (ls' := [(0, _), (1, _), (2, _)]) h dX11_ends_47 rfl (by decide) rfl rfl ?_
      refine g_aload_n h dX11_ends_48 rfl rfl ?_
      refine g_iload_n h dX11_ends_49 rfl rfl ?_
      refine g_aload_n h dX11_ends_50 rfl rfl ?_
      refine g_iload_n h dX11_ends_51 rfl rfl ?_
      refine g_iconst (v := nI 0) h dX11_ends_52 (by decide) ?_
      refine g_V h lv_X11_84_X11 sh_178 (by decide) rfl (c_X11_ofRoom r 0 hr (by decide) _) (fitR hR (by first | decide | omega) (by decide) (by omega)) rfl rfl (Nat.le_of_ble_eq_true rfl) dX11_ends_53 ?_
      refine g_top ((k9_K (rm_k (pc := pc) (sim.refl u)) hK rfl).own hr) ?_
      refine g_aload_n h dX11_ends_56 rfl rfl ?_
      refine g_iload_n h dX11_ends_57 rfl rfl ?_
      refine g_iconst (v := nI 0) h dX11_ends_58 (by decide) ?_
      refine g_V h lv_X11_84_X11 sh_178 (by decide) rfl (c_X11_ofRoom r 0 hr (by decide) _) (fitR hR (by first | decide | omega) (by decide) (by omega)) rfl rfl (Nat.le_of_ble_eq_true rfl) dX11_ends_59 ?_
      refine g_top ((k9_K (rm_k (pc := pc) (sim.refl u)) hK rfl).own hr) ?_
      refine g_V h lv_X11_149_X11 sh_178 (by decide) rfl (c_X11_has r hr _ _ _) (fitR hR (by first | decide | omega) (by decide) (by omega)) rfl rfl (Nat.le_of_ble_eq_true rfl) dX11_ends_62 ?_
      refine g_iload_n h dX11_ends_65 rfl rfl ?_
      exact g_iretP h hrt dX11_ends_66 (by omega) (pa_k (by rw [ensR, if_pos n2, ir, if_pos n14]) rfl (J_end hJ0 hr) (fun j hj => hs_g hr hj) (by rw [rmS_c (by decide) (by omega)]; exact k9_has (rm_k (sim.refl u)) _ _ _))
  · refine g_top (b2_f n2) ?_
    refine g_if_ne (tgt := 12) h dX11_ends_5 (by decide) (fun q => absurd q (by decide)) (fun _ => ?_)
    refine g_iconst (v := nI 1) h dX11_ends_8 (by decide) ?_
    refine g_goto (tgt := 25) h dX11_ends_9 (by decide) ?_
    refine g_putI h pfl_X11_69_10 sh_178 (by decide) rfl dX11_ends_25 ?_
    refine g_aload_n h dX11_ends_28 rfl rfl ?_
    refine g_getI h fl_X11_69_10 sh_178 (by decide) rfl dX11_ends_29 ?_
    refine g_top su_k ?_
    refine g_if_le (tgt := 37) h dX11_ends_32 (by decide) (fun q => absurd q (by decide)) (fun _ => ?_)
    refine g_iconst (v := nI 0) h dX11_ends_35 (by decide) ?_
    exact g_iretP h hrt dX11_ends_36 (by omega) (by first | exact pa_x (Ex := ioob) (by rw [ensR, if_neg n2]) (by decide) (sim.refl _) | exact pa_x (Ex := ise) (by rw [ensR, if_neg n2]) (by decide) (sim.refl _))
theorem J_ca {v : Sto} {g : Nat → Int32} {T W r q : Nat} (h : J v g T W) (hr : r < 168) (hq : q < 168) (hne : ¬ r = q) (c : Int32) : J (caS v r q c) (upd (upd g (90 + 4 * r) (v 6 r - c)) (90 + 4 * q) (v 6 q + c)) T W := by
  have h1 := J_good (J_good h r hr (v 6 r - c)) q hq (v 6 q + c)
  unfold caS
  rw [su_i (fun z => hne z.symm)]
  exact h1
set_option maxHeartbeats 1000000 in
theorem c_X11_carry {E : EE} (v : Sto) (T W pf pc wk : Nat) (hpc : pc ≤ 12) (hwk : wk < 2 ^ 17) (x y z n : Int32) (u : Sto) (hJ : J v (u 179) T W) (hA : u 178 6 = nI pc) (hW : v 3 9 = nI wk) : CtP E 35 0 yX11_carry cX11_carry 6 (some .int) [.ref (E.ad 178), .int x, .int y, .int z, .int n] u (PMa (cdL [ioob, iae, ise]) (carR v pf pc x y z n) u pc T W) := by
  have hK : LK v u T W := hJ.k
  have hT := hK.hT
  have hJ0 : J (rmS v pf pc) (u 179) T W := J_v hJ vim_rm
  have hW0 : rmS v pf pc 3 9 = nI wk := by rw [rmS_c (by decide) (by omega)]; exact hW
  refine ctp_of (by decide) (Nat.le_of_ble_eq_true rfl) (fun X h hR hrt htab hargs => ?_)
  refine g_aload_n h dX11_carry_0 rfl rfl ?_
  refine g_aload_n h dX11_carry_1 rfl rfl ?_
  refine g_iload_n h dX11_carry_2 rfl rfl ?_
  refine g_V h lv_X11_277_X11 sh_178 (by decide) rfl (c_X11_isTenant x v T W u hK.r) (fitR hR (by first | decide | omega) (by decide) (by omega)) rfl rfl (Nat.le_of_ble_eq_true rfl) dX11_carry_3 ?_
  by_cases n3 : okT v x
  · refine g_top (b2_t n3) ?_
    obtain ⟨a, ha, ha9, ia, rfl⟩ := okT_n hK.hT hK.r.vt n3
    refine g_if_eq (tgt := 23) h dX11_carry_6 (by decide) (fun q => absurd q (by decide)) (fun _ => ?_)
    refine g_iload_n h dX11_carry_9 rfl rfl ?_
    refine g_S h ls_X11_289 (c_X11_isRoom y u) (fitR hR (by first | decide | omega) (by decide) (by omega)) rfl rfl (Nat.le_of_ble_eq_true rfl) dX11_carry_10 ?_
    by_cases n10 : okR y
    · refine g_top (b2_t n10) ?_
      obtain ⟨r, hr, ir, rfl⟩ := okR_n n10
      refine g_if_eq (tgt := 23) h dX11_carry_13 (by decide) (fun q => absurd q (by decide)) (fun _ => ?_)
      refine g_iload_n h dX11_carry_16 rfl rfl ?_
      refine g_S h ls_X11_289 (c_X11_isRoom z u) (fitR hR (by first | decide | omega) (by decide) (by omega)) rfl rfl (Nat.le_of_ble_eq_true rfl) dX11_carry_17 ?_
      by_cases n17 : okR z
      · refine g_top (b2_t n17) ?_
        obtain ⟨q, hq, iq, rfl⟩ := okR_n n17
        refine g_if_ne (tgt := 27) h dX11_carry_20 (by decide) (fun _ => ?_) (fun q => absurd q (by decide))
        refine g_iload h dX11_carry_27 rfl ?_
        refine g_iconst (v := nI 1) h dX11_carry_29 (by decide) ?_
        refine g_bipush (v := nI 99) h dX11_carry_30 (by decide) ?_
        refine g_S h ls_X11_72 (c_X11_isIn n (nI 1) (nI 99) u) (fitR hR (by first | decide | omega) (by decide) (by omega)) rfl rfl (Nat.le_of_ble_eq_true rfl) dX11_carry_32 ?_
        by_cases n32 : okN n (nI 1) (nI 99)
        · refine g_top (b2_t n32) ?_
          refine g_if_eq (tgt := 43) h dX11_carry_35 (by decide) (fun q => absurd q (by decide)) (fun _ => ?_)
          refine g_iload_n h dX11_carry_38 rfl rfl ?_
          refine g_iload_n h dX11_carry_39 rfl rfl ?_
          refine g_icmp_ne (tgt := 47) h dX11_carry_40 (by decide) (fun c40 => ?_) (fun c40 => ?_)
          · refine g_aload_n h dX11_carry_47 rfl rfl ?_
            refine g_iload_n h dX11_carry_48 rfl rfl ?_
            refine g_iconst (v := nI 1) h dX11_carry_49 (by decide) ?_
            refine g_V h lv_X11_84_X11 sh_178 (by decide) rfl (c_X11_ofRoom r 1 hr (by decide) u) (fitR hR (by first | decide | omega) (by decide) (by omega)) rfl rfl (Nat.le_of_ble_eq_true rfl) dX11_carry_50 ?_
            refine g_top (hK.liv hr) ?_
            refine g_iload_n h dX11_carry_53 rfl rfl ?_
            refine g_icmp_ne (tgt := 67) h dX11_carry_54 (by decide) (fun c54 => ?_) (fun c54 => ?_)
            · refine g_iconst (v := nI 3) h dX11_carry_67 (by decide) ?_
              refine g_goto (tgt := 72) h dX11_carry_68 (by decide) ?_
              refine g_putI h pfl_X11_69_10 sh_178 (by decide) rfl dX11_carry_72 ?_
              refine g_aload_n h dX11_carry_75 rfl rfl ?_
              refine g_getI h fl_X11_69_10 sh_178 (by decide) rfl dX11_carry_76 ?_
              refine g_top su_k ?_
              refine g_if_le (tgt := 84) h dX11_carry_79 (by decide) (fun q => absurd q (by decide)) (fun _ => ?_)
              refine g_iconst (v := nI 0) h dX11_carry_82 (by decide) ?_
              exact g_iretP h hrt dX11_carry_83 (by omega) (by first | exact pa_x (Ex := ioob) (by rw [carR, if_pos n3, if_pos n10, ir, if_pos n17, iq, if_pos n32, if_pos c40, if_neg (fun z => c54 z.1)]) (by decide) (sim.refl _) | exact pa_x (Ex := iae) (by rw [carR, if_pos n3, if_pos n10, ir, if_pos n17, iq, if_pos n32, if_pos c40, if_neg (fun z => c54 z.1)]) (by decide) (sim.refl _) | exact pa_x (Ex := ise) (by rw [carR, if_pos n3, if_pos n10, ir, if_pos n17, iq, if_pos n32, if_pos c40, if_neg (fun z => c54 z.1)]) (by decide) (sim.refl _))
            · refine g_aload_n h dX11_carry_57 rfl rfl ?_
              refine g_iload_n h dX11_carry_58 rfl rfl ?_
              refine g_iconst (v := nI 1) h dX11_carry_59 (by decide) ?_
              refine g_V h lv_X11_84_X11 sh_178 (by decide) rfl (c_X11_ofRoom q 1 hq (by decide) u) (fitR hR (by first | decide | omega) (by decide) (by omega)) rfl rfl (Nat.le_of_ble_eq_true rfl) dX11_carry_60 ?_
              refine g_top (hK.liv hq) ?_
              refine g_iload_n h dX11_carry_63 rfl rfl ?_
              refine g_icmp_eq (tgt := 71) h dX11_carry_64 (by decide) (fun c64 => ?_) (fun c64 => ?_)
              · refine g_iconst (v := nI 0) h dX11_carry_71 (by decide) ?_
                refine g_putI h pfl_X11_69_10 sh_178 (by decide) rfl dX11_carry_72 ?_
                refine g_aload_n h dX11_carry_75 rfl rfl ?_
                refine g_getI h fl_X11_69_10 sh_178 (by decide) rfl dX11_carry_76 ?_
                refine g_top su_k ?_
                refine g_if_le (tgt := 84) h dX11_carry_79 (by decide) (fun _ => ?_) (fun q => absurd q (by decide))
                refine g_aload_n h dX11_carry_84 rfl rfl ?_
                refine g_V h lv_X11_305_X11 sh_178 (by decide) rfl (c_X11_remembers pc hpc _ (rm_6 (sim.refl u) hA)) (fitR hR (by first | decide | omega) (by decide) (by omega)) rfl rfl (Nat.le_of_ble_eq_true rfl) dX11_carry_85 ?_
                refine g_iload h dX11_carry_88 rfl ?_
                refine g_aload_n h dX11_carry_90 rfl rfl ?_
                refine g_iload_n h dX11_carry_91 rfl rfl ?_
                refine g_iconst (v := nI 2) h dX11_carry_92 (by decide) ?_
                refine g_V h lv_X11_84_X11 sh_178 (by decide) rfl (c_X11_ofRoom r 2 hr (by decide) _) (fitR hR (by first | decide | omega) (by decide) (by omega)) rfl rfl (Nat.le_of_ble_eq_true rfl) dX11_carry_93 ?_
                refine g_top ((k9_K (rm_k (pc := pc) (sim.refl u)) hK rfl).gds hr) ?_
                refine g_bipush (v := nI 99) h dX11_carry_96 (by decide) ?_
                refine g_aload_n h dX11_carry_98 rfl rfl ?_
                refine g_iload_n h dX11_carry_99 rfl rfl ?_
                refine g_iconst (v := nI 2) h dX11_carry_100 (by decide) ?_
                refine g_V h lv_X11_84_X11 sh_178 (by decide) rfl (c_X11_ofRoom q 2 hq (by decide) _) (fitR hR (by first | decide | omega) (by decide) (by omega)) rfl rfl (Nat.le_of_ble_eq_true rfl) dX11_carry_101 ?_
                refine g_top ((k9_K (rm_k (pc := pc) (sim.refl u)) hK rfl).gds hq) ?_
                refine g_isub h dX11_carry_104 ?_
                refine g_S h ls_X11_292 (c_X11_lesser _ _ _) (fitR hR (by first | decide | omega) (by decide) (by omega)) rfl rfl (Nat.le_of_ble_eq_true rfl) dX11_carry_105 ?_
                refine g_S h ls_X11_292 (c_X11_lesser _ _ _) (fitR hR (by first | decide | omega) (by decide) (by omega)) rfl rfl (Nat.le_of_ble_eq_true rfl) dX11_carry_108 ?_
                refine g_istore (ls' := [(0, _), (1, _), (2, _), (3, _), (4, _), (5, _)]) h dX11_carry_111 (by decide) rfl rfl ?_
                refine g_aload_n h dX11_carry_113 rfl rfl ?_
                refine g_getR h fl_X11_7_10 sh_178 (by decide) rfl dX11_carry_114 ?_
                refine g_bipush (v := nI 88) h dX11_carry_117 (by decide) ?_
                refine g_iconst (v := nI 4) h dX11_carry_119 (by decide) ?_
                refine g_iload_n h dX11_carry_120 rfl rfl ?_
                refine g_imul h dX11_carry_121 ?_
                refine g_iadd h dX11_carry_122 ?_
                refine g_iconst (v := nI 2) h dX11_carry_123 (by decide) ?_
                refine g_iadd h dX11_carry_124 ?_
                refine g_top (y := nI (90 + 4 * r)) ((ix88 (w := 2) (by omega) (by omega)).trans (congrArg nI (by omega))) ?_
                refine g_dup2 h dX11_carry_125 rfl rfl ?_
                refine g_iald h _ _ _ sh_179 (by decide) (by decide) rfl (by omega) dX11_carry_126 ?_
                refine g_top (y := v 6 r) ((congrArg (rmM (su u 178 0 (nI 0)) pc 179) (show 90 + 4 * r = 88 + 4 * r + 2 by omega)).trans ((k9_K (rm_k (pc := pc) (sim.refl u)) hK rfl).gds hr)) ?_
                refine g_iload h dX11_carry_127 rfl ?_
                refine g_isub h dX11_carry_129 ?_
                refine g_iast h _ _ _ sh_179 (by decide) (by decide) rfl (by omega) dX11_carry_130 ?_
                refine g_aload_n h dX11_carry_131 rfl rfl ?_
                refine g_getR h fl_X11_7_10 sh_178 (by decide) rfl dX11_carry_132 ?_
                refine g_bipush (v := nI 88) h dX11_carry_135 (by decide) ?_
                refine g_iconst (v := nI 4) h dX11_carry_137 (by decide) ?_
                refine g_iload_n h dX11_carry_138 rfl rfl ?_
                refine g_imul h dX11_carry_139 ?_
                refine g_iadd h dX11_carry_140 ?_
                refine g_iconst (v := nI 2) h dX11_carry_141 (by decide) ?_
                refine g_iadd h dX11_carry_142 ?_
                refine g_top (y := nI (90 + 4 * q)) ((ix88 (w := 2) (by omega) (by omega)).trans (congrArg nI (by omega))) ?_
                refine g_dup2 h dX11_carry_143 rfl rfl ?_
                refine g_iald h _ _ _ sh_179 (by decide) (by decide) rfl (by omega) dX11_carry_144 ?_
                have hne : ¬ r = q := fun z => c40 (by rw [z])
                refine g_top (y := v 6 q) ((su_i (by omega)).trans ((congrArg (rmM (su u 178 0 (nI 0)) pc 179) (show 90 + 4 * q = 88 + 4 * q + 2 by omega)).trans ((k9_K (rm_k (pc := pc) (sim.refl u)) hK rfl).gds hq))) ?_
                refine g_iload h dX11_carry_145 rfl ?_
                refine g_iadd h dX11_carry_147 ?_
                refine g_iast h _ _ _ sh_179 (by decide) (by decide) rfl (by omega) dX11_carry_148 ?_
                refine g_iload h dX11_carry_149 rfl ?_
                exact g_iretP h hrt dX11_carry_151 (by omega) (pa_k (by rw [carR, if_pos n3, if_pos n10, ir, if_pos n17, iq, if_pos n32, if_pos c40, if_pos (show lvT v 3 r = nI a ∧ lvT v 3 q = nI a from ⟨c54, c64⟩)]; rfl) rfl (by have h9 := J_ca hJ0 hr hq hne (caN v r q n); rw [rmS_c (by decide) (by omega)] at h9; exact h9) (fun j hj => by rw [up_g (tn_t (by omega)) hj, up_g (tn_t (by omega)) hj]) (k9_su (k9_su (rm_k (sim.refl u)) _ _) _ _))
              · refine g_iconst (v := nI 3) h dX11_carry_67 (by decide) ?_
                refine g_goto (tgt := 72) h dX11_carry_68 (by decide) ?_
                refine g_putI h pfl_X11_69_10 sh_178 (by decide) rfl dX11_carry_72 ?_
                refine g_aload_n h dX11_carry_75 rfl rfl ?_
                refine g_getI h fl_X11_69_10 sh_178 (by decide) rfl dX11_carry_76 ?_
                refine g_top su_k ?_
                refine g_if_le (tgt := 84) h dX11_carry_79 (by decide) (fun q => absurd q (by decide)) (fun _ => ?_)
                refine g_iconst (v := nI 0) h dX11_carry_82 (by decide) ?_
                exact g_iretP h hrt dX11_carry_83 (by omega) (by first | exact pa_x (Ex := ioob) (by rw [carR, if_pos n3, if_pos n10, ir, if_pos n17, iq, if_pos n32, if_pos c40, if_neg (fun z => c64 z.2)]) (by decide) (sim.refl _) | exact pa_x (Ex := iae) (by rw [carR, if_pos n3, if_pos n10, ir, if_pos n17, iq, if_pos n32, if_pos c40, if_neg (fun z => c64 z.2)]) (by decide) (sim.refl _) | exact pa_x (Ex := ise) (by rw [carR, if_pos n3, if_pos n10, ir, if_pos n17, iq, if_pos n32, if_pos c40, if_neg (fun z => c64 z.2)]) (by decide) (sim.refl _))
          · refine g_iconst (v := nI 2) h dX11_carry_43 (by decide) ?_
            refine g_goto (tgt := 72) h dX11_carry_44 (by decide) ?_
            refine g_putI h pfl_X11_69_10 sh_178 (by decide) rfl dX11_carry_72 ?_
            refine g_aload_n h dX11_carry_75 rfl rfl ?_
            refine g_getI h fl_X11_69_10 sh_178 (by decide) rfl dX11_carry_76 ?_
            refine g_top su_k ?_
            refine g_if_le (tgt := 84) h dX11_carry_79 (by decide) (fun q => absurd q (by decide)) (fun _ => ?_)
            refine g_iconst (v := nI 0) h dX11_carry_82 (by decide) ?_
            exact g_iretP h hrt dX11_carry_83 (by omega) (by first | exact pa_x (Ex := ioob) (by rw [carR, if_pos n3, if_pos n10, ir, if_pos n17, iq, if_pos n32, if_neg (fun z => z c40)]) (by decide) (sim.refl _) | exact pa_x (Ex := iae) (by rw [carR, if_pos n3, if_pos n10, ir, if_pos n17, iq, if_pos n32, if_neg (fun z => z c40)]) (by decide) (sim.refl _) | exact pa_x (Ex := ise) (by rw [carR, if_pos n3, if_pos n10, ir, if_pos n17, iq, if_pos n32, if_neg (fun z => z c40)]) (by decide) (sim.refl _))
        · refine g_top (b2_f n32) ?_
          refine g_if_eq (tgt := 43) h dX11_carry_35 (by decide) (fun _ => ?_) (fun q => absurd q (by decide))
          refine g_iconst (v := nI 2) h dX11_carry_43 (by decide) ?_
          refine g_goto (tgt := 72) h dX11_carry_44 (by decide) ?_
          refine g_putI h pfl_X11_69_10 sh_178 (by decide) rfl dX11_carry_72 ?_
          refine g_aload_n h dX11_carry_75 rfl rfl ?_
          refine g_getI h fl_X11_69_10 sh_178 (by decide) rfl dX11_carry_76 ?_
          refine g_top su_k ?_
          refine g_if_le (tgt := 84) h dX11_carry_79 (by decide) (fun q => absurd q (by decide)) (fun _ => ?_)
          refine g_iconst (v := nI 0) h dX11_carry_82 (by decide) ?_
          exact g_iretP h hrt dX11_carry_83 (by omega) (by first | exact pa_x (Ex := ioob) (by rw [carR, if_pos n3, if_pos n10, ir, if_pos n17, iq, if_neg n32]) (by decide) (sim.refl _) | exact pa_x (Ex := iae) (by rw [carR, if_pos n3, if_pos n10, ir, if_pos n17, iq, if_neg n32]) (by decide) (sim.refl _) | exact pa_x (Ex := ise) (by rw [carR, if_pos n3, if_pos n10, ir, if_pos n17, iq, if_neg n32]) (by decide) (sim.refl _))
      · refine g_top (b2_f n17) ?_
        refine g_if_ne (tgt := 27) h dX11_carry_20 (by decide) (fun q => absurd q (by decide)) (fun _ => ?_)
        refine g_iconst (v := nI 1) h dX11_carry_23 (by decide) ?_
        refine g_goto (tgt := 72) h dX11_carry_24 (by decide) ?_
        refine g_putI h pfl_X11_69_10 sh_178 (by decide) rfl dX11_carry_72 ?_
        refine g_aload_n h dX11_carry_75 rfl rfl ?_
        refine g_getI h fl_X11_69_10 sh_178 (by decide) rfl dX11_carry_76 ?_
        refine g_top su_k ?_
        refine g_if_le (tgt := 84) h dX11_carry_79 (by decide) (fun q => absurd q (by decide)) (fun _ => ?_)
        refine g_iconst (v := nI 0) h dX11_carry_82 (by decide) ?_
        exact g_iretP h hrt dX11_carry_83 (by omega) (by first | exact pa_x (Ex := ioob) (by rw [carR, if_pos n3, if_pos n10, ir, if_neg n17]) (by decide) (sim.refl _) | exact pa_x (Ex := iae) (by rw [carR, if_pos n3, if_pos n10, ir, if_neg n17]) (by decide) (sim.refl _) | exact pa_x (Ex := ise) (by rw [carR, if_pos n3, if_pos n10, ir, if_neg n17]) (by decide) (sim.refl _))
    · refine g_top (b2_f n10) ?_
      refine g_if_eq (tgt := 23) h dX11_carry_13 (by decide) (fun _ => ?_) (fun q => absurd q (by decide))
      refine g_iconst (v := nI 1) h dX11_carry_23 (by decide) ?_
      refine g_goto (tgt := 72) h dX11_carry_24 (by decide) ?_
      refine g_putI h pfl_X11_69_10 sh_178 (by decide) rfl dX11_carry_72 ?_
      refine g_aload_n h dX11_carry_75 rfl rfl ?_
      refine g_getI h fl_X11_69_10 sh_178 (by decide) rfl dX11_carry_76 ?_
      refine g_top su_k ?_
      refine g_if_le (tgt := 84) h dX11_carry_79 (by decide) (fun q => absurd q (by decide)) (fun _ => ?_)
      refine g_iconst (v := nI 0) h dX11_carry_82 (by decide) ?_
      exact g_iretP h hrt dX11_carry_83 (by omega) (by first | exact pa_x (Ex := ioob) (by rw [carR, if_pos n3, if_neg n10]) (by decide) (sim.refl _) | exact pa_x (Ex := iae) (by rw [carR, if_pos n3, if_neg n10]) (by decide) (sim.refl _) | exact pa_x (Ex := ise) (by rw [carR, if_pos n3, if_neg n10]) (by decide) (sim.refl _))
  · refine g_top (b2_f n3) ?_
    refine g_if_eq (tgt := 23) h dX11_carry_6 (by decide) (fun _ => ?_) (fun q => absurd q (by decide))
    refine g_iconst (v := nI 1) h dX11_carry_23 (by decide) ?_
    refine g_goto (tgt := 72) h dX11_carry_24 (by decide) ?_
    refine g_putI h pfl_X11_69_10 sh_178 (by decide) rfl dX11_carry_72 ?_
    refine g_aload_n h dX11_carry_75 rfl rfl ?_
    refine g_getI h fl_X11_69_10 sh_178 (by decide) rfl dX11_carry_76 ?_
    refine g_top su_k ?_
    refine g_if_le (tgt := 84) h dX11_carry_79 (by decide) (fun q => absurd q (by decide)) (fun _ => ?_)
    refine g_iconst (v := nI 0) h dX11_carry_82 (by decide) ?_
    exact g_iretP h hrt dX11_carry_83 (by omega) (by first | exact pa_x (Ex := ioob) (by rw [carR, if_neg n3]) (by decide) (sim.refl _) | exact pa_x (Ex := iae) (by rw [carR, if_neg n3]) (by decide) (sim.refl _) | exact pa_x (Ex := ise) (by rw [carR, if_neg n3]) (by decide) (sim.refl _))
