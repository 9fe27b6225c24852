-- after: 38.r 39.s 40.t 47.str 48.tx 49.ty 50.tt 51.tu 52.tv 53.lw 54.lx 55.ly 56.lz 57.ma 58.mb 59.mc 60.md 61.me 62.mf 70.na 71.nb 72.nc 73.nd 74.ne 75.nf 76.ng 77.nh 78.ni 79.nj 80.nk 81.nl 82.nm 84.no 85.np 86.nq 87.nr
theorem LK.sim {v u w : Sto} {T W : Nat} (h : LK v u T W) (e : Jvm.Pilot.CHourLetsLaw_law_r3761_bf2a14.sim w u) : LK v w T W := h.c (e.cell 179 (fun j => by simp [scrB]))
theorem LK.th {v u : Sto} {T W : Nat} (h : LK v u T W) {x : Int32} {j : Nat} : LK v (su u 178 j x) T W := h.c (su_cell _ _ (by decide))
/-- what a call of the model says, beside the class's answer s: cd gives the number of what is thrown -/
def PMr (cd : String → Nat) (s : Res) (u : Sto) : Res → Sto → Prop := fun o t => ∃ x th, o = .inl (some (.int x)) ∧ sim t (su u 178 0 (nI th)) ∧ (match s with | .inl w => th = 0 ∧ w = some (.int x) | .inr Ex => th = cd Ex)
theorem pm_k {cd : String → Nat} {s : Res} {u t : Sto} {x : Int32} (h : s = .inl (some (.int x))) (ht : sim t (su u 178 0 (nI 0))) : PMr cd s u (.inl (some (.int x))) t := ⟨x, 0, rfl, ht, by rw [h]; exact ⟨rfl, rfl⟩⟩
theorem pm_x {cd : String → Nat} {s : Res} {u t : Sto} {x : Int32} {Ex : String} {n : Nat} (h : s = .inr Ex) (hn : cd Ex = n) (ht : sim t (su u 178 0 (nI n))) : PMr cd s u (.inl (some (.int x))) t := ⟨x, n, rfl, ht, by rw [h]; exact hn.symm⟩
abbrev PA (o : Res) (U : Sto) : Res → Sto → Prop := fun o' u' => o' = o ∧ simA u' U
theorem pa_nx {v : Option Value} {U : Sto} : ∀ Ex u', ¬ PA (.inl v) U (.inr Ex) u' := fun _ _ h => nomatch h.1
theorem lv_g {g : Nat → Int32} {v : Sto} {r : Nat} (k : LKt v 3 g) (hr : r < 168) : g (88 + 4 * r + 1) = lvT v 3 r := by rw [show 88 + 4 * r + 1 = 89 + 4 * r by omega]; exact k.liv r hr
theorem gd_g {g : Nat → Int32} {v : Sto} {r : Nat} (k : LKt v 3 g) (hr : r < 168) : g (88 + 4 * r + 2) = v 6 r := by rw [show 88 + 4 * r + 2 = 90 + 4 * r by omega]; exact k.gds r hr
theorem sh_g {g : Nat → Int32} {v : Sto} {r T W : Nat} (k : LKr v 10 g T W) (hr : r < 168) : g (88 + 4 * r + 3) = v 14 r := by rw [show 88 + 4 * r + 3 = 91 + 4 * r by omega]; exact k.sht r hr
set_option maxHeartbeats 1000000 in
theorem c_X11_isBarredA {E : EE} (v : Sto) (T W a r : Nat) (ha : a < T) (hr : r < 168) (u : Sto) (hK : LK v u T W) : CtP E 33 0 yX11_isBarred cX11_isBarred 3 (some .boolean) [.ref (E.ad 178), .int (nI a), .int (nI r)] u (PA (.inl (some (.int (b2 (brP v a r = true))))) u) := by
  refine ctp_of (by decide) (Nat.le_of_ble_eq_true rfl) (fun X h hR hrt htab hargs => ?_)
  refine g_aload_n h dX11_isBarred_0 rfl rfl ?_
  refine g_iload_n h dX11_isBarred_1 rfl rfl ?_
  refine g_iload_n h dX11_isBarred_2 rfl rfl ?_
  refine g_VP h lv_X11_270_X11 sh_178 (by decide) rfl (c_X11_asksA v T W a r ha hr u hK) qa2_nx (fitR hR (by first | decide | omega) (by decide) (by omega)) rfl rfl (Nat.le_of_ble_eq_true rfl) dX11_isBarred_3 (fun v3 u3 hs3 => ?_)
  obtain ⟨hv3, hs3, ha17, ha18, ha19⟩ := hs3
  · cases hv3
    refine g_aload_n h dX11_isBarred_6 rfl rfl ?_
    refine g_getI h fl_X11_257_10 sh_178 (by decide) rfl dX11_isBarred_7 ?_
    refine g_top ha17 ?_
    exact g_zretP h hrt dX11_isBarred_10 (by omega) (by first | exact Or.inl rfl | exact Or.inr rfl | exact b2_01 _ | exact hF.2.2.2.1 | exact hF.2.2.2.2 | exact hy | exact hv | simp) ⟨rfl, hs3⟩
theorem c_X11_isBarred {E : EE} (v : Sto) (T W a r : Nat) (ha : a < T) (hr : r < 168) (u : Sto) (hK : LK v u T W) : CtP E 33 0 yX11_isBarred cX11_isBarred 3 (some .boolean) [.ref (E.ad 178), .int (nI a), .int (nI r)] u (PS (.inl (some (.int (b2 (brP v a r = true))))) u) := ctp_mono (c_X11_isBarredA v T W a r ha hr u hK) (fun o t h => ⟨h.1, h.2.2⟩)
set_option maxHeartbeats 1000000 in
theorem c_X11_rentOfA {E : EE} (v : Sto) (T W a r : Nat) (ha : a < T) (hr : r < 168) (u : Sto) (hK : LK v u T W) : CtP E 33 0 yX11_rentOf cX11_rentOf 3 (some .int) [.ref (E.ad 178), .int (nI a), .int (nI r)] u (PA (.inl (some (.int (rtI v a r)))) u) := by
  refine ctp_of (by decide) (Nat.le_of_ble_eq_true rfl) (fun X h hR hrt htab hargs => ?_)
  refine g_aload_n h dX11_rentOf_0 rfl rfl ?_
  refine g_iload_n h dX11_rentOf_1 rfl rfl ?_
  refine g_iload_n h dX11_rentOf_2 rfl rfl ?_
  refine g_VP h lv_X11_270_X11 sh_178 (by decide) rfl (c_X11_asksA v T W a r ha hr u hK) qa2_nx (fitR hR (by first | decide | omega) (by decide) (by omega)) rfl rfl (Nat.le_of_ble_eq_true rfl) dX11_rentOf_3 (fun v3 u3 hs3 => ?_)
  obtain ⟨hv3, hs3, ha17, ha18, ha19⟩ := hs3
  · cases hv3
    refine g_aload_n h dX11_rentOf_6 rfl rfl ?_
    refine g_getI h fl_X11_260_10 sh_178 (by decide) rfl dX11_rentOf_7 ?_
    refine g_top ha18 ?_
    exact g_iretP h hrt dX11_rentOf_10 (by omega) ⟨rfl, hs3⟩
theorem c_X11_rentOf {E : EE} (v : Sto) (T W a r : Nat) (ha : a < T) (hr : r < 168) (u : Sto) (hK : LK v u T W) : CtP E 33 0 yX11_rentOf cX11_rentOf 3 (some .int) [.ref (E.ad 178), .int (nI a), .int (nI r)] u (PS (.inl (some (.int (rtI v a r)))) u) := ctp_mono (c_X11_rentOfA v T W a r ha hr u hK) (fun o t h => ⟨h.1, h.2.2⟩)
set_option maxHeartbeats 1000000 in
theorem c_X11_valueOfA {E : EE} (v : Sto) (T W a r : Nat) (ha : a < T) (hr : r < 168) (u : Sto) (hK : LK v u T W) : CtP E 33 0 yX11_valueOf cX11_valueOf 3 (some .int) [.ref (E.ad 178), .int (nI a), .int (nI r)] u (PA (.inl (some (.int (vlI v a r)))) u) := by
  refine ctp_of (by decide) (Nat.le_of_ble_eq_true rfl) (fun X h hR hrt htab hargs => ?_)
  refine g_aload_n h dX11_valueOf_0 rfl rfl ?_
  refine g_iload_n h dX11_valueOf_1 rfl rfl ?_
  refine g_iload_n h dX11_valueOf_2 rfl rfl ?_
  refine g_VP h lv_X11_270_X11 sh_178 (by decide) rfl (c_X11_asksA v T W a r ha hr u hK) qa2_nx (fitR hR (by first | decide | omega) (by decide) (by omega)) rfl rfl (Nat.le_of_ble_eq_true rfl) dX11_valueOf_3 (fun v3 u3 hs3 => ?_)
  obtain ⟨hv3, hs3, ha17, ha18, ha19⟩ := hs3
  · cases hv3
    refine g_aload_n h dX11_valueOf_6 rfl rfl ?_
    refine g_getI h fl_X11_262_10 sh_178 (by decide) rfl dX11_valueOf_7 ?_
    refine g_top ha19 ?_
    exact g_iretP h hrt dX11_valueOf_10 (by omega) ⟨rfl, hs3⟩
theorem c_X11_valueOf {E : EE} (v : Sto) (T W a r : Nat) (ha : a < T) (hr : r < 168) (u : Sto) (hK : LK v u T W) : CtP E 33 0 yX11_valueOf cX11_valueOf 3 (some .int) [.ref (E.ad 178), .int (nI a), .int (nI r)] u (PS (.inl (some (.int (vlI v a r)))) u) := ctp_mono (c_X11_valueOfA v T W a r ha hr u hK) (fun o t h => ⟨h.1, h.2.2⟩)
set_option maxHeartbeats 1000000 in
theorem c_X11_rentsOf {E : EE} (v : Sto) (T W a : Nat) (ha : a < T) (u : Sto) (hK : LK v u T W) : CtP E 34 0 yX11_rentsOf cX11_rentsOf 4 (some .int) [.ref (E.ad 178), .int (nI a)] u (PS (.inl (some (.int (rnI v a)))) u) := by
  refine ctp_of (by decide) (Nat.le_of_ble_eq_true rfl) (fun X h hR hrt htab hargs => ?_)
  have LP : ∀ (j k : Nat) (w : Sto), 168 < k + j → k ≤ 168 → sim w u → G E X (QMP E X (PS (.inl (some (.int (rnI v a)))) u) 0) 4 0 4 [(0, .ref (E.ad 178)), (1, .int (nI a)), (2, .int (smI (fun r => if v 4 r = nI a then rtI v a r else 0) k)), (3, .int (nI k))] [] w := by
    intro j
    induction j with
    | zero => intro k w h1 h2 hw; omega
    | succ j ih =>
      intro k w h1 h2 hw
      refine g_iload_n h dX11_rentsOf_4 rfl rfl ?_
      refine g_sipush (v := nI 168) h dX11_rentsOf_5 (by decide) ?_
      refine g_icmp_ge (tgt := 40) h dX11_rentsOf_8 (by decide) (fun c8 => ?_) (fun c8 => ?_)
      · have n8 := le_n (by omega) (by omega) (show nI (168) ≤ nI (k) from c8)
        refine g_iload_n h dX11_rentsOf_40 rfl rfl ?_
        exact g_iretP h hrt dX11_rentsOf_41 (by omega) ⟨by rw [show k = 168 by omega]; rfl, hw⟩
      · have n8 := nle_n (by omega) (by omega) (show ¬ nI (168) ≤ nI (k) from c8)
        refine g_iload_n h dX11_rentsOf_11 rfl rfl ?_
        refine g_aload_n h dX11_rentsOf_12 rfl rfl ?_
        refine g_iload_n h dX11_rentsOf_13 rfl rfl ?_
        refine g_iconst (v := nI 0) h dX11_rentsOf_14 (by decide) ?_
        refine g_V h lv_X11_84_X11 sh_178 (by decide) rfl (c_X11_ofRoom k 0 (by omega) (by decide) w) (fitR hR (by first | decide | omega) (by decide) (by omega)) rfl rfl (Nat.le_of_ble_eq_true rfl) dX11_rentsOf_15 ?_
        refine g_top (y := v 4 k) ((hK.sim hw).t.own k (by omega)) ?_
        refine g_iload_n h dX11_rentsOf_18 rfl rfl ?_
        refine g_icmp_ne (tgt := 31) h dX11_rentsOf_19 (by decide) (fun c19 => ?_) (fun c19 => ?_)
        · refine g_iconst (v := nI 0) h dX11_rentsOf_31 (by decide) ?_
          refine g_iadd h dX11_rentsOf_32 ?_
          refine g_istore_n (ls' := [(0, _), (1, _), (2, _), (3, _)]) h dX11_rentsOf_33 rfl (by decide) rfl rfl ?_
          refine g_iinc (v := nI (k + 1)) (ls' := [(0, _), (1, _), (2, _), (3, _)]) h dX11_rentsOf_34 rfl (nI_1 k) (by decide) rfl rfl ?_
          refine g_goto (tgt := 4) h dX11_rentsOf_37 (by decide) ?_
          exact g_cv (by rw [sm_s, if_neg c19]; rfl) rfl (ih (k + 1) w (by omega) (by omega) hw)
        · refine g_aload_n h dX11_rentsOf_22 rfl rfl ?_
          refine g_iload_n h dX11_rentsOf_23 rfl rfl ?_
          refine g_iload_n h dX11_rentsOf_24 rfl rfl ?_
          refine g_VP h lv_X11_274_X11 sh_178 (by decide) rfl (c_X11_rentOf v T W a k ha (by omega) w (hK.sim hw)) ps_nx (fitR hR (by first | decide | omega) (by decide) (by omega)) rfl rfl (Nat.le_of_ble_eq_true rfl) dX11_rentsOf_25 (fun v25 u25 hs25 => ?_)
          obtain ⟨hv25, hs25⟩ := hs25
          cases hv25
          refine g_goto (tgt := 32) h dX11_rentsOf_28 (by decide) ?_
          refine g_iadd h dX11_rentsOf_32 ?_
          refine g_istore_n (ls' := [(0, _), (1, _), (2, _), (3, _)]) h dX11_rentsOf_33 rfl (by decide) rfl rfl ?_
          refine g_iinc (v := nI (k + 1)) (ls' := [(0, _), (1, _), (2, _), (3, _)]) h dX11_rentsOf_34 rfl (nI_1 k) (by decide) rfl rfl ?_
          refine g_goto (tgt := 4) h dX11_rentsOf_37 (by decide) ?_
          exact g_cv (by rw [sm_s, if_pos c19]) rfl (ih (k + 1) u25 (by omega) (by omega) (hs25.trans hw))
  refine g_iconst (v := nI 0) h dX11_rentsOf_0 (by decide) ?_
  refine g_istore_n (ls' := [(0, _), (1, _), (2, _)]) h dX11_rentsOf_1 rfl (by decide) rfl rfl ?_
  refine g_iconst (v := nI 0) h dX11_rentsOf_2 (by decide) ?_
  refine g_istore_n (ls' := [(0, _), (1, _), (2, _), (3, _)]) h dX11_rentsOf_3 rfl (by decide) rfl rfl ?_
  exact LP (168 + 1) 0 u (by omega) (by omega) (sim.refl _)
set_option maxHeartbeats 1000000 in
theorem c_X11_goodsOf {E : EE} (x : Int32) (v : Sto) (T W : Nat) (u : Sto) (hK : LK v u T W) : Ct E 2 0 yX11_goodsOf cX11_goodsOf 4 (some .int) [.ref (E.ad 178), .int x] u (.inl (some (.int (gdI v x)))) (u) := by
  refine ct_of (by decide) (Nat.le_of_ble_eq_true rfl) (fun X h hR hrt htab hargs hini => ?_)
  have LP : ∀ j k : Nat, 168 < k + j → k ≤ 168 → G E X (QM E X (.inl (some (.int (gdI v x)))) (u) 0) 4 0 4 [(0, .ref (E.ad 178)), (1, .int x), (2, .int (smI (fun r => if lvT v 3 r = x then v 6 r else 0) k)), (3, .int (nI k))] [] (u) := by
    intro j
    induction j with
    | zero => intro k h1 h2; omega
    | succ j ih =>
      intro k h1 h2
      refine g_iload_n h dX11_goodsOf_4 rfl rfl ?_
      refine g_sipush (v := nI 168) h dX11_goodsOf_5 (by decide) ?_
      refine g_icmp_ge (tgt := 40) h dX11_goodsOf_8 (by decide) (fun c8 => ?_) (fun c8 => ?_)
      · have n8 := le_n (by omega) (by omega) (show nI (168) ≤ nI (k) from c8)
        refine g_iload_n h dX11_goodsOf_40 rfl rfl ?_
        exact g_iret h hrt dX11_goodsOf_41 (by omega) (by rw [show k = 168 by omega]; rfl) rfl
      · have n8 := nle_n (by omega) (by omega) (show ¬ nI (168) ≤ nI (k) from c8)
        refine g_iload_n h dX11_goodsOf_11 rfl rfl ?_
        refine g_aload_n h dX11_goodsOf_12 rfl rfl ?_
        refine g_iload_n h dX11_goodsOf_13 rfl rfl ?_
        refine g_iconst (v := nI 1) h dX11_goodsOf_14 (by decide) ?_
        refine g_V h lv_X11_84_X11 sh_178 (by decide) rfl (c_X11_ofRoom k 1 (by omega) (by decide) u) (fitR hR (by first | decide | omega) (by decide) (by omega)) rfl rfl (Nat.le_of_ble_eq_true rfl) dX11_goodsOf_15 ?_
        refine g_top (lv_g hK.t (by omega)) ?_
        refine g_iload_n h dX11_goodsOf_18 rfl rfl ?_
        refine g_icmp_ne (tgt := 31) h dX11_goodsOf_19 (by decide) (fun c19 => ?_) (fun c19 => ?_)
        · refine g_iconst (v := nI 0) h dX11_goodsOf_31 (by decide) ?_
          refine g_iadd h dX11_goodsOf_32 ?_
          refine g_istore_n (ls' := [(0, _), (1, _), (2, _), (3, _)]) h dX11_goodsOf_33 rfl (by decide) rfl rfl ?_
          refine g_iinc (v := nI (k + 1)) (ls' := [(0, _), (1, _), (2, _), (3, _)]) h dX11_goodsOf_34 rfl (nI_1 k) (by decide) rfl rfl ?_
          refine g_goto (tgt := 4) h dX11_goodsOf_37 (by decide) ?_
          exact g_cv (by rw [sm_s, if_neg c19]; rfl) rfl (ih (k + 1) (by omega) (by omega))
        · refine g_aload_n h dX11_goodsOf_22 rfl rfl ?_
          refine g_iload_n h dX11_goodsOf_23 rfl rfl ?_
          refine g_iconst (v := nI 2) h dX11_goodsOf_24 (by decide) ?_
          refine g_V h lv_X11_84_X11 sh_178 (by decide) rfl (c_X11_ofRoom k 2 (by omega) (by decide) u) (fitR hR (by first | decide | omega) (by decide) (by omega)) rfl rfl (Nat.le_of_ble_eq_true rfl) dX11_goodsOf_25 ?_
          refine g_top (gd_g hK.t (by omega)) ?_
          refine g_goto (tgt := 32) h dX11_goodsOf_28 (by decide) ?_
          refine g_iadd h dX11_goodsOf_32 ?_
          refine g_istore_n (ls' := [(0, _), (1, _), (2, _), (3, _)]) h dX11_goodsOf_33 rfl (by decide) rfl rfl ?_
          refine g_iinc (v := nI (k + 1)) (ls' := [(0, _), (1, _), (2, _), (3, _)]) h dX11_goodsOf_34 rfl (nI_1 k) (by decide) rfl rfl ?_
          refine g_goto (tgt := 4) h dX11_goodsOf_37 (by decide) ?_
          exact g_cv (by rw [sm_s, if_pos c19]) rfl (ih (k + 1) (by omega) (by omega))
  refine g_iconst (v := nI 0) h dX11_goodsOf_0 (by decide) ?_
  refine g_istore_n (ls' := [(0, _), (1, _), (2, _)]) h dX11_goodsOf_1 rfl (by decide) rfl rfl ?_
  refine g_iconst (v := nI 0) h dX11_goodsOf_2 (by decide) ?_
  refine g_istore_n (ls' := [(0, _), (1, _), (2, _), (3, _)]) h dX11_goodsOf_3 rfl (by decide) rfl rfl ?_
  exact LP (168 + 1) (0) (by omega) (by omega)
