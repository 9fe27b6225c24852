-- after: 9d.oh
def vim (a b : Sto) : Prop := ∀ k, 3 ≤ k → k ≤ 23 → a k = b k
theorem lvT_v {w u : Sto} (h : vim w u) (r : Nat) : lvT w 3 r = lvT u 3 r := by
  unfold lvT
  show (if w 5 r = -1 then w 4 r else w 5 r) = if u 5 r = -1 then u 4 r else u 5 r
  rw [h 4 (by omega) (by omega), h 5 (by omega) (by omega)]
theorem lk_v {w u : Sto} (h : vim w u) (a r : Nat) : b2 (lkP w a r) = b2 (lkP u a r) := b2_iff (by rw [lkP, lkP, h 11 (by omega) (by omega), h 12 (by omega) (by omega)])
theorem fct_v {w u : Sto} (h : vim w u) (a r : Nat) : fct w a r = fct u a r := by
  funext i
  unfold fct
  simp only [lk_v h, lvT_v h, h 7 (by omega) (by omega), h 8 (by omega) (by omega), h 6 (by omega) (by omega), h 3 (by omega) (by omega)]
theorem brP_v {w u : Sto} (h : vim w u) (a r : Nat) : brP w a r = brP u a r := by
  unfold brP
  rw [h 19 (by omega) (by omega), fct_v h, brB_cong _ (fun _ _ => rfl) (h 20 (by omega) (by omega)) (h 21 (by omega) (by omega)) (h 22 (by omega) (by omega))]
theorem rtI_v {w u : Sto} (h : vim w u) (a r : Nat) : rtI w a r = rtI u a r := by
  unfold rtI
  rw [h 19 (by omega) (by omega), fct_v h, slI_cong _ _ (fun _ _ => rfl) (h 20 (by omega) (by omega)) (h 21 (by omega) (by omega)) (h 22 (by omega) (by omega)) (h 23 (by omega) (by omega))]
theorem vlI_v {w u : Sto} (h : vim w u) (a r : Nat) : vlI w a r = vlI u a r := by
  unfold vlI
  rw [h 19 (by omega) (by omega), fct_v h, slI_cong _ _ (fun _ _ => rfl) (h 20 (by omega) (by omega)) (h 21 (by omega) (by omega)) (h 22 (by omega) (by omega)) (h 23 (by omega) (by omega)), lk_v h]
theorem vim_rm {v : Sto} {pf pc : Nat} : vim (rmS v pf pc) v := fun k h1 h2 => rmS_c (by omega) (by omega)
def pyF (g : Nat → Int32) (a : Nat) (x : Int32) : Nat → Int32 := upd (upd g (16 + 4 * a) (g (16 + 4 * a) - x)) 6 (g 6 + x)
theorem J_py {v : Sto} {g : Nat → Int32} {T W a : Nat} (h : J v g T W) (ha : a < T) (x : Int32) : J (pyS v a x) (pyF g a x) T W := by
  have hT := h.r.hT
  have h1 := J_till (J_coin h a ha (v 7 a - x)) (v 3 8 + x)
  unfold pyS pyF
  rw [show g (16 + 4 * a) = v 7 a from h.t.con a (by omega), show g 6 = v 3 8 from h.t.tl]
  exact h1
theorem so_cc {v : Sto} {r a k : Nat} (h1 : k ≠ 4) (h2 : k ≠ 5) (h3 : k ≠ 8) : soT v 3 r a k = v k := by
  unfold soT frT
  show su (su (su (su (if v 4 r = -1 then v else su v 8 _ _) 4 r (-1)) 5 r (-1)) 4 r (nI a)) 8 a _ k = _
  rw [su_cell _ _ h3, su_cell _ _ h1, su_cell _ _ h2, su_cell _ _ h1]
  split
  · rfl
  · rw [su_cell _ _ h3]
theorem fr_cc {v : Sto} {r k : Nat} (h1 : k ≠ 4) (h2 : k ≠ 5) (h3 : k ≠ 8) : frT v 3 r k = v k := by
  unfold frT
  show su (su (if v 4 r = -1 then v else su v 8 _ _) 4 r (-1)) 5 r (-1) k = _
  rw [su_cell _ _ h2, su_cell _ _ h1]
  split
  · rfl
  · rw [su_cell _ _ h3]
def ctG (g : Nat → Int32) (r a : Nat) (h : Int32) : Nat → Int32 := wrF (hsF g r (nI a) (nI a)) (nI r) (nI a) h
theorem J_ct {v : Sto} {g : Nat → Int32} {T W r a h wk : Nat} (hJ : J v g T W) (hw : v 3 9 = nI wk) (hwk : wk < 2 ^ 17) (hr : r < 168) (ha : a < T) (hm : v 13 a = -1) (hh : h < 8) : J (ctT v 3 r a (nI h)) (ctG g r a (nI h)) T W :=
  J_en (J_set hJ hr ha hm) (by rw [so_cc (by decide) (by decide) (by decide)]; exact hw) hwk hr ha hh
def tkG (g : Nat → Int32) (a r : Nat) (h x : Int32) : Nat → Int32 := ctG (pyF g a x) r a h
theorem J_tk {v : Sto} {g : Nat → Int32} {T W r a h wk : Nat} (hJ : J v g T W) (hw : v 3 9 = nI wk) (hwk : wk < 2 ^ 17) (hr : r < 168) (ha : a < T) (hm : v 13 a = -1) (hh : h < 8) : J (gvS v a r (nI h)) (tkG g a r (nI h) (rtI v a r)) T W := by
  refine J_ct (J_py hJ ha _) ?_ hwk hr ha ?_ hh
  · unfold pyS; rw [su_i (by decide), su_cell _ _ (by decide)]; exact hw
  · unfold pyS; rw [su_cell _ _ (by decide), su_cell _ _ (by decide)]; exact hm
/-- a store like R0 but for the model's row, which is g -/
def K9 (t R0 : Sto) (g : Nat → Int32) : Prop := (∀ k j, k ≠ 179 → scrB k j = false → t k j = R0 k j) ∧ t 179 = g
theorem k9_0 {R R0 : Sto} (h : sim R R0) : K9 R R0 (R0 179) := ⟨fun k j _ hs => h k j hs, h.cell 179 (fun j => by simp [scrB])⟩
theorem k9_su {t R0 : Sto} {g : Nat → Int32} (h : K9 t R0 g) (j : Nat) (x : Int32) : K9 (su t 179 j x) R0 (upd g j x) := ⟨fun k i hk hs => by rw [su_cell _ _ hk]; exact h.1 k i hk hs, by rw [su_at, h.2]⟩
theorem k9_has {t R0 : Sto} {g : Nat → Int32} (h : K9 t R0 g) (r : Nat) (x y : Int32) : K9 (su (su t 179 (88 + 4 * r) x) 179 (89 + 4 * r) y) R0 (hsF g r x y) := k9_su (k9_su h _ _) _ _
theorem k9_py {t R0 : Sto} {g : Nat → Int32} (h : K9 t R0 g) (a : Nat) (x : Int32) : K9 (pyM t a x) R0 (pyF g a x) := by
  unfold pyM pyF
  rw [h.2]
  exact k9_su (k9_su h _ _) _ _
theorem k9_wr {t R0 : Sto} {g : Nat → Int32} (h : K9 t R0 g) (r a w : Int32) : K9 (sc t 179 (wrF (t 179) r a w)) R0 (wrF g r a w) := ⟨fun k j hk hs => by rw [sc_ne _ _ hk]; exact h.1 k j hk hs, by rw [sc_at, h.2]⟩
theorem k9_sim {t w R0 : Sto} {g : Nat → Int32} (h : K9 t R0 g) (hs : sim w t) : K9 w R0 g := ⟨fun k j hk hj => (hs k j hj).trans (h.1 k j hk hj), (hs.cell 179 (fun j => by simp [scrB])).trans h.2⟩
theorem k9_f {t R0 : Sto} {g : Nat → Int32} (h : K9 t R0 g) : sim t (sc R0 179 g) := fun k j hj => by
  by_cases e : k = 179
  · subst e; rw [sc_at, h.2]
  · rw [sc_ne _ _ e]; exact h.1 k j e hj
theorem k9_tr {t s R0 : Sto} {g g' : Nat → Int32} (h : K9 t s g') (h2 : K9 s R0 g) : K9 t R0 g' := ⟨fun k j hk hs => (h.1 k j hk hs).trans (h2.1 k j hk hs), h.2⟩
theorem k9_K {v t R0 u : Sto} {g : Nat → Int32} {T W : Nat} (h : K9 t R0 g) (hK : LK v u T W) (e : g = u 179) : LK v t T W := hK.c (h.2.trans e)
set_option maxHeartbeats 1000000 in
theorem c_X11_mayTake {E : EE} (v : Sto) (T W a r : Nat) (ha : a < T) (hr : r < 168) (u : Sto) (hK : LK v u T W) (hRi : RI v 10 T W) : CtP E 33 0 yX11_mayTake cX11_mayTake 3 (some .boolean) [.ref (E.ad 178), .int (nI a), .int (nI r)] u (PS (.inl (some (.int (b2 (mtP v a r (v 7 a)))))) u) := by
  refine ctp_of (by decide) (Nat.le_of_ble_eq_true rfl) (fun X h hR hrt htab hargs => ?_)
  refine g_aload_n h dX11_mayTake_0 rfl rfl ?_
  refine g_iload_n h dX11_mayTake_1 rfl rfl ?_
  refine g_V h lv_X11_80_X11 sh_178 (by decide) rfl (c_X11_isChild a v T W ha u hK.r) (fitR hR (by first | decide | omega) (by decide) (by omega)) rfl rfl (Nat.le_of_ble_eq_true rfl) dX11_mayTake_2 ?_
  by_cases n2 : v 13 a = -1
  · refine g_top (b2_f (fun q => q n2)) ?_
    refine g_if_ne (tgt := 28) h dX11_mayTake_5 (by decide) (fun q => absurd q (by decide)) (fun _ => ?_)
    refine g_aload_n h dX11_mayTake_8 rfl rfl ?_
    refine g_iload_n h dX11_mayTake_9 rfl rfl ?_
    refine g_iconst (v := nI 0) h dX11_mayTake_10 (by decide) ?_
    refine g_V h lv_X11_84_X11 sh_178 (by decide) rfl (c_X11_ofRoom r 0 hr (by decide) u) (fitR hR (by first | decide | omega) (by decide) (by omega)) rfl rfl (Nat.le_of_ble_eq_true rfl) dX11_mayTake_11 ?_
    refine g_top (hK.own hr) ?_
    refine g_iconst (v := -1) h dX11_mayTake_14 (by decide) ?_
    refine g_icmp_ne (tgt := 28) h dX11_mayTake_15 (by decide) (fun c15 => ?_) (fun c15 => ?_)
    · refine g_iconst (v := nI 0) h dX11_mayTake_28 (by decide) ?_
      exact g_zretP h hrt dX11_mayTake_29 (by omega) (by first | exact Or.inl rfl | exact Or.inr rfl | exact b2_01 _ | exact hF.2.2.2.1 | exact hF.2.2.2.2 | exact hy | exact hv | simp) ⟨by rw [b2_f (p := mtP v a r (v 7 a)) (fun q => c15 q.2.1)], sim.refl _⟩
    · refine g_aload_n h dX11_mayTake_18 rfl rfl ?_
      refine g_iload_n h dX11_mayTake_19 rfl rfl ?_
      refine g_iconst (v := nI 3) h dX11_mayTake_20 (by decide) ?_
      refine g_V h lv_X11_84_X11 sh_178 (by decide) rfl (c_X11_ofRoom r 3 hr (by decide) u) (fitR hR (by first | decide | omega) (by decide) (by omega)) rfl rfl (Nat.le_of_ble_eq_true rfl) dX11_mayTake_21 ?_
      refine g_top (hK.sht hr) ?_
      refine g_iconst (v := nI 1) h dX11_mayTake_24 (by decide) ?_
      refine g_icmp_ne (tgt := 30) h dX11_mayTake_25 (by decide) (fun c25 => ?_) (fun c25 => ?_)
      · refine g_aload_n h dX11_mayTake_30 rfl rfl ?_
        refine g_iload_n h dX11_mayTake_31 rfl rfl ?_
        refine g_iload_n h dX11_mayTake_32 rfl rfl ?_
        refine g_VP h lv_X11_270_X11 sh_178 (by decide) rfl (c_X11_asks v T W a r ha hr u hK) qa_nx (fitR hR (by first | decide | omega) (by decide) (by omega)) rfl rfl (Nat.le_of_ble_eq_true rfl) dX11_mayTake_33 (fun v33 u33 hs33 => ?_)
        obtain ⟨hv33, hs33, ha17, ha18, ha19⟩ := hs33
        · cases hv33
          refine g_aload_n h dX11_mayTake_36 rfl rfl ?_
          refine g_getI h fl_X11_257_10 sh_178 (by decide) rfl dX11_mayTake_37 ?_
          refine g_top ha17 ?_
          refine g_if_ne (tgt := 60) h dX11_mayTake_40 (by decide) (fun c40 => ?_) (fun c40 => ?_)
          · refine g_iconst (v := nI 0) h dX11_mayTake_60 (by decide) ?_
            exact g_zretP h hrt dX11_mayTake_61 (by omega) (by first | exact Or.inl rfl | exact Or.inr rfl | exact b2_01 _ | exact hF.2.2.2.1 | exact hF.2.2.2.2 | exact hy | exact hv | simp) ⟨by rw [b2_f (p := mtP v a r (v 7 a)) (fun q => by have := b2_n0.mp c40; rw [q.2.2.2.1] at this; exact absurd this (by decide))], hs33⟩
          · refine g_aload_n h dX11_mayTake_43 rfl rfl ?_
            refine g_iload_n h dX11_mayTake_44 rfl rfl ?_
            refine g_iconst (v := nI 0) h dX11_mayTake_45 (by decide) ?_
            refine g_V h lv_X11_76_X11 sh_178 (by decide) rfl (c_X11_of a 0 (by have := hK.hT; omega) (by decide) u33) (fitR hR (by first | decide | omega) (by decide) (by omega)) rfl rfl (Nat.le_of_ble_eq_true rfl) dX11_mayTake_46 ?_
            refine g_top ((hK.sim hs33).con ha) ?_
            refine g_aload_n h dX11_mayTake_49 rfl rfl ?_
            refine g_getI h fl_X11_260_10 sh_178 (by decide) rfl dX11_mayTake_50 ?_
            refine g_top ha18 ?_
            refine g_icmp_lt (tgt := 60) h dX11_mayTake_53 (by decide) (fun c53 => ?_) (fun c53 => ?_)
            · refine g_iconst (v := nI 0) h dX11_mayTake_60 (by decide) ?_
              exact g_zretP h hrt dX11_mayTake_61 (by omega) (by first | exact Or.inl rfl | exact Or.inr rfl | exact b2_01 _ | exact hF.2.2.2.1 | exact hF.2.2.2.2 | exact hy | exact hv | simp) ⟨by rw [b2_f (p := mtP v a r (v 7 a)) (fun q => q.2.2.2.2 c53)], hs33⟩
            · refine g_iconst (v := nI 1) h dX11_mayTake_56 (by decide) ?_
              refine g_goto (tgt := 61) h dX11_mayTake_57 (by decide) ?_
              exact g_zretP h hrt dX11_mayTake_61 (by omega) (by first | exact Or.inl rfl | exact Or.inr rfl | exact b2_01 _ | exact hF.2.2.2.1 | exact hF.2.2.2.2 | exact hy | exact hv | simp) ⟨by rw [b2_t (p := mtP v a r (v 7 a)) ⟨n2, c15, (hRi.sht r hr).resolve_right c25, Bool.eq_false_iff.mpr (b2_0.mp c40), by first | exact c53 | exact Int32.not_lt.mpr c53⟩], hs33⟩
      · refine g_iconst (v := nI 0) h dX11_mayTake_28 (by decide) ?_
        exact g_zretP h hrt dX11_mayTake_29 (by omega) (by first | exact Or.inl rfl | exact Or.inr rfl | exact b2_01 _ | exact hF.2.2.2.1 | exact hF.2.2.2.2 | exact hy | exact hv | simp) ⟨by rw [b2_f (p := mtP v a r (v 7 a)) (fun q => absurd (c25.symm.trans q.2.2.1) (by decide))], sim.refl _⟩
  · refine g_top (b2_t n2) ?_
    refine g_if_ne (tgt := 28) h dX11_mayTake_5 (by decide) (fun _ => ?_) (fun q => absurd q (by decide))
    refine g_iconst (v := nI 0) h dX11_mayTake_28 (by decide) ?_
    exact g_zretP h hrt dX11_mayTake_29 (by omega) (by first | exact Or.inl rfl | exact Or.inr rfl | exact b2_01 _ | exact hF.2.2.2.1 | exact hF.2.2.2.2 | exact hy | exact hv | simp) ⟨by rw [b2_f (p := mtP v a r (v 7 a)) (fun q => n2 q.1)], sim.refl _⟩
set_option maxHeartbeats 1000000 in
theorem c_X11_maySublet {E : EE} (v : Sto) (T W r a : Nat) (hr : r < 168) (ha : a < T) (x : Int32) (u : Sto) (hK : LK v u T W) (hI : TI v 3 10 T) : CtP E 34 0 yX11_maySublet cX11_maySublet 5 (some .boolean) [.ref (E.ad 178), .int (nI r), .int (nI a), .int x] u (PS (.inl (some (.int (b2 (msP v r a x))))) u) := by
  refine ctp_of (by decide) (Nat.le_of_ble_eq_true rfl) (fun X h hR hrt htab hargs => ?_)
  refine g_aload_n h dX11_maySublet_0 rfl rfl ?_
  refine g_iload_n h dX11_maySublet_1 rfl rfl ?_
  refine g_iconst (v := nI 0) h dX11_maySublet_2 (by decide) ?_
  refine g_V h lv_X11_84_X11 sh_178 (by decide) rfl (c_X11_ofRoom r 0 hr (by decide) u) (fitR hR (by first | decide | omega) (by decide) (by omega)) rfl rfl (Nat.le_of_ble_eq_true rfl) dX11_maySublet_3 ?_
  refine g_top (hK.own hr) ?_
  refine g_istore (ls' := [(0, _), (1, _), (2, _), (3, _), (4, _)]) h dX11_maySublet_6 (by decide) rfl rfl ?_
  refine g_iload h dX11_maySublet_8 rfl ?_
  refine g_iconst (v := -1) h dX11_maySublet_10 (by decide) ?_
  refine g_icmp_eq (tgt := 36) h dX11_maySublet_11 (by decide) (fun c11 => ?_) (fun c11 => ?_)
  · refine g_iconst (v := nI 0) h dX11_maySublet_36 (by decide) ?_
    exact g_zretP h hrt dX11_maySublet_37 (by omega) (by first | exact Or.inl rfl | exact Or.inr rfl | exact b2_01 _ | exact hF.2.2.2.1 | exact hF.2.2.2.2 | exact hy | exact hv | simp) ⟨by rw [b2_f (p := msP v r a x) (fun q => q.1 c11)], sim.refl _⟩
  · refine g_iload h dX11_maySublet_14 rfl ?_
    refine g_iload_n h dX11_maySublet_16 rfl rfl ?_
    refine g_icmp_eq (tgt := 36) h dX11_maySublet_17 (by decide) (fun c17 => ?_) (fun c17 => ?_)
    · refine g_iconst (v := nI 0) h dX11_maySublet_36 (by decide) ?_
      exact g_zretP h hrt dX11_maySublet_37 (by omega) (by first | exact Or.inl rfl | exact Or.inr rfl | exact b2_01 _ | exact hF.2.2.2.1 | exact hF.2.2.2.2 | exact hy | exact hv | simp) ⟨by rw [b2_f (p := msP v r a x) (fun q => q.2.2.1 c17)], sim.refl _⟩
    · refine g_aload_n h dX11_maySublet_20 rfl rfl ?_
      refine g_iload_n h dX11_maySublet_21 rfl rfl ?_
      refine g_V h lv_X11_311_X11 sh_178 (by decide) rfl (c_X11_isSublet r hr v T W u hK.t) (fitR hR (by first | decide | omega) (by decide) (by omega)) rfl rfl (Nat.le_of_ble_eq_true rfl) dX11_maySublet_22 ?_
      refine g_if_ne (tgt := 36) h dX11_maySublet_25 (by decide) (fun c25 => ?_) (fun c25 => ?_)
      · refine g_iconst (v := nI 0) h dX11_maySublet_36 (by decide) ?_
        exact g_zretP h hrt dX11_maySublet_37 (by omega) (by first | exact Or.inl rfl | exact Or.inr rfl | exact b2_01 _ | exact hF.2.2.2.1 | exact hF.2.2.2.2 | exact hy | exact hv | simp) ⟨by rw [b2_f (p := msP v r a x) (fun q => b2_n0.mp c25 ((hI.sbl hr).mpr q.2.1))], sim.refl _⟩
      · refine g_aload_n h dX11_maySublet_28 rfl rfl ?_
        refine g_iload_n h dX11_maySublet_29 rfl rfl ?_
        refine g_V h lv_X11_80_X11 sh_178 (by decide) rfl (c_X11_isChild a v T W ha u hK.r) (fitR hR (by first | decide | omega) (by decide) (by omega)) rfl rfl (Nat.le_of_ble_eq_true rfl) dX11_maySublet_30 ?_
        by_cases n30 : v 13 a = -1
        · refine g_top (b2_f (fun q => q n30)) ?_
          refine g_if_eq (tgt := 38) h dX11_maySublet_33 (by decide) (fun _ => ?_) (fun q => absurd q (by decide))
          refine g_aload_n h dX11_maySublet_38 rfl rfl ?_
          refine g_iload_n h dX11_maySublet_39 rfl rfl ?_
          refine g_iconst (v := nI 0) h dX11_maySublet_40 (by decide) ?_
          refine g_V h lv_X11_76_X11 sh_178 (by decide) rfl (c_X11_of a 0 (by have := hK.hT; omega) (by decide) u) (fitR hR (by first | decide | omega) (by decide) (by omega)) rfl rfl (Nat.le_of_ble_eq_true rfl) dX11_maySublet_41 ?_
          refine g_top (hK.con ha) ?_
          refine g_iload_n h dX11_maySublet_44 rfl rfl ?_
          refine g_icmp_lt (tgt := 61) h dX11_maySublet_45 (by decide) (fun c45 => ?_) (fun c45 => ?_)
          · refine g_iconst (v := nI 0) h dX11_maySublet_61 (by decide) ?_
            exact g_zretP h hrt dX11_maySublet_62 (by omega) (by first | exact Or.inl rfl | exact Or.inr rfl | exact b2_01 _ | exact hF.2.2.2.1 | exact hF.2.2.2.2 | exact hy | exact hv | simp) ⟨by rw [b2_f (p := msP v r a x) (fun q => q.2.2.2.2.1 c45)], sim.refl _⟩
          · refine g_aload_n h dX11_maySublet_48 rfl rfl ?_
            refine g_iload_n h dX11_maySublet_49 rfl rfl ?_
            refine g_iload_n h dX11_maySublet_50 rfl rfl ?_
            refine g_VP h lv_X11_314_X11 sh_178 (by decide) rfl (c_X11_isBarred v T W a r ha hr u hK) ps_nx (fitR hR (by first | decide | omega) (by decide) (by omega)) rfl rfl (Nat.le_of_ble_eq_true rfl) dX11_maySublet_51 (fun v51 u51 hs51 => ?_)
            obtain ⟨hv51, hs51⟩ := hs51
            cases hv51
            refine g_if_ne (tgt := 61) h dX11_maySublet_54 (by decide) (fun c54 => ?_) (fun c54 => ?_)
            · refine g_iconst (v := nI 0) h dX11_maySublet_61 (by decide) ?_
              exact g_zretP h hrt dX11_maySublet_62 (by omega) (by first | exact Or.inl rfl | exact Or.inr rfl | exact b2_01 _ | exact hF.2.2.2.1 | exact hF.2.2.2.2 | exact hy | exact hv | simp) ⟨by rw [b2_f (p := msP v r a x) (fun q => by have := b2_n0.mp c54; rw [q.2.2.2.2.2] at this; exact absurd this (by decide))], hs51⟩
            · refine g_iconst (v := nI 1) h dX11_maySublet_57 (by decide) ?_
              refine g_goto (tgt := 62) h dX11_maySublet_58 (by decide) ?_
              exact g_zretP h hrt dX11_maySublet_62 (by omega) (by first | exact Or.inl rfl | exact Or.inr rfl | exact b2_01 _ | exact hF.2.2.2.1 | exact hF.2.2.2.2 | exact hy | exact hv | simp) ⟨by rw [b2_t (p := msP v r a x) ⟨c11, (hI.sbl hr).mp (Decidable.not_not.mp (b2_0.mp c25)), c17, n30, by first | exact c45 | exact Int32.not_lt.mpr c45, Bool.eq_false_iff.mpr (b2_0.mp c54)⟩], hs51⟩
        · refine g_top (b2_t n30) ?_
          refine g_if_eq (tgt := 38) h dX11_maySublet_33 (by decide) (fun q => absurd q (by decide)) (fun _ => ?_)
          refine g_iconst (v := nI 0) h dX11_maySublet_36 (by decide) ?_
          exact g_zretP h hrt dX11_maySublet_37 (by omega) (by first | exact Or.inl rfl | exact Or.inr rfl | exact b2_01 _ | exact hF.2.2.2.1 | exact hF.2.2.2.2 | exact hy | exact hv | simp) ⟨by rw [b2_f (p := msP v r a x) (fun q => n30 q.2.2.2.1)], sim.refl _⟩
set_option maxHeartbeats 1000000 in
theorem c_X11_maySwap {E : EE} (v : Sto) (T W r o : Nat) (hr : r < 168) (ho : o < 168) (u : Sto) (hK : LK v u T W) (hI : TI v 3 10 T) : CtP E 34 0 yX11_maySwap cX11_maySwap 5 (some .boolean) [.ref (E.ad 178), .int (nI r), .int (nI o)] u (PS (.inl (some (.int (b2 (mwQ v r o))))) u) := by
  refine ctp_of (by decide) (Nat.le_of_ble_eq_true rfl) (fun X h hR hrt htab hargs => ?_)
  refine g_aload_n h dX11_maySwap_0 rfl rfl ?_
  refine g_iload_n h dX11_maySwap_1 rfl rfl ?_
  refine g_iconst (v := nI 0) h dX11_maySwap_2 (by decide) ?_
  refine g_V h lv_X11_84_X11 sh_178 (by decide) rfl (c_X11_ofRoom r 0 hr (by decide) u) (fitR hR (by first | decide | omega) (by decide) (by omega)) rfl rfl (Nat.le_of_ble_eq_true rfl) dX11_maySwap_3 ?_
  refine g_top (hK.own hr) ?_
  refine g_istore_n (ls' := [(0, _), (1, _), (2, _), (3, _)]) h dX11_maySwap_6 rfl (by decide) rfl rfl ?_
  refine g_aload_n h dX11_maySwap_7 rfl rfl ?_
  refine g_iload_n h dX11_maySwap_8 rfl rfl ?_
  refine g_iconst (v := nI 0) h dX11_maySwap_9 (by decide) ?_
  refine g_V h lv_X11_84_X11 sh_178 (by decide) rfl (c_X11_ofRoom o 0 ho (by decide) u) (fitR hR (by first | decide | omega) (by decide) (by omega)) rfl rfl (Nat.le_of_ble_eq_true rfl) dX11_maySwap_10 ?_
  refine g_top (hK.own ho) ?_
  refine g_istore (ls' := [(0, _), (1, _), (2, _), (3, _), (4, _)]) h dX11_maySwap_13 (by decide) rfl rfl ?_
  refine g_iload_n h dX11_maySwap_15 rfl rfl ?_
  refine g_iconst (v := -1) h dX11_maySwap_16 (by decide) ?_
  refine g_icmp_eq (tgt := 48) h dX11_maySwap_17 (by decide) (fun c17 => ?_) (fun c17 => ?_)
  · refine g_iconst (v := nI 0) h dX11_maySwap_48 (by decide) ?_
    exact g_zretP h hrt dX11_maySwap_49 (by omega) (by first | exact Or.inl rfl | exact Or.inr rfl | exact b2_01 _ | exact hF.2.2.2.1 | exact hF.2.2.2.2 | exact hy | exact hv | simp) ⟨by rw [b2_f (p := mwQ v r o) (fun q => q.1 c17)], sim.refl _⟩
  · refine g_iload h dX11_maySwap_20 rfl ?_
    refine g_iconst (v := -1) h dX11_maySwap_22 (by decide) ?_
    refine g_icmp_eq (tgt := 48) h dX11_maySwap_23 (by decide) (fun c23 => ?_) (fun c23 => ?_)
    · refine g_iconst (v := nI 0) h dX11_maySwap_48 (by decide) ?_
      exact g_zretP h hrt dX11_maySwap_49 (by omega) (by first | exact Or.inl rfl | exact Or.inr rfl | exact b2_01 _ | exact hF.2.2.2.1 | exact hF.2.2.2.2 | exact hy | exact hv | simp) ⟨by rw [b2_f (p := mwQ v r o) (fun q => q.2.1 c23)], sim.refl _⟩
    · refine g_iload_n h dX11_maySwap_26 rfl rfl ?_
      refine g_iload h dX11_maySwap_27 rfl ?_
      refine g_icmp_eq (tgt := 48) h dX11_maySwap_29 (by decide) (fun c29 => ?_) (fun c29 => ?_)
      · refine g_iconst (v := nI 0) h dX11_maySwap_48 (by decide) ?_
        exact g_zretP h hrt dX11_maySwap_49 (by omega) (by first | exact Or.inl rfl | exact Or.inr rfl | exact b2_01 _ | exact hF.2.2.2.1 | exact hF.2.2.2.2 | exact hy | exact hv | simp) ⟨by rw [b2_f (p := mwQ v r o) (fun q => q.2.2.1 c29)], sim.refl _⟩
      · refine g_aload_n h dX11_maySwap_32 rfl rfl ?_
        refine g_iload_n h dX11_maySwap_33 rfl rfl ?_
        refine g_V h lv_X11_311_X11 sh_178 (by decide) rfl (c_X11_isSublet r hr v T W u hK.t) (fitR hR (by first | decide | omega) (by decide) (by omega)) rfl rfl (Nat.le_of_ble_eq_true rfl) dX11_maySwap_34 ?_
        refine g_if_ne (tgt := 48) h dX11_maySwap_37 (by decide) (fun c37 => ?_) (fun c37 => ?_)
        · refine g_iconst (v := nI 0) h dX11_maySwap_48 (by decide) ?_
          exact g_zretP h hrt dX11_maySwap_49 (by omega) (by first | exact Or.inl rfl | exact Or.inr rfl | exact b2_01 _ | exact hF.2.2.2.1 | exact hF.2.2.2.2 | exact hy | exact hv | simp) ⟨by rw [b2_f (p := mwQ v r o) (fun q => b2_n0.mp c37 ((hI.sbl hr).mpr q.2.2.2.1))], sim.refl _⟩
        · refine g_aload_n h dX11_maySwap_40 rfl rfl ?_
          refine g_iload_n h dX11_maySwap_41 rfl rfl ?_
          refine g_V h lv_X11_311_X11 sh_178 (by decide) rfl (c_X11_isSublet o ho v T W u hK.t) (fitR hR (by first | decide | omega) (by decide) (by omega)) rfl rfl (Nat.le_of_ble_eq_true rfl) dX11_maySwap_42 ?_
          refine g_if_eq (tgt := 50) h dX11_maySwap_45 (by decide) (fun c45 => ?_) (fun c45 => ?_)
          · obtain ⟨a, ha, ea, -⟩ := (hI.own r hr).resolve_left c17
            obtain ⟨b, hb, eb, -⟩ := (hI.own o ho).resolve_left c23
            have hT := hK.hT
            have ea : v 4 r = nI a := ea
            have eb : v 4 o = nI b := eb
            have ia : ix (v 4 r) = a := by rw [ea]; exact ix_nI (by omega)
            have ib : ix (v 4 o) = b := by rw [eb]; exact ix_nI (by omega)
            refine g_aload_n h dX11_maySwap_50 rfl rfl ?_
            refine g_iload h dX11_maySwap_51 rfl ?_
            refine g_top eb ?_
            refine g_iload_n h dX11_maySwap_53 rfl rfl ?_
            refine g_VP h lv_X11_314_X11 sh_178 (by decide) rfl (c_X11_isBarred v T W b r hb hr u hK) ps_nx (fitR hR (by first | decide | omega) (by decide) (by omega)) rfl rfl (Nat.le_of_ble_eq_true rfl) dX11_maySwap_54 (fun v54 u54 hs54 => ?_)
            obtain ⟨hv54, hs54⟩ := hs54
            cases hv54
            refine g_if_ne (tgt := 73) h dX11_maySwap_57 (by decide) (fun c57 => ?_) (fun c57 => ?_)
            · refine g_iconst (v := nI 0) h dX11_maySwap_73 (by decide) ?_
              exact g_zretP h hrt dX11_maySwap_74 (by omega) (by first | exact Or.inl rfl | exact Or.inr rfl | exact b2_01 _ | exact hF.2.2.2.1 | exact hF.2.2.2.2 | exact hy | exact hv | simp) ⟨by rw [b2_f (p := mwQ v r o) (fun q => by have z9 := q.2.2.2.2.2.1; rw [ib, b2_n0.mp c57] at z9; exact absurd z9 (by decide))], hs54⟩
            · refine g_aload_n h dX11_maySwap_60 rfl rfl ?_
              refine g_iload_n h dX11_maySwap_61 rfl rfl ?_
              refine g_top ea ?_
              refine g_iload_n h dX11_maySwap_62 rfl rfl ?_
              refine g_VP h lv_X11_314_X11 sh_178 (by decide) rfl (c_X11_isBarred v T W a o ha ho u54 (hK.sim hs54)) ps_nx (fitR hR (by first | decide | omega) (by decide) (by omega)) rfl rfl (Nat.le_of_ble_eq_true rfl) dX11_maySwap_63 (fun v63 u63 hs63 => ?_)
              obtain ⟨hv63, hs63⟩ := hs63
              cases hv63
              refine g_if_ne (tgt := 73) h dX11_maySwap_66 (by decide) (fun c66 => ?_) (fun c66 => ?_)
              · refine g_iconst (v := nI 0) h dX11_maySwap_73 (by decide) ?_
                exact g_zretP h hrt dX11_maySwap_74 (by omega) (by first | exact Or.inl rfl | exact Or.inr rfl | exact b2_01 _ | exact hF.2.2.2.1 | exact hF.2.2.2.2 | exact hy | exact hv | simp) ⟨by rw [b2_f (p := mwQ v r o) (fun q => by have z9 := q.2.2.2.2.2.2; rw [ia, b2_n0.mp c66] at z9; exact absurd z9 (by decide))], hs63.trans hs54⟩
              · refine g_iconst (v := nI 1) h dX11_maySwap_69 (by decide) ?_
                refine g_goto (tgt := 74) h dX11_maySwap_70 (by decide) ?_
                exact g_zretP h hrt dX11_maySwap_74 (by omega) (by first | exact Or.inl rfl | exact Or.inr rfl | exact b2_01 _ | exact hF.2.2.2.1 | exact hF.2.2.2.2 | exact hy | exact hv | simp) ⟨by rw [b2_t (p := mwQ v r o) ⟨c17, c23, c29, (hI.sbl hr).mp (Decidable.not_not.mp (b2_0.mp c37)), (hI.sbl ho).mp (Decidable.not_not.mp (b2_0.mp c45)), by rw [ib]; exact Bool.eq_false_iff.mpr (b2_0.mp c57), by rw [ia]; exact Bool.eq_false_iff.mpr (b2_0.mp c66)⟩], hs63.trans hs54⟩
          · refine g_iconst (v := nI 0) h dX11_maySwap_48 (by decide) ?_
            exact g_zretP h hrt dX11_maySwap_49 (by omega) (by first | exact Or.inl rfl | exact Or.inr rfl | exact b2_01 _ | exact hF.2.2.2.1 | exact hF.2.2.2.2 | exact hy | exact hv | simp) ⟨by rw [b2_f (p := mwQ v r o) (fun q => b2_n0.mp c45 ((hI.sbl ho).mpr q.2.2.2.2.1))], sim.refl _⟩
set_option maxHeartbeats 1000000 in
theorem c_X11_takes {E : EE} (v : Sto) (T W a r : Nat) (ha : a < T) (hr : r < 168) (x : Int32) (u : Sto) (hK : LK v u T W) : CtP E 34 0 yX11_takes cX11_takes 5 (some .int) [.ref (E.ad 178), .int (nI a), .int (nI r), .int x] u (fun o t => o = .inl (some (.int (rtI v a r))) ∧ K9 t u (tkG (u 179) a r x (rtI v a r))) := by
  refine ctp_of (by decide) (Nat.le_of_ble_eq_true rfl) (fun X h hR hrt htab hargs => ?_)
  refine g_aload_n h dX11_takes_0 rfl rfl ?_
  refine g_iload_n h dX11_takes_1 rfl rfl ?_
  refine g_iload_n h dX11_takes_2 rfl rfl ?_
  refine g_VP h lv_X11_274_X11 sh_178 (by decide) rfl (c_X11_rentOf v T W a r ha hr u hK) ps_nx (fitR hR (by first | decide | omega) (by decide) (by omega)) rfl rfl (Nat.le_of_ble_eq_true rfl) dX11_takes_3 (fun v3 u3 hs3 => ?_)
  obtain ⟨hv3, hs3⟩ := hs3
  cases hv3
  refine g_istore (ls' := [(0, _), (1, _), (2, _), (3, _), (4, _)]) h dX11_takes_6 (by decide) rfl rfl ?_
  refine g_aload_n h dX11_takes_8 rfl rfl ?_
  refine g_iload_n h dX11_takes_9 rfl rfl ?_
  refine g_iload h dX11_takes_10 rfl ?_
  refine g_V h lv_X11_295_X11 sh_178 (by decide) rfl (c_X11_pays a (by have := hK.hT; omega) _ _) (fitR hR (by first | decide | omega) (by decide) (by omega)) rfl rfl (Nat.le_of_ble_eq_true rfl) dX11_takes_12 ?_
  refine g_aload_n h dX11_takes_15 rfl rfl ?_
  refine g_iload_n h dX11_takes_16 rfl rfl ?_
  refine g_iload_n h dX11_takes_17 rfl rfl ?_
  refine g_iload_n h dX11_takes_18 rfl rfl ?_
  refine g_V h lv_X11_149_X11 sh_178 (by decide) rfl (c_X11_has r hr _ _ _) (fitR hR (by first | decide | omega) (by decide) (by omega)) rfl rfl (Nat.le_of_ble_eq_true rfl) dX11_takes_19 ?_
  refine g_aload_n h dX11_takes_22 rfl rfl ?_
  refine g_iload_n h dX11_takes_23 rfl rfl ?_
  refine g_iload_n h dX11_takes_24 rfl rfl ?_
  refine g_iload_n h dX11_takes_25 rfl rfl ?_
  refine g_V h lv_X11_298_X11 sh_178 (by decide) rfl (c_X11_writes _ _ _ _) (fitR hR (by first | decide | omega) (by decide) (by omega)) rfl rfl (Nat.le_of_ble_eq_true rfl) dX11_takes_26 ?_
  refine g_iload h dX11_takes_29 rfl ?_
  exact g_iretP h hrt dX11_takes_31 (by omega) ⟨rfl, k9_wr (k9_has (k9_py (k9_0 hs3) _ _) _ _ _) _ _ _⟩
