-- after: 9h.ol
def N9 (w u : Sto) : Prop := ∀ k j, k ≠ 179 → scrB k j = false → w k j = u k j
theorem N9.trans {a b c : Sto} (h : N9 a b) (g : N9 b c) : N9 a c := fun k j hk hs => (h k j hk hs).trans (g k j hk hs)
/-- the model's row beside v, all else as in u -/
def SJ (v w u : Sto) (T W : Nat) : Prop := J v (w 179) T W ∧ (∀ j, tnJ j = false → w 179 j = u 179 j) ∧ N9 w u
theorem sj_k {v v' w t u : Sto} {g : Nat → Int32} {T W : Nat} (h : SJ v w u T W) (hk : K9 t w g) (hJ : J v' g T W) (hg : ∀ j, tnJ j = false → g j = w 179 j) : SJ v' t u T W := ⟨by rw [hk.2]; exact hJ, fun j hj => by rw [hk.2, hg j hj]; exact h.2.1 j hj, N9.trans hk.1 h.2.2⟩
theorem sj_s {v w t u : Sto} {T W : Nat} (h : SJ v w u T W) (hs : sim t w) : SJ v t u T W := sj_k h (k9_0 hs) h.1 (fun _ _ => rfl)
theorem sj_0 {v u : Sto} {T W : Nat} (h : J v (u 179) T W) : SJ v u u T W := ⟨h, fun _ _ => rfl, fun _ _ _ _ => rfl⟩
abbrev PSJ (v u : Sto) (T W : Nat) : Res → Sto → Prop := fun o t => o = .inl none ∧ SJ v t u T W
theorem psj_nx {v u : Sto} {T W : Nat} : ∀ Ex s, ¬ PSJ v u T W (.inr Ex) s := fun _ _ h => nomatch h.1
theorem pr_n {v : Sto} {a r : Nat} (h : ¬ prS v a r 4 r = nI a) : prS v a (r + 1) = prS v a r := by
  show prR (prS v a r) a r = _
  rw [prR, if_neg h]
theorem pr_f {v : Sto} {a r : Nat} (h : prS v a r 4 r = nI a) (h2 : prS v a r 7 a < rtI (prS v a r) a r) : prS v a (r + 1) = frT (prS v a r) 3 r := by
  show prR (prS v a r) a r = _
  rw [prR, if_pos h, if_pos h2]
theorem pr_p {v : Sto} {a r : Nat} (h : prS v a r 4 r = nI a) (h2 : ¬ prS v a r 7 a < rtI (prS v a r) a r) : prS v a (r + 1) = pyS (prS v a r) a (rtI (prS v a r) a r) := by
  show prR (prS v a r) a r = _
  rw [prR, if_pos h, if_neg h2]
theorem py_cc {v : Sto} {a k : Nat} {x : Int32} (h1 : k ≠ 7) (h2 : k ≠ 3) : pyS v a x k = v k := by unfold pyS; rw [su_cell _ _ h2, su_cell _ _ h1]
theorem py_39 {v : Sto} {a j : Nat} {x : Int32} (h : j ≠ 8) : pyS v a x 3 j = v 3 j := by unfold pyS; rw [su_i h, su_cell _ _ (by decide)]
theorem prR_m {v : Sto} {a r : Nat} : prR v a r 13 = v 13 ∧ prR v a r 3 9 = v 3 9 ∧ prR v a r 3 10 = v 3 10 := by
  unfold prR
  split
  · split
    · exact ⟨fr_cc (by decide) (by decide) (by decide), congrFun (fr_cc (by decide) (by decide) (by decide)) _, congrFun (fr_cc (by decide) (by decide) (by decide)) _⟩
    · exact ⟨py_cc (by decide) (by decide), py_39 (by decide), py_39 (by decide)⟩
  · exact ⟨rfl, rfl, rfl⟩
theorem prS_m {v : Sto} {a : Nat} : ∀ r, prS v a r 13 = v 13 ∧ prS v a r 3 9 = v 3 9 ∧ prS v a r 3 10 = v 3 10
  | 0 => ⟨rfl, rfl, rfl⟩
  | r + 1 => by
    have ih := prS_m (v := v) (a := a) r
    have h := prR_m (v := prS v a r) (a := a) (r := r)
    exact ⟨h.1.trans ih.1, h.2.1.trans ih.2.1, h.2.2.trans ih.2.2⟩
theorem paS_m {v : Sto} : ∀ t, paS v t 13 = v 13 ∧ paS v t 3 9 = v 3 9 ∧ paS v t 3 10 = v 3 10
  | 0 => ⟨rfl, rfl, rfl⟩
  | t + 1 => by
    have ih := paS_m (v := v) t
    have h := prS_m (v := paS v t) (a := t) 168
    exact ⟨h.1.trans ih.1, h.2.1.trans ih.2.1, h.2.2.trans ih.2.2⟩
theorem gv_c {v : Sto} {a r : Nat} {h : Int32} : gvS v a r h 13 = v 13 ∧ gvS v a r h 3 9 = v 3 9 ∧ gvS v a r h 3 10 = v 3 10 := by
  refine ⟨?_, ?_, ?_⟩ <;> unfold gvS ctT
  · rw [en_cc (by decide) (by decide), so_cc (by decide) (by decide) (by decide), py_cc (by decide) (by decide)]
  · rw [en_39 (by decide) (by decide), so_cc (by decide) (by decide) (by decide), py_39 (by decide)]
  · rw [en_39 (by decide) (by decide), so_cc (by decide) (by decide) (by decide), py_39 (by decide)]
theorem sd_c {v : Sto} : sd1 v 13 = v 13 ∧ sd1 v 3 9 = v 3 9 ∧ sd1 v 3 10 = v 3 10 := by
  refine ⟨?_, ?_, ?_⟩ <;> unfold sd1
  · rw [su_cell _ _ (by decide)]
  · rw [su_i (by decide)]
  · rw [su_i (by decide)]
theorem drS_m {v : Sto} {a : Nat} : drS v a 13 = v 13 ∧ drS v a 3 9 = v 3 9 ∧ drS v a 3 10 = v 3 10 := by
  have h1 := sd_c (v := v)
  have h2 := sd_c (v := sd1 v)
  have h3 : sd1 (sd1 v) 13 = v 13 ∧ sd1 (sd1 v) 3 9 = v 3 9 ∧ sd1 (sd1 v) 3 10 = v 3 10 := ⟨h2.1.trans h1.1, h2.2.1.trans h1.2.1, h2.2.2.trans h1.2.2⟩
  unfold drS
  split
  · exact h1
  · show (if mtP _ a _ _ then gvS _ a _ _ else _) 13 = _ ∧ (if mtP _ a _ _ then gvS _ a _ _ else _) 3 9 = _ ∧ (if mtP _ a _ _ then gvS _ a _ _ else _) 3 10 = _
    split
    · have h4 := gv_c (v := sd1 (sd1 v)) (a := a) (r := dwN (sdN (v 3 11)) % 168) (h := nI 5)
      exact ⟨h4.1.trans h3.1, h4.2.1.trans h3.2.1, h4.2.2.trans h3.2.2⟩
    · exact h3
theorem daS_m {v : Sto} : ∀ t, daS v t 13 = v 13 ∧ daS v t 3 9 = v 3 9 ∧ daS v t 3 10 = v 3 10
  | 0 => ⟨rfl, rfl, rfl⟩
  | t + 1 => by
    have ih := daS_m (v := v) t
    show (if daS v t 13 t = -1 then drS (daS v t) t else daS v t) 13 = _ ∧ (if daS v t 13 t = -1 then drS (daS v t) t else daS v t) 3 9 = _ ∧ (if daS v t 13 t = -1 then drS (daS v t) t else daS v t) 3 10 = _
    split
    · have h := drS_m (v := daS v t) (a := t)
      exact ⟨h.1.trans ih.1, h.2.1.trans ih.2.1, h.2.2.trans ih.2.2⟩
    · exact ih
theorem SJ.k {v w u : Sto} {T W : Nat} (h : SJ v w u T W) : LK v w T W := J.k h.1
set_option maxHeartbeats 1000000 in
theorem c_X11_rentsDue {E : EE} (v : Sto) (T W : Nat) (u : Sto) (hJ : J v (u 179) T W) : CtP E 34 0 yX11_rentsDue cX11_rentsDue 4 none [.ref (E.ad 178)] u (PSJ (paS v T) u T W) := by
  have hT := hJ.r.hT
  refine ctp_of (by decide) (Nat.le_of_ble_eq_true rfl) (fun X h hR hrt htab hargs => ?_)
  have LP : ∀ (j t : Nat) (w : Sto), T < t + j → t ≤ T → (SJ (paS v t) w u T W) → G E X (QMP E X (PSJ (paS v T) u T W) 0) 4 0 2 [(0, .ref (E.ad 178)), (1, .int (nI t))] [] w := by
    intro j
    induction j with
    | zero => intro t w h1 h2 hw; omega
    | succ j ih =>
      intro t w h1 h2 hw
      refine g_iload_n h dX11_rentsDue_2 rfl rfl ?_
      refine g_aload_n h dX11_rentsDue_3 rfl rfl ?_
      refine g_getR h fl_X11_7_10 sh_178 (by decide) rfl dX11_rentsDue_4 ?_
      refine g_iconst (v := nI 1) h dX11_rentsDue_7 (by decide) ?_
      refine g_iald h _ _ _ sh_179 (by decide) (by decide) rfl (by omega) dX11_rentsDue_8 ?_
      refine g_top (y := nI T) hw.k.r.ten ?_
      refine g_icmp_ge (tgt := 79) h dX11_rentsDue_9 (by decide) (fun c9 => ?_) (fun c9 => ?_)
      · have n9 := le_n (by omega) (by omega) (show nI (T) ≤ nI (t) from c9)
        exact g_vretP h hrt dX11_rentsDue_79 (by omega) ⟨rfl, by have z := hw; rw [show t = T by omega] at z; exact z⟩
      · have n9 := nle_n (by omega) (by omega) (show ¬ nI (T) ≤ nI (t) from c9)
        have htT : t < T := n9
        refine g_iconst (v := nI 0) h dX11_rentsDue_12 (by decide) ?_
        refine g_istore_n (ls' := [(0, _), (1, _), (2, _)]) h dX11_rentsDue_13 rfl (by decide) rfl rfl ?_
        have LP2 : ∀ (j2 r : Nat) (w : Sto), 168 < r + j2 → r ≤ 168 → (SJ (prS (paS v t) t r) w u T W) → G E X (QMP E X (PSJ (paS v T) u T W) 0) 4 0 14 [(0, .ref (E.ad 178)), (1, .int (nI t)), (2, .int (nI r))] [] w := by
          intro j2
          induction j2 with
          | zero => intro r w h1 h2 hw; omega
          | succ j2 ih2 =>
            intro r w h1 h2 hw
            refine g_iload_n h dX11_rentsDue_14 rfl rfl ?_
            refine g_sipush (v := nI 168) h dX11_rentsDue_15 (by decide) ?_
            refine g_icmp_ge (tgt := 73) h dX11_rentsDue_18 (by decide) (fun c18 => ?_) (fun c18 => ?_)
            · have n18 := le_n (by omega) (by omega) (show nI (168) ≤ nI (r) from c18)
              refine g_iinc (v := nI (t + 1)) (ls' := [(0, _), (1, _), (2, _)]) h dX11_rentsDue_73 rfl (nI_1 t) (by decide) rfl rfl ?_
              refine g_goto (tgt := 2) h dX11_rentsDue_76 (by decide) ?_
              refine g_del 2 (ls' := [(0, _), (1, _)]) rfl ?_
              exact ih (t + 1) w (by omega) (by omega) (by show SJ (prS (paS v t) t 168) w u T W; rw [← show r = 168 by omega]; exact hw)
            · have n18 := nle_n (by omega) (by omega) (show ¬ nI (168) ≤ nI (r) from c18)
              refine g_aload_n h dX11_rentsDue_21 rfl rfl ?_
              refine g_iload_n h dX11_rentsDue_22 rfl rfl ?_
              refine g_iconst (v := nI 0) h dX11_rentsDue_23 (by decide) ?_
              refine g_V h lv_X11_84_X11 sh_178 (by decide) rfl (c_X11_ofRoom r 0 (by omega) (by decide) w) (fitR hR (by first | decide | omega) (by decide) (by omega)) rfl rfl (Nat.le_of_ble_eq_true rfl) dX11_rentsDue_24 ?_
              refine g_top (hw.k.own (by omega)) ?_
              refine g_iload_n h dX11_rentsDue_27 rfl rfl ?_
              refine g_icmp_eq (tgt := 34) h dX11_rentsDue_28 (by decide) (fun c28 => ?_) (fun c28 => ?_)
              · refine g_aload_n h dX11_rentsDue_34 rfl rfl ?_
                refine g_iload_n h dX11_rentsDue_35 rfl rfl ?_
                refine g_iload_n h dX11_rentsDue_36 rfl rfl ?_
                refine g_VP h lv_X11_274_X11 sh_178 (by decide) rfl (c_X11_rentOf (prS (paS v t) t r) T W t r htT (by omega) w hw.k) ps_nx (fitR hR (by first | decide | omega) (by decide) (by omega)) rfl rfl (Nat.le_of_ble_eq_true rfl) dX11_rentsDue_37 (fun v37 u37 hs37 => ?_)
                obtain ⟨hv37, hs37⟩ := hs37
                cases hv37
                refine g_istore_n (ls' := [(0, _), (1, _), (2, _), (3, _)]) h dX11_rentsDue_40 rfl (by decide) rfl rfl ?_
                refine g_aload_n h dX11_rentsDue_41 rfl rfl ?_
                refine g_iload_n h dX11_rentsDue_42 rfl rfl ?_
                refine g_iconst (v := nI 0) h dX11_rentsDue_43 (by decide) ?_
                refine g_V h lv_X11_76_X11 sh_178 (by decide) rfl (c_X11_of t 0 (by omega) (by decide) u37) (fitR hR (by first | decide | omega) (by decide) (by omega)) rfl rfl (Nat.le_of_ble_eq_true rfl) dX11_rentsDue_44 ?_
                refine g_top ((sj_s hw hs37).k.con htT) ?_
                refine g_iload_n h dX11_rentsDue_47 rfl rfl ?_
                refine g_icmp_ge (tgt := 61) h dX11_rentsDue_48 (by decide) (fun c48 => ?_) (fun c48 => ?_)
                · refine g_aload_n h dX11_rentsDue_61 rfl rfl ?_
                  refine g_iload_n h dX11_rentsDue_62 rfl rfl ?_
                  refine g_iload_n h dX11_rentsDue_63 rfl rfl ?_
                  refine g_V h lv_X11_295_X11 sh_178 (by decide) rfl (c_X11_pays t (by omega) _ _) (fitR hR (by first | decide | omega) (by decide) (by omega)) rfl rfl (Nat.le_of_ble_eq_true rfl) dX11_rentsDue_64 ?_
                  refine g_iinc (v := nI (r + 1)) (ls' := [(0, _), (1, _), (2, _), (3, _)]) h dX11_rentsDue_67 rfl (nI_1 r) (by decide) rfl rfl ?_
                  refine g_goto (tgt := 14) h dX11_rentsDue_70 (by decide) ?_
                  refine g_del 3 (ls' := [(0, _), (1, _), (2, _)]) rfl ?_
                  exact ih2 (r + 1) _ (by omega) (by omega) (by rw [pr_p c28 (Int32.not_lt.mpr c48)]; exact sj_k hw (k9_py (k9_0 hs37) _ _) (J_py hw.1 htT _) (fun j hj => py_g (by omega) hj))
                · refine g_aload_n h dX11_rentsDue_51 rfl rfl ?_
                  refine g_iload_n h dX11_rentsDue_52 rfl rfl ?_
                  refine g_iconst (v := -1) h dX11_rentsDue_53 (by decide) ?_
                  refine g_iconst (v := -1) h dX11_rentsDue_54 (by decide) ?_
                  refine g_V h lv_X11_149_X11 sh_178 (by decide) rfl (c_X11_has r (by omega) _ _ _) (fitR hR (by first | decide | omega) (by decide) (by omega)) rfl rfl (Nat.le_of_ble_eq_true rfl) dX11_rentsDue_55 ?_
                  refine g_goto (tgt := 67) h dX11_rentsDue_58 (by decide) ?_
                  refine g_iinc (v := nI (r + 1)) (ls' := [(0, _), (1, _), (2, _), (3, _)]) h dX11_rentsDue_67 rfl (nI_1 r) (by decide) rfl rfl ?_
                  refine g_goto (tgt := 14) h dX11_rentsDue_70 (by decide) ?_
                  refine g_del 3 (ls' := [(0, _), (1, _), (2, _)]) rfl ?_
                  exact ih2 (r + 1) _ (by omega) (by omega) (by rw [pr_f c28 (Int32.not_le.mp c48)]; exact sj_k hw (k9_has (k9_0 hs37) _ _ _) (J_free hw.1 (by omega)) (fun j hj => hs_g (by omega) hj))
              · refine g_goto (tgt := 67) h dX11_rentsDue_31 (by decide) ?_
                refine g_iinc (v := nI (r + 1)) (ls' := [(0, _), (1, _), (2, _)]) h dX11_rentsDue_67 rfl (nI_1 r) (by decide) rfl rfl ?_
                refine g_goto (tgt := 14) h dX11_rentsDue_70 (by decide) ?_
                exact ih2 (r + 1) w (by omega) (by omega) (by rw [pr_n c28]; exact hw)
        exact LP2 (168 + 1) 0 w (by omega) (by omega) hw
        
  refine g_iconst (v := nI 0) h dX11_rentsDue_0 (by decide) ?_
  refine g_istore_n (ls' := [(0, _), (1, _)]) h dX11_rentsDue_1 rfl (by decide) rfl rfl ?_
  exact LP (T + 1) 0 u (by omega) (by omega) (sj_0 hJ)
theorem rm_dw {x : Int32} {b : Nat} (h0 : 0 < b) (hb : b < 2 ^ 31) : rmI (drw x) (nI b) = nI (dwN x % b) := by
  have := dwN_lt x
  rw [drw_n]
  exact pk_rem (by omega) h0 hb
theorem da_n {v : Sto} {t : Nat} (h : ¬ daS v t 13 t = -1) : daS v (t + 1) = daS v t := by rw [daS, if_neg h]
theorem da_y {v : Sto} {t : Nat} (h : daS v t 13 t = -1) : daS v (t + 1) = drS (daS v t) t := by rw [daS, if_pos h]
theorem dr_1 {v : Sto} {a : Nat} (h : v 10 10 ≤ nI (dwN (v 3 11) % 100)) : drS v a = sd1 v := by rw [drS, if_pos h]
theorem dr_2 {v : Sto} {a : Nat} (h : ¬ v 10 10 ≤ nI (dwN (v 3 11) % 100)) (h2 : ¬ mtP (sd1 (sd1 v)) a (dwN (sdN (v 3 11)) % 168) (sd1 (sd1 v) 7 a)) : drS v a = sd1 (sd1 v) := by
  rw [drS, if_neg h]; exact if_neg h2
theorem dr_3 {v : Sto} {a : Nat} (h : ¬ v 10 10 ≤ nI (dwN (v 3 11) % 100)) (h2 : mtP (sd1 (sd1 v)) a (dwN (sdN (v 3 11)) % 168) (sd1 (sd1 v) 7 a)) : drS v a = gvS (sd1 (sd1 v)) a (dwN (sdN (v 3 11)) % 168) (nI 5) := by
  rw [drS, if_neg h]; exact if_pos h2
theorem sj_sd {v w u : Sto} {T W : Nat} (h : SJ v w u T W) : SJ (sd1 v) (su w 179 11 (sdN (w 179 11))) u T W := by
  have e : w 179 11 = v 3 11 := h.1.t.sd
  unfold sd1
  rw [e]
  exact sj_k h (k9_su (k9_0 (sim.refl w)) _ _) (J_seed h.1 _) (fun j hj => up_g (by decide) hj)
set_option maxHeartbeats 1000000 in
theorem c_X11_weekMore {E : EE} (v : Sto) (T W wk : Nat) (hwk : wk < 2 ^ 17) (u : Sto) (hJ : J v (u 179) T W) (hW1 : v 3 9 + nI 1 = nI wk) : CtP E 35 0 yX11_weekMore cX11_weekMore 3 none [.ref (E.ad 178)] u (PSJ (daS (paS (su v 3 9 (v 3 9 + nI 1)) T) T) u T W) := by
  have hT := hJ.r.hT
  refine ctp_of (by decide) (Nat.le_of_ble_eq_true rfl) (fun X h hR hrt htab hargs => ?_)
  refine g_aload_n h dX11_weekMore_0 rfl rfl ?_
  refine g_getR h fl_X11_7_10 sh_178 (by decide) rfl dX11_weekMore_1 ?_
  refine g_iconst (v := nI 4) h dX11_weekMore_4 (by decide) ?_
  refine g_dup2 h dX11_weekMore_5 rfl rfl ?_
  refine g_iald h _ _ _ sh_179 (by decide) (by decide) rfl (by omega) dX11_weekMore_6 ?_
  refine g_top (y := v 3 9) hJ.t.wk ?_
  refine g_iconst (v := nI 1) h dX11_weekMore_7 (by decide) ?_
  refine g_iadd h dX11_weekMore_8 ?_
  refine g_iast h _ _ _ sh_179 (by decide) (by decide) rfl (by omega) dX11_weekMore_9 ?_
  refine g_aload_n h dX11_weekMore_10 rfl rfl ?_
  refine g_VP h lv_X11_324_X11 sh_178 (by decide) rfl (c_X11_rentsDue (su v 3 9 (v 3 9 + nI 1)) T W _ (by rw [su_at]; exact J_week hJ _)) psj_nx (fitR hR (by first | decide | omega) (by decide) (by omega)) rfl rfl (Nat.le_of_ble_eq_true rfl) dX11_weekMore_11 (fun v11 u11 hs11 => ?_)
  obtain ⟨hv11, hsR⟩ := hs11
  · cases hv11
    have up_w : ∀ {j}, tnJ j = false → su u 179 4 (v 3 9 + nI 1) 179 j = u 179 j := fun {j} hj => by rw [su_at]; exact up_g (by decide) hj
    refine g_iconst (v := nI 0) h dX11_weekMore_14 (by decide) ?_
    refine g_istore_n (ls' := [(0, _), (1, _)]) h dX11_weekMore_15 rfl (by decide) rfl rfl ?_
    have LP : ∀ (j k : Nat) (w : Sto), T < k + j → k ≤ T → (SJ (daS (paS (su v 3 9 (v 3 9 + nI 1)) T) k) w u T W) → G E X (QMP E X (PSJ (daS (paS (su v 3 9 (v 3 9 + nI 1)) T) T) u T W) 0) 3 0 16 [(0, .ref (E.ad 178)), (1, .int (nI k))] [] w := by
      intro j
      induction j with
      | zero => intro k w h1 h2 hw; omega
      | succ j ih =>
        intro k w h1 h2 hw
        refine g_iload_n h dX11_weekMore_16 rfl rfl ?_
        refine g_aload_n h dX11_weekMore_17 rfl rfl ?_
        refine g_getR h fl_X11_7_10 sh_178 (by decide) rfl dX11_weekMore_18 ?_
        refine g_iconst (v := nI 1) h dX11_weekMore_21 (by decide) ?_
        refine g_iald h _ _ _ sh_179 (by decide) (by decide) rfl (by omega) dX11_weekMore_22 ?_
        refine g_top (y := nI T) hw.k.r.ten ?_
        refine g_icmp_ge (tgt := 84) h dX11_weekMore_23 (by decide) (fun c23 => ?_) (fun c23 => ?_)
        · have n23 := le_n (by omega) (by omega) (show nI (T) ≤ nI (k) from c23)
          exact g_vretP h hrt dX11_weekMore_84 (by omega) ⟨rfl, by have z := hw; rw [show k = T by omega] at z; exact z⟩
        · have n23 := nle_n (by omega) (by omega) (show ¬ nI (T) ≤ nI (k) from c23)
          have hc9 := daS_m (v := paS (su v 3 9 (v 3 9 + nI 1)) T) k
          have hp9 := paS_m (v := su v 3 9 (v 3 9 + nI 1)) T
          refine g_aload_n h dX11_weekMore_26 rfl rfl ?_
          refine g_iload_n h dX11_weekMore_27 rfl rfl ?_
          refine g_V h lv_X11_80_X11 sh_178 (by decide) rfl (c_X11_isChild k (daS (paS (su v 3 9 (v 3 9 + nI 1)) T) k) T W (by omega) w hw.k.r) (fitR hR (by first | decide | omega) (by decide) (by omega)) rfl rfl (Nat.le_of_ble_eq_true rfl) dX11_weekMore_28 ?_
          by_cases n28 : (daS (paS (su v 3 9 (v 3 9 + nI 1)) T) k) 13 k = -1
          · refine g_top (b2_f (fun q => q n28)) ?_
            refine g_if_ne (tgt := 78) h dX11_weekMore_31 (by decide) (fun q => absurd q (by decide)) (fun _ => ?_)
            refine g_aload_n h dX11_weekMore_34 rfl rfl ?_
            refine g_bipush (v := nI 100) h dX11_weekMore_35 (by decide) ?_
            refine g_V h lv_X11_327_X11 sh_178 (by decide) rfl (c_X11_draw (nI 100) (by decide) _) (fitR hR (by first | decide | omega) (by decide) (by omega)) rfl rfl (Nat.le_of_ble_eq_true rfl) dX11_weekMore_37 ?_
            refine g_top (y := nI (dwN ((daS (paS (su v 3 9 (v 3 9 + nI 1)) T) k) 3 11) % 100)) ((rm_dw (by omega) (by omega)).trans (by rw [show w 179 11 = _ from hw.1.t.sd])) ?_
            refine g_aload_n h dX11_weekMore_40 rfl rfl ?_
            refine g_getR h fl_X11_7_10 sh_178 (by decide) rfl dX11_weekMore_41 ?_
            refine g_bipush (v := nI 8) h dX11_weekMore_44 (by decide) ?_
            refine g_iald h _ _ _ sh_179 (by decide) (by decide) rfl (by omega) dX11_weekMore_46 ?_
            refine g_top (y := (daS (paS (su v 3 9 (v 3 9 + nI 1)) T) k) 10 10) ((su_i (by decide)).trans hw.k.r.cha) ?_
            refine g_icmp_lt (tgt := 53) h dX11_weekMore_47 (by decide) (fun c47 => ?_) (fun c47 => ?_)
            · refine g_aload_n h dX11_weekMore_53 rfl rfl ?_
              refine g_sipush (v := nI 168) h dX11_weekMore_54 (by decide) ?_
              refine g_V h lv_X11_327_X11 sh_178 (by decide) rfl (c_X11_draw (nI 168) (by decide) _) (fitR hR (by first | decide | omega) (by decide) (by omega)) rfl rfl (Nat.le_of_ble_eq_true rfl) dX11_weekMore_57 ?_
              refine g_top (y := nI (dwN (sdN ((daS (paS (su v 3 9 (v 3 9 + nI 1)) T) k) 3 11)) % 168)) ((rm_dw (by omega) (by omega)).trans (by rw [su_k, show w 179 11 = _ from hw.1.t.sd])) ?_
              have hr9 : dwN (sdN ((daS (paS (su v 3 9 (v 3 9 + nI 1)) T) k) 3 11)) % 168 < 168 := Nat.mod_lt _ (by omega)
              have hsj := sj_sd (sj_sd hw)
              refine g_istore_n (ls' := [(0, _), (1, _), (2, _)]) h dX11_weekMore_60 rfl (by decide) rfl rfl ?_
              refine g_aload_n h dX11_weekMore_61 rfl rfl ?_
              refine g_iload_n h dX11_weekMore_62 rfl rfl ?_
              refine g_iload_n h dX11_weekMore_63 rfl rfl ?_
              refine g_VP h lv_X11_301_X11 sh_178 (by decide) rfl (c_X11_mayTake (sd1 (sd1 (daS (paS (su v 3 9 (v 3 9 + nI 1)) T) k))) T W k (dwN (sdN ((daS (paS (su v 3 9 (v 3 9 + nI 1)) T) k) 3 11)) % 168) (by omega) hr9 _ hsj.k hsj.1.ri) ps_nx (fitR hR (by first | decide | omega) (by decide) (by omega)) rfl rfl (Nat.le_of_ble_eq_true rfl) dX11_weekMore_64 (fun v64 u64 hs64 => ?_)
              obtain ⟨hv64, hs64⟩ := hs64
              cases hv64
              by_cases n64 : mtP (sd1 (sd1 (daS (paS (su v 3 9 (v 3 9 + nI 1)) T) k))) k (dwN (sdN ((daS (paS (su v 3 9 (v 3 9 + nI 1)) T) k) 3 11)) % 168) (sd1 (sd1 (daS (paS (su v 3 9 (v 3 9 + nI 1)) T) k)) 7 k)
              · refine g_top (b2_t n64) ?_
                refine g_if_eq (tgt := 78) h dX11_weekMore_67 (by decide) (fun q => absurd q (by decide)) (fun _ => ?_)
                refine g_aload_n h dX11_weekMore_70 rfl rfl ?_
                refine g_iload_n h dX11_weekMore_71 rfl rfl ?_
                refine g_iload_n h dX11_weekMore_72 rfl rfl ?_
                refine g_iconst (v := nI 5) h dX11_weekMore_73 (by decide) ?_
                refine g_VP h lv_X11_308_X11 sh_178 (by decide) rfl (c_X11_takes (sd1 (sd1 (daS (paS (su v 3 9 (v 3 9 + nI 1)) T) k))) T W k (dwN (sdN ((daS (paS (su v 3 9 (v 3 9 + nI 1)) T) k) 3 11)) % 168) (by omega) hr9 _ _ (sj_s hsj hs64).k) tk_nx (fitR hR (by first | decide | omega) (by decide) (by omega)) rfl rfl (Nat.le_of_ble_eq_true rfl) dX11_weekMore_74 (fun v74 u74 hs74 => ?_)
                obtain ⟨hv74, hk74⟩ := hs74
                · cases hv74
                  refine g_pop h dX11_weekMore_77 rfl ?_
                  refine g_iinc (v := nI (k + 1)) (ls' := [(0, _), (1, _), (2, _)]) h dX11_weekMore_78 rfl (nI_1 k) (by decide) rfl rfl ?_
                  refine g_goto (tgt := 16) h dX11_weekMore_81 (by decide) ?_
                  refine g_del 2 (ls' := [(0, _), (1, _)]) rfl ?_
                  exact ih (k + 1) _ (by omega) (by omega) (by rw [da_y n28, dr_3 (by first | exact Int32.not_le.mpr c47 | exact c47) n64]; exact sj_k (sj_s hsj hs64) hk74 (J_tk (sj_s hsj hs64).1 (by rw [sd_c.2.1, sd_c.2.1, hc9.2.1, hp9.2.1]; exact su_k.trans hW1) hwk hr9 (by omega) n64.1 (by decide)) (fun j hj => tk_g hr9 (by omega) hj))
              · refine g_top (b2_f n64) ?_
                refine g_if_eq (tgt := 78) h dX11_weekMore_67 (by decide) (fun _ => ?_) (fun q => absurd q (by decide))
                refine g_iinc (v := nI (k + 1)) (ls' := [(0, _), (1, _), (2, _)]) h dX11_weekMore_78 rfl (nI_1 k) (by decide) rfl rfl ?_
                refine g_goto (tgt := 16) h dX11_weekMore_81 (by decide) ?_
                refine g_del 2 (ls' := [(0, _), (1, _)]) rfl ?_
                exact ih (k + 1) _ (by omega) (by omega) (by rw [da_y n28, dr_2 (by first | exact Int32.not_le.mpr c47 | exact c47) n64]; exact sj_s hsj hs64)
            · refine g_goto (tgt := 78) h dX11_weekMore_50 (by decide) ?_
              refine g_iinc (v := nI (k + 1)) (ls' := [(0, _), (1, _)]) h dX11_weekMore_78 rfl (nI_1 k) (by decide) rfl rfl ?_
              refine g_goto (tgt := 16) h dX11_weekMore_81 (by decide) ?_
              exact ih (k + 1) _ (by omega) (by omega) (by rw [da_y n28, dr_1 (by first | exact c47 | exact Int32.not_lt.mp c47)]; exact sj_sd hw)
          · refine g_top (b2_t n28) ?_
            refine g_if_ne (tgt := 78) h dX11_weekMore_31 (by decide) (fun _ => ?_) (fun q => absurd q (by decide))
            refine g_iinc (v := nI (k + 1)) (ls' := [(0, _), (1, _)]) h dX11_weekMore_78 rfl (nI_1 k) (by decide) rfl rfl ?_
            refine g_goto (tgt := 16) h dX11_weekMore_81 (by decide) ?_
            exact ih (k + 1) w (by omega) (by omega) (by rw [da_n n28]; exact hw)
    exact LP (T + 1) 0 _ (by omega) (by omega) ⟨hsR.1, fun j hj => (hsR.2.1 j hj).trans (up_w hj), N9.trans hsR.2.2 (fun c j hc _ => congrFun (su_cell _ _ hc) j)⟩
    
