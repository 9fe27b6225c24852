-- after: 98.oc
def pmM (v : Sto) (a : Nat) : Nat → Int32
  | 0 => -1
  | k + 1 => if v 4 k = nI a then (if pmM v a k < vlI v a k then vlI v a k else pmM v a k) else pmM v a k
theorem pm_n {v : Sto} {a k : Nat} (h : ¬ v 4 k = nI a) : pmM v a (k + 1) = pmM v a k := by rw [pmM, if_neg h]
theorem pm_y {v : Sto} {a k : Nat} {x : Int32} (h : v 4 k = nI a) (hx : (if pmM v a k < vlI v a k then vlI v a k else pmM v a k) = x) : pmM v a (k + 1) = x := by rw [pmM, if_pos h, hx]
theorem pm_eq {v u : Sto} {T W a : Nat} (hK : LK v u T W) : ∀ k, (pmM v a k = -1 ∧ pmF v a k = nI 0 ∧ ∀ r, r < k → ¬ v 4 r = nI a) ∨ (pmM v a k = pmF v a k ∧ (∃ n, n ≤ 11988 ∧ pmF v a k = nI n) ∧ ∃ r, r < k ∧ v 4 r = nI a)
  | 0 => Or.inl ⟨rfl, rfl, fun r hr => by omega⟩
  | k + 1 => by
    obtain ⟨m, hm, em⟩ := hK.vl a k
    by_cases c : v 4 k = nI a
    · right
      refine ⟨?_, ?_, k, by omega, c⟩
      · rw [pm_y c rfl, pmF, if_pos c, mxI]
        rcases pm_eq (a := a) hK k with ⟨e1, e2, _⟩ | ⟨e1, ⟨n, hn, e2⟩, _⟩
        · have h1 : (-1 : Int32) < nI m := Int32.lt_iff_toInt_lt.mpr (by rw [nI_toInt (by omega)]; have : (-1 : Int32).toInt = -1 := by decide
                                                                         omega)
          rw [e1, e2, em, if_pos h1]
          by_cases z : nI 0 < nI m
          · rw [if_pos z]
          · rw [if_neg z]
            have := nlt_n (by omega) (by omega) z
            rw [show m = 0 by omega]
        · rw [e1]
      · rw [pmF, if_pos c, mxI]
        rcases pm_eq (a := a) hK k with ⟨e1, e2, _⟩ | ⟨e1, ⟨n, hn, e2⟩, _⟩
        · split
          · exact ⟨m, hm, em⟩
          · exact ⟨0, by omega, e2⟩
        · split
          · exact ⟨m, hm, em⟩
          · exact ⟨n, hn, e2⟩
    · rw [pm_n c, pmF, if_neg c]
      rcases pm_eq (a := a) hK k with ⟨e1, e2, e3⟩ | ⟨e1, e2, r, hr, e3⟩
      · exact Or.inl ⟨e1, e2, fun r hr => by by_cases z : r = k; · rw [z]; exact c
                                             · exact e3 r (by omega)⟩
      · exact Or.inr ⟨e1, e2, r, by omega, e3⟩
theorem pb_1 {v : Sto} {a k : Nat} {mo : Int32} (h : mpP v a k ∧ (pbF v a mo k).1 < vlI v a k) : pbF v a mo (k + 1) = (vlI v a k, nI k) := by rw [pbF, if_pos h]
theorem pb_0 {v : Sto} {a k : Nat} {mo : Int32} (h : ¬ (mpP v a k ∧ (pbF v a mo k).1 < vlI v a k)) : pbF v a mo (k + 1) = pbF v a mo k := by rw [pbF, if_neg h]
theorem pb_i {v : Sto} {a : Nat} {mo : Int32} : ∀ k, (pbF v a mo k).2 = -1 ∨ ∃ r, r < k ∧ (pbF v a mo k).2 = nI r ∧ mpP v a r
  | 0 => Or.inl rfl
  | k + 1 => by
    by_cases c : mpP v a k ∧ (pbF v a mo k).1 < vlI v a k
    · rw [pb_1 c]; exact Or.inr ⟨k, by omega, rfl, c.1⟩
    · rw [pb_0 c]
      rcases pb_i (v := v) (a := a) (mo := mo) k with e | ⟨r, hr, e, e2⟩
      · exact Or.inl e
      · exact Or.inr ⟨r, by omega, e, e2⟩
theorem pt_i {v : Sto} {a : Nat} (h : ¬ ptI v a = -1) : ∃ r, r < 168 ∧ ptI v a = nI r ∧ mpP v a r := by
  unfold ptI at *
  split at h
  · exact absurd rfl h
  · rename_i c
    rw [if_neg c]
    exact (pb_i 168).resolve_left h
theorem own_0 {v : Sto} {t r T a : Nat} (hI : TI v t r T) (ha : a < 10) : v (t + 5) a = 0 ↔ ∀ m, m < 168 → ¬ v (t + 1) m = nI a := by
  rw [hI.cnt a ha, ctI_n]
  constructor
  · intro h m hm q
    have h1 := cN_pos (p := fun m => decide (v (t + 1) m = nI a)) (a := m) (decide_eq_true q) 168 hm
    have h2 := cN_lq (p := fun m => decide (v (t + 1) m = nI a)) 168
    have := eq_n (by omega) (by omega) (show nI _ = nI 0 from h)
    omega
  · intro h
    rw [cN_z 168 (fun k hk q => h k hk (of_decide_eq_true q))]; rfl
set_option maxHeartbeats 1000000 in
theorem c_X11_pointsTo {E : EE} (v : Sto) (T W a : Nat) (ha : a < T) (u : Sto) (hK : LK v u T W) (hI : TI v 3 10 T) : CtP E 34 0 yX11_pointsTo cX11_pointsTo 6 (some .int) [.ref (E.ad 178), .int (nI a)] u (PA (.inl (some (.int (ptI v a)))) u) := by
  have hT := hK.hT
  refine ctp_of (by decide) (Nat.le_of_ble_eq_true rfl) (fun X h hR hrt htab hargs => ?_)
  have LP : ∀ (j k : Nat) (w : Sto), 168 < k + j → k ≤ 168 → (simA w u) → G E X (QMP E X (PA (.inl (some (.int (ptI v a)))) u) 0) 6 0 4 [(0, .ref (E.ad 178)), (1, .int (nI a)), (2, .int (pmM v a k)), (3, .int (nI k))] [] w := by
    intro j
    induction j with
    | zero => intro k w h1 h2 hw; omega
    | succ j ih =>
      intro k w h1 h2 hw
      refine g_iload_n h dX11_pointsTo_4 rfl rfl ?_
      refine g_sipush (v := nI 168) h dX11_pointsTo_5 (by decide) ?_
      refine g_icmp_ge (tgt := 51) h dX11_pointsTo_8 (by decide) (fun c8 => ?_) (fun c8 => ?_)
      · have n8 := le_n (by omega) (by omega) (show nI (168) ≤ nI (k) from c8)
        refine g_iload_n h dX11_pointsTo_51 rfl rfl ?_
        refine g_iconst (v := -1) h dX11_pointsTo_52 (by decide) ?_
        refine g_icmp_ne (tgt := 58) h dX11_pointsTo_53 (by decide) (fun c53 => ?_) (fun c53 => ?_)
        · have h8x : (¬ v 8 a = 0) ∧ pmM v a k = pmF v a 168 := by
            rcases pm_eq (a := a) hK 168 with ⟨e1, e2, e3⟩ | ⟨e1, ⟨n9, hn9, e2⟩, r9, hr9, e3⟩
            · rw [show k = 168 by omega] at c53; exact absurd e1 c53
            · exact ⟨fun q => (own_0 hI (by omega)).mp q r9 hr9 e3, by rw [show k = 168 by omega]; exact e1⟩
          obtain ⟨h8, epm⟩ := h8x
          refine g_cv (ls2 := [(0, .ref (E.ad 178)), (1, .int (nI a)), (2, .int (pmF v a 168)), (3, .int (nI k))]) (by rw [epm]) rfl ?_
          refine g_iconst (v := -1) h dX11_pointsTo_58 (by decide) ?_
          refine g_istore_n (ls' := [(0, _), (1, _), (2, _), (3, _)]) h dX11_pointsTo_59 rfl (by decide) rfl rfl ?_
          refine g_iload_n h dX11_pointsTo_60 rfl rfl ?_
          refine g_istore (ls' := [(0, _), (1, _), (2, _), (3, _), (4, _)]) h dX11_pointsTo_61 (by decide) rfl rfl ?_
          refine g_iconst (v := nI 0) h dX11_pointsTo_63 (by decide) ?_
          refine g_istore (ls' := [(0, _), (1, _), (2, _), (3, _), (4, _), (5, _)]) h dX11_pointsTo_64 (by decide) rfl rfl ?_
          have LP2 : ∀ (j2 r : Nat) (w : Sto), 168 < r + j2 → r ≤ 168 → (simA w u) → G E X (QMP E X (PA (.inl (some (.int (ptI v a)))) u) 0) 6 0 66 [(0, .ref (E.ad 178)), (1, .int (nI a)), (2, .int (pmF v a 168)), (3, .int (pbF v a (pmF v a 168) r).2), (4, .int (pbF v a (pmF v a 168) r).1), (5, .int (nI r))] [] w := by
            intro j2
            induction j2 with
            | zero => intro r w h1 h2 hw; omega
            | succ j2 ih2 =>
              intro r w h1 h2 hw
              refine g_iload h dX11_pointsTo_66 rfl ?_
              refine g_sipush (v := nI 168) h dX11_pointsTo_68 (by decide) ?_
              refine g_icmp_ge (tgt := 149) h dX11_pointsTo_71 (by decide) (fun c71 => ?_) (fun c71 => ?_)
              · have n71 := le_n (by omega) (by omega) (show nI (168) ≤ nI (r) from c71)
                refine g_iload_n h dX11_pointsTo_149 rfl rfl ?_
                exact g_iretP h hrt dX11_pointsTo_150 (by omega) ⟨by rw [ptI, if_neg h8, show r = 168 by omega], hw⟩
              · have n71 := nle_n (by omega) (by omega) (show ¬ nI (168) ≤ nI (r) from c71)
                refine g_aload_n h dX11_pointsTo_74 rfl rfl ?_
                refine g_iload h dX11_pointsTo_75 rfl ?_
                refine g_iconst (v := nI 0) h dX11_pointsTo_77 (by decide) ?_
                refine g_V h lv_X11_84_X11 sh_178 (by decide) rfl (c_X11_ofRoom r 0 (by omega) (by decide) w) (fitR hR (by first | decide | omega) (by decide) (by omega)) rfl rfl (Nat.le_of_ble_eq_true rfl) dX11_pointsTo_78 ?_
                refine g_top ((hK.simA hw).own (by omega)) ?_
                refine g_iconst (v := -1) h dX11_pointsTo_81 (by decide) ?_
                refine g_icmp_eq (tgt := 143) h dX11_pointsTo_82 (by decide) (fun c82 => ?_) (fun c82 => ?_)
                · refine g_iinc (v := nI (r + 1)) (ls' := [(0, _), (1, _), (2, _), (3, _), (4, _), (5, _)]) h dX11_pointsTo_143 rfl (nI_1 r) (by decide) rfl rfl ?_
                  refine g_goto (tgt := 66) h dX11_pointsTo_146 (by decide) ?_
                  exact g_cv (by rw [pb_0 (fun q => q.1.1 c82)]) rfl (ih2 (r + 1) _ (by omega) (by omega) hw)
                · refine g_aload_n h dX11_pointsTo_85 rfl rfl ?_
                  refine g_iload h dX11_pointsTo_86 rfl ?_
                  refine g_iconst (v := nI 0) h dX11_pointsTo_88 (by decide) ?_
                  refine g_V h lv_X11_84_X11 sh_178 (by decide) rfl (c_X11_ofRoom r 0 (by omega) (by decide) w) (fitR hR (by first | decide | omega) (by decide) (by omega)) rfl rfl (Nat.le_of_ble_eq_true rfl) dX11_pointsTo_89 ?_
                  refine g_top ((hK.simA hw).own (by omega)) ?_
                  refine g_iload_n h dX11_pointsTo_92 rfl rfl ?_
                  refine g_icmp_eq (tgt := 143) h dX11_pointsTo_93 (by decide) (fun c93 => ?_) (fun c93 => ?_)
                  · refine g_iinc (v := nI (r + 1)) (ls' := [(0, _), (1, _), (2, _), (3, _), (4, _), (5, _)]) h dX11_pointsTo_143 rfl (nI_1 r) (by decide) rfl rfl ?_
                    refine g_goto (tgt := 66) h dX11_pointsTo_146 (by decide) ?_
                    exact g_cv (by rw [pb_0 (fun q => q.1.2.1 c93)]) rfl (ih2 (r + 1) _ (by omega) (by omega) hw)
                  · refine g_aload_n h dX11_pointsTo_96 rfl rfl ?_
                    refine g_iload h dX11_pointsTo_97 rfl ?_
                    refine g_V h lv_X11_311_X11 sh_178 (by decide) rfl (c_X11_isSublet r (by omega) v T W w (hK.simA hw).t) (fitR hR (by first | decide | omega) (by decide) (by omega)) rfl rfl (Nat.le_of_ble_eq_true rfl) dX11_pointsTo_99 ?_
                    refine g_if_eq (tgt := 108) h dX11_pointsTo_102 (by decide) (fun c102 => ?_) (fun c102 => ?_)
                    · refine g_aload_n h dX11_pointsTo_108 rfl rfl ?_
                      refine g_iload_n h dX11_pointsTo_109 rfl rfl ?_
                      refine g_iload h dX11_pointsTo_110 rfl ?_
                      refine g_VP h lv_X11_270_X11 sh_178 (by decide) rfl (c_X11_asksA v T W a r ha (by omega) w (hK.simA hw)) qa2_nx (fitR hR (by first | decide | omega) (by decide) (by omega)) rfl rfl (Nat.le_of_ble_eq_true rfl) dX11_pointsTo_112 (fun v112 u112 hs112 => ?_)
                      obtain ⟨hv112, hs112, ha17, ha18, ha19⟩ := hs112
                      · cases hv112
                        refine g_aload_n h dX11_pointsTo_115 rfl rfl ?_
                        refine g_getI h fl_X11_257_10 sh_178 (by decide) rfl dX11_pointsTo_116 ?_
                        refine g_top ha17 ?_
                        refine g_if_ne (tgt := 143) h dX11_pointsTo_119 (by decide) (fun c119 => ?_) (fun c119 => ?_)
                        · refine g_iinc (v := nI (r + 1)) (ls' := [(0, _), (1, _), (2, _), (3, _), (4, _), (5, _)]) h dX11_pointsTo_143 rfl (nI_1 r) (by decide) rfl rfl ?_
                          refine g_goto (tgt := 66) h dX11_pointsTo_146 (by decide) ?_
                          exact g_cv (by rw [pb_0 (fun q => by have := b2_n0.mp c119; rw [q.1.2.2.2] at this; exact absurd this (by decide))]) rfl (ih2 (r + 1) _ (by omega) (by omega) (hs112.trans hw))
                        · refine g_aload_n h dX11_pointsTo_122 rfl rfl ?_
                          refine g_getI h fl_X11_262_10 sh_178 (by decide) rfl dX11_pointsTo_123 ?_
                          refine g_top ha19 ?_
                          refine g_iload h dX11_pointsTo_126 rfl ?_
                          refine g_icmp_gt (tgt := 134) h dX11_pointsTo_128 (by decide) (fun c128 => ?_) (fun c128 => ?_)
                          · refine g_aload_n h dX11_pointsTo_134 rfl rfl ?_
                            refine g_getI h fl_X11_262_10 sh_178 (by decide) rfl dX11_pointsTo_135 ?_
                            refine g_top ha19 ?_
                            refine g_istore (ls' := [(0, _), (1, _), (2, _), (3, _), (4, _), (5, _)]) h dX11_pointsTo_138 (by decide) rfl rfl ?_
                            refine g_iload h dX11_pointsTo_140 rfl ?_
                            refine g_istore_n (ls' := [(0, _), (1, _), (2, _), (3, _), (4, _), (5, _)]) h dX11_pointsTo_142 rfl (by decide) rfl rfl ?_
                            refine g_iinc (v := nI (r + 1)) (ls' := [(0, _), (1, _), (2, _), (3, _), (4, _), (5, _)]) h dX11_pointsTo_143 rfl (nI_1 r) (by decide) rfl rfl ?_
                            refine g_goto (tgt := 66) h dX11_pointsTo_146 (by decide) ?_
                            exact g_cv (by rw [pb_1 ⟨⟨c82, c93, (hI.sbl (by omega)).mp (Decidable.not_not.mp (b2_0.mp c102)), Bool.eq_false_iff.mpr (b2_0.mp c119)⟩, by first | exact c128 | exact Int32.not_le.mp c128⟩]) rfl (ih2 (r + 1) _ (by omega) (by omega) (hs112.trans hw))
                          · refine g_goto (tgt := 143) h dX11_pointsTo_131 (by decide) ?_
                            refine g_iinc (v := nI (r + 1)) (ls' := [(0, _), (1, _), (2, _), (3, _), (4, _), (5, _)]) h dX11_pointsTo_143 rfl (nI_1 r) (by decide) rfl rfl ?_
                            refine g_goto (tgt := 66) h dX11_pointsTo_146 (by decide) ?_
                            exact g_cv (by rw [pb_0 (fun q => by first | exact c128 q.2 | exact absurd q.2 (Int32.not_lt.mpr c128))]) rfl (ih2 (r + 1) _ (by omega) (by omega) (hs112.trans hw))
                    · refine g_goto (tgt := 143) h dX11_pointsTo_105 (by decide) ?_
                      refine g_iinc (v := nI (r + 1)) (ls' := [(0, _), (1, _), (2, _), (3, _), (4, _), (5, _)]) h dX11_pointsTo_143 rfl (nI_1 r) (by decide) rfl rfl ?_
                      refine g_goto (tgt := 66) h dX11_pointsTo_146 (by decide) ?_
                      exact g_cv (by rw [pb_0 (fun q => b2_n0.mp c102 ((hI.sbl (by omega)).mpr q.1.2.2.1))]) rfl (ih2 (r + 1) _ (by omega) (by omega) hw)
          exact LP2 (168 + 1) 0 w (by omega) (by omega) hw
          
        · have h8 : v 8 a = 0 := by
            rcases pm_eq (a := a) hK 168 with ⟨e1, e2, e3⟩ | ⟨e1, ⟨n9, hn9, e2⟩, r9, hr9, e3⟩
            · exact (own_0 hI (by omega)).mpr e3
            · rw [show k = 168 by omega, e1, e2] at c53; exact absurd c53 (nI_m1 (by omega))
          refine g_iconst (v := -1) h dX11_pointsTo_56 (by decide) ?_
          exact g_iretP h hrt dX11_pointsTo_57 (by omega) ⟨by rw [ptI, if_pos h8], hw⟩
      · have n8 := nle_n (by omega) (by omega) (show ¬ nI (168) ≤ nI (k) from c8)
        refine g_aload_n h dX11_pointsTo_11 rfl rfl ?_
        refine g_iload_n h dX11_pointsTo_12 rfl rfl ?_
        refine g_iconst (v := nI 0) h dX11_pointsTo_13 (by decide) ?_
        refine g_V h lv_X11_84_X11 sh_178 (by decide) rfl (c_X11_ofRoom k 0 (by omega) (by decide) w) (fitR hR (by first | decide | omega) (by decide) (by omega)) rfl rfl (Nat.le_of_ble_eq_true rfl) dX11_pointsTo_14 ?_
        refine g_top ((hK.simA hw).own (by omega)) ?_
        refine g_iload_n h dX11_pointsTo_17 rfl rfl ?_
        refine g_icmp_eq (tgt := 24) h dX11_pointsTo_18 (by decide) (fun c18 => ?_) (fun c18 => ?_)
        · refine g_aload_n h dX11_pointsTo_24 rfl rfl ?_
          refine g_iload_n h dX11_pointsTo_25 rfl rfl ?_
          refine g_iload_n h dX11_pointsTo_26 rfl rfl ?_
          refine g_VP h lv_X11_358_X11 sh_178 (by decide) rfl (c_X11_valueOfA v T W a k ha (by omega) w (hK.simA hw)) pa_nx (fitR hR (by first | decide | omega) (by decide) (by omega)) rfl rfl (Nat.le_of_ble_eq_true rfl) dX11_pointsTo_27 (fun v27 u27 hs27 => ?_)
          obtain ⟨hv27, hs27⟩ := hs27
          cases hv27
          refine g_istore (ls' := [(0, _), (1, _), (2, _), (3, _), (4, _)]) h dX11_pointsTo_30 (by decide) rfl rfl ?_
          refine g_iload h dX11_pointsTo_32 rfl ?_
          refine g_iload_n h dX11_pointsTo_34 rfl rfl ?_
          refine g_icmp_le (tgt := 43) h dX11_pointsTo_35 (by decide) (fun c35 => ?_) (fun c35 => ?_)
          · refine g_iload_n h dX11_pointsTo_43 rfl rfl ?_
            refine g_istore_n (ls' := [(0, _), (1, _), (2, _), (3, _), (4, _)]) h dX11_pointsTo_44 rfl (by decide) rfl rfl ?_
            refine g_iinc (v := nI (k + 1)) (ls' := [(0, _), (1, _), (2, _), (3, _), (4, _)]) h dX11_pointsTo_45 rfl (nI_1 k) (by decide) rfl rfl ?_
            refine g_goto (tgt := 4) h dX11_pointsTo_48 (by decide) ?_
            refine g_del 4 (ls' := [(0, _), (1, _), (2, _), (3, _)]) rfl ?_
            exact g_cv (by rw [pm_y c18 (if_neg (by first | exact c35 | exact Int32.not_lt.mpr c35))]) rfl (ih (k + 1) u27 (by omega) (by omega) (hs27.trans hw))
          · refine g_iload h dX11_pointsTo_38 rfl ?_
            refine g_goto (tgt := 44) h dX11_pointsTo_40 (by decide) ?_
            refine g_istore_n (ls' := [(0, _), (1, _), (2, _), (3, _), (4, _)]) h dX11_pointsTo_44 rfl (by decide) rfl rfl ?_
            refine g_iinc (v := nI (k + 1)) (ls' := [(0, _), (1, _), (2, _), (3, _), (4, _)]) h dX11_pointsTo_45 rfl (nI_1 k) (by decide) rfl rfl ?_
            refine g_goto (tgt := 4) h dX11_pointsTo_48 (by decide) ?_
            refine g_del 4 (ls' := [(0, _), (1, _), (2, _), (3, _)]) rfl ?_
            exact g_cv (by rw [pm_y c18 (if_pos (by first | exact c35 | exact Int32.not_le.mp c35))]) rfl (ih (k + 1) u27 (by omega) (by omega) (hs27.trans hw))
        · refine g_goto (tgt := 45) h dX11_pointsTo_21 (by decide) ?_
          refine g_iinc (v := nI (k + 1)) (ls' := [(0, _), (1, _), (2, _), (3, _)]) h dX11_pointsTo_45 rfl (nI_1 k) (by decide) rfl rfl ?_
          refine g_goto (tgt := 4) h dX11_pointsTo_48 (by decide) ?_
          exact g_cv (by rw [pm_n c18]) rfl (ih (k + 1) w (by omega) (by omega) hw)
  refine g_iconst (v := -1) h dX11_pointsTo_0 (by decide) ?_
  refine g_istore_n (ls' := [(0, _), (1, _), (2, _)]) h dX11_pointsTo_1 rfl (by decide) rfl rfl ?_
  refine g_iconst (v := nI 0) h dX11_pointsTo_2 (by decide) ?_
  refine g_istore_n (ls' := [(0, _), (1, _), (2, _), (3, _)]) h dX11_pointsTo_3 rfl (by decide) rfl rfl ?_
  exact LP (168 + 1) 0 u (by omega) (by omega) (simA.refl _)
theorem rgm_s {v : Sto} {a T n : Nat} (h : n < T) : rgN v a (T - n) n = if ptI v (atF v a n) = -1 then 0 else if v 4 (ix (ptI v (atF v a n))) = nI a then n + 1 else rgN v a (T - (n + 1)) (n + 1) := by
  rw [show T - n = (T - (n + 1)) + 1 by omega]; rfl
def rgV (n : Nat) : Int32 := if n = 0 then -1 else nI n
def rnQ (v u : Sto) (a T : Nat) : Res → Sto → Prop := fun o t => o = .inl (some (.int (rgV (rgN v a T 0)))) ∧ sim t u ∧ ∀ i, i < rgN v a T 0 → t 191 i = nI (atF v a i) ∧ t 192 i = ptI v (atF v a i)
theorem rn_nx {v u : Sto} {a T : Nat} : ∀ Ex s, ¬ rnQ v u a T (.inr Ex) s := fun _ _ h => nomatch h.1
theorem php : ∀ (n : Nat) (f : Nat → Nat), (∀ i, i ≤ n → f i < n) → ∃ i j, i < j ∧ j ≤ n ∧ f i = f j
  | 0, f, h => absurd (h 0 (Nat.le_refl _)) (Nat.not_lt_zero _)
  | n + 1, f, h => by
    by_cases c : ∃ i, i ≤ n ∧ f i = f (n + 1)
    · obtain ⟨i, hi, e⟩ := c
      exact ⟨i, n + 1, by omega, Nat.le_refl _, e⟩
    · have hc : ∀ i, i ≤ n → ¬ f i = f (n + 1) := fun i hi q => c ⟨i, hi, q⟩
      have hl := h (n + 1) (Nat.le_refl _)
      obtain ⟨i, j, h1, h2, e⟩ := php n (fun i => if f (n + 1) < f i then f i - 1 else f i) (fun i hi => by
        have := h i (by omega)
        have := hc i hi
        show (if f (n + 1) < f i then f i - 1 else f i) < n
        split <;> omega)
      refine ⟨i, j, h1, by omega, ?_⟩
      have e : (if f (n + 1) < f i then f i - 1 else f i) = (if f (n + 1) < f j then f j - 1 else f j) := e
      have := hc i (by omega)
      have := hc j h2
      split at e <;> split at e <;> omega
theorem rg_ad {v : Sto} {a k : Nat} : ∀ (j n : Nat), rgN v a (j + k) n = rgN v a j n ∨ ((∀ i, n ≤ i → i < n + j → ¬ ptI v (atF v a i) = -1 ∧ ¬ v 4 (ix (ptI v (atF v a i))) = nI a) ∧ rgN v a j n = 0 ∧ rgN v a (j + k) n = rgN v a k (n + j))
  | 0, n => Or.inr ⟨fun i h1 h2 => by omega, rfl, by rw [Nat.zero_add]; rfl⟩
  | j + 1, n => by
    have e1 : rgN v a (j + 1 + k) n = if ptI v (atF v a n) = -1 then 0 else if v 4 (ix (ptI v (atF v a n))) = nI a then n + 1 else rgN v a (j + k) (n + 1) := by rw [show j + 1 + k = (j + k) + 1 by omega]; rfl
    have e2 : rgN v a (j + 1) n = if ptI v (atF v a n) = -1 then 0 else if v 4 (ix (ptI v (atF v a n))) = nI a then n + 1 else rgN v a j (n + 1) := rfl
    by_cases c1 : ptI v (atF v a n) = -1
    · left; rw [e1, e2, if_pos c1, if_pos c1]
    · by_cases c2 : v 4 (ix (ptI v (atF v a n))) = nI a
      · left; rw [e1, e2, if_neg c1, if_neg c1, if_pos c2, if_pos c2]
      · rw [e1, e2, if_neg c1, if_neg c1, if_neg c2, if_neg c2]
        rcases rg_ad (v := v) (a := a) (k := k) j (n + 1) with h | ⟨h, h2, h3⟩
        · exact Or.inl h
        · refine Or.inr ⟨fun i h4 h5 => ?_, h2, by rw [h3, show n + 1 + j = n + (j + 1) by omega]⟩
          by_cases z : i = n
          · subst z; exact ⟨c1, c2⟩
          · exact h i (by omega) (by omega)
theorem rg_z {v : Sto} {a : Nat} : ∀ (k n : Nat), (∀ i, n ≤ i → ¬ ptI v (atF v a i) = -1 ∧ ¬ v 4 (ix (ptI v (atF v a i))) = nI a) → rgN v a k n = 0
  | 0, _, _ => rfl
  | k + 1, n, h => by
    have h0 := h n (Nat.le_refl _)
    show (if ptI v (atF v a n) = -1 then 0 else if v 4 (ix (ptI v (atF v a n))) = nI a then n + 1 else rgN v a k (n + 1)) = 0
    rw [if_neg h0.1, if_neg h0.2]
    exact rg_z k (n + 1) (fun i hi => h i (by omega))
theorem atm_b {v : Sto} {T a n : Nat} (hI : TI v 3 10 T) (hT : T ≤ 10) (h : ¬ ptI v (atF v a n) = -1) : atF v a (n + 1) < T ∧ v 4 (ix (ptI v (atF v a n))) = nI (atF v a (n + 1)) := by
  obtain ⟨r, hr, e, e2⟩ := pt_i h
  have hh : atF v a (n + 1) = ix (v 4 (ix (ptI v (atF v a n)))) := rfl
  rw [hh, e, ix_nI (by omega)]
  obtain ⟨b, hb, eb, _⟩ := (hI.own r hr).resolve_left e2.1
  have eb : v 4 r = nI b := eb
  rw [eb, ix_nI (by omega)]
  exact ⟨hb, rfl⟩
theorem rg_eq {v : Sto} {T a : Nat} (hI : TI v 3 10 T) (hT : T ≤ 10) (ha : a < T) : rgN v a 10 0 = rgN v a T 0 := by
  have e10 : 10 = T + (10 - T) := by omega
  rcases rg_ad (v := v) (a := a) (k := 10 - T) T 0 with h | ⟨h, h2, h3⟩
  · rw [← e10] at h; exact h
  · rw [← e10] at h3
    rw [h3, h2]
    have hb : ∀ i, i ≤ T → atF v a i < T := by
      intro i hi
      cases i with
      | zero => exact ha
      | succ i => exact (atm_b hI hT (h i (by omega) (by omega)).1).1
    obtain ⟨i, j, h4, h5, e⟩ := php T (atF v a) hb
    have per : ∀ m, atF v a (i + m) = atF v a (j + m) := by
      intro m
      induction m with
      | zero => exact e
      | succ m ih =>
        show ix (v 4 (ix (ptI v (atF v a (i + m))))) = ix (v 4 (ix (ptI v (atF v a (j + m)))))
        rw [ih]
    have red : ∀ B m, m ≤ B → ∃ q, q < j ∧ atF v a m = atF v a q := by
      intro B
      induction B with
      | zero => intro m hm; exact ⟨0, by omega, by rw [show m = 0 by omega]⟩
      | succ B ih =>
        intro m hm
        by_cases z : m < j
        · exact ⟨m, z, rfl⟩
        · have := per (m - j)
          rw [show j + (m - j) = m by omega] at this
          obtain ⟨q, hq, eq⟩ := ih (i + (m - j)) (by omega)
          exact ⟨q, hq, by rw [← this, eq]⟩
    refine rg_z _ _ (fun m _ => ?_)
    obtain ⟨q, hq, eq⟩ := red m m (Nat.le_refl _)
    rw [eq]
    exact h q (by omega) (by omega)
set_option maxHeartbeats 1000000 in
theorem c_X11_rings {E : EE} (v : Sto) (T W a : Nat) (ha : a < T) (u : Sto) (hK : LK v u T W) (hI : TI v 3 10 T) : CtP E 35 0 yX11_rings cX11_rings 5 (some .int) [.ref (E.ad 178), .int (nI a)] u (rnQ v u a T) := by
  have hT := hK.hT
  refine ctp_of (by decide) (Nat.le_of_ble_eq_true rfl) (fun X h hR hrt htab hargs => ?_)
  have LP : ∀ (j k : Nat) (w : Sto), T < k + j → k ≤ T → (sim w u ∧ (∀ i, i < k → w 191 i = nI (atF v a i) ∧ w 192 i = ptI v (atF v a i)) ∧ rgN v a T 0 = rgN v a (T - k) k ∧ atF v a k < T) → G E X (QMP E X (rnQ v u a T) 0) 5 0 4 [(0, .ref (E.ad 178)), (1, .int (nI a)), (2, .int (nI (atF v a k))), (3, .int (nI k))] [] w := by
    intro j
    induction j with
    | zero => intro k w h1 h2 hw; omega
    | succ j ih =>
      intro k w h1 h2 hw
      refine g_iload_n h dX11_rings_4 rfl rfl ?_
      refine g_aload_n h dX11_rings_5 rfl rfl ?_
      refine g_getR h fl_X11_7_10 sh_178 (by decide) rfl dX11_rings_6 ?_
      refine g_iconst (v := nI 1) h dX11_rings_9 (by decide) ?_
      refine g_iald h _ _ _ sh_179 (by decide) (by decide) rfl (by omega) dX11_rings_10 ?_
      refine g_top (y := nI T) (hK.sim hw.1).r.ten ?_
      refine g_icmp_ge (tgt := 67) h dX11_rings_11 (by decide) (fun c11 => ?_) (fun c11 => ?_)
      · have n11 := le_n (by omega) (by omega) (show nI (T) ≤ nI (k) from c11)
        refine g_iconst (v := -1) h dX11_rings_67 (by decide) ?_
        exact g_iretP h hrt dX11_rings_68 (by omega) ⟨by rw [rgV, if_pos (by rw [hw.2.2.1, show T - k = 0 by omega]; rfl)], hw.1, fun i hi => by rw [hw.2.2.1, show T - k = 0 by omega] at hi; exact absurd hi (Nat.not_lt_zero _)⟩
      · have n11 := nle_n (by omega) (by omega) (show ¬ nI (T) ≤ nI (k) from c11)
        have hrg := rgm_s (v := v) (a := a) n11
        have hT := hK.hT
        refine g_aload_n h dX11_rings_14 rfl rfl ?_
        refine g_iload_n h dX11_rings_15 rfl rfl ?_
        refine g_VP h lv_X11_367_X11 sh_178 (by decide) rfl (c_X11_pointsTo v T W (atF v a k) hw.2.2.2 w (hK.sim hw.1) hI) pa_nx (fitR hR (by first | decide | omega) (by decide) (by omega)) rfl rfl (Nat.le_of_ble_eq_true rfl) dX11_rings_16 (fun v16 u16 hs16 => ?_)
        obtain ⟨hv16, hs16⟩ := hs16
        cases hv16
        refine g_istore (ls' := [(0, _), (1, _), (2, _), (3, _), (4, _)]) h dX11_rings_19 (by decide) rfl rfl ?_
        refine g_iload h dX11_rings_21 rfl ?_
        refine g_iconst (v := -1) h dX11_rings_23 (by decide) ?_
        refine g_icmp_ne (tgt := 29) h dX11_rings_24 (by decide) (fun c24 => ?_) (fun c24 => ?_)
        · rw [if_neg c24] at hrg
          obtain ⟨r9, hr9, er, -⟩ := pt_i c24
          have hat := atm_b hI hK.hT c24
          refine g_aload_n h dX11_rings_29 rfl rfl ?_
          refine g_getR h fl_X11_51_10 sh_178 (by decide) rfl dX11_rings_30 ?_
          refine g_iload_n h dX11_rings_33 rfl rfl ?_
          refine g_iload_n h dX11_rings_34 rfl rfl ?_
          refine g_iast h _ _ _ sh_191 (by decide) (by decide) rfl (by omega) dX11_rings_35 ?_
          refine g_aload_n h dX11_rings_36 rfl rfl ?_
          refine g_getR h fl_X11_54_10 sh_178 (by decide) rfl dX11_rings_37 ?_
          refine g_iload_n h dX11_rings_40 rfl rfl ?_
          refine g_iload h dX11_rings_41 rfl ?_
          refine g_iast h _ _ _ sh_192 (by decide) (by decide) rfl (by omega) dX11_rings_43 ?_
          refine g_aload_n h dX11_rings_44 rfl rfl ?_
          refine g_iload h dX11_rings_45 rfl ?_
          refine g_top er ?_
          refine g_iconst (v := nI 0) h dX11_rings_47 (by decide) ?_
          refine g_V h lv_X11_84_X11 sh_178 (by decide) rfl (c_X11_ofRoom r9 0 hr9 (by decide) _) (fitR hR (by first | decide | omega) (by decide) (by omega)) rfl rfl (Nat.le_of_ble_eq_true rfl) dX11_rings_48 ?_
          refine g_top (y := nI (atF v a (k + 1))) (((hK.sim (sim_scr (sim_scr (hs16.2.trans hw.1) _ (scr_m (by decide))) _ (scr_m (by decide)))).own hr9).trans (by rw [← hat.2, er, ix_nI (by omega)])) ?_
          refine g_istore_n (ls' := [(0, _), (1, _), (2, _), (3, _), (4, _)]) h dX11_rings_51 rfl (by decide) rfl rfl ?_
          refine g_iload_n h dX11_rings_52 rfl rfl ?_
          refine g_iload_n h dX11_rings_53 rfl rfl ?_
          refine g_icmp_ne (tgt := 61) h dX11_rings_54 (by decide) (fun c54 => ?_) (fun c54 => ?_)
          · rw [if_neg (fun q => c54 (hat.2.symm.trans q))] at hrg
            refine g_iinc (v := nI (k + 1)) (ls' := [(0, _), (1, _), (2, _), (3, _), (4, _)]) h dX11_rings_61 rfl (nI_1 k) (by decide) rfl rfl ?_
            refine g_goto (tgt := 4) h dX11_rings_64 (by decide) ?_
            refine g_del 4 (ls' := [(0, _), (1, _), (2, _), (3, _)]) rfl ?_
            exact ih (k + 1) _ (by omega) (by omega) ⟨sim_scr (sim_scr (hs16.2.trans hw.1) _ (scr_m (by decide))) _ (scr_m (by decide)), fun i hi => by
              by_cases q : i = k
              · subst q; exact ⟨by rw [su_cell _ _ (by decide)]; exact su_k, su_k⟩
              · rw [su_cell _ _ (by decide : (191 : Nat) ≠ 192), su_i q, su_i q, su_cell _ _ (by decide : (192 : Nat) ≠ 191), hs16.1 191 (by decide) (by decide), hs16.1 192 (by decide) (by decide)]; exact hw.2.1 i (by omega), hw.2.2.1.trans hrg, hat.1⟩
          · rw [if_pos (hat.2.trans c54)] at hrg
            have hR9 : rgN v a T 0 = k + 1 := hw.2.2.1.trans hrg
            refine g_iload_n h dX11_rings_57 rfl rfl ?_
            refine g_iconst (v := nI 1) h dX11_rings_58 (by decide) ?_
            refine g_iadd h dX11_rings_59 ?_
            exact g_iretP h hrt dX11_rings_60 (by omega) ⟨by rw [hR9, rgV, if_neg (by omega)]; exact congrArg (fun z => Sum.inl (some (Value.int z))) (nI_1 k), sim_scr (sim_scr (hs16.2.trans hw.1) _ (scr_m (by decide))) _ (scr_m (by decide)), by rw [hR9]; exact (fun i hi => by
  by_cases q : i = k
  · subst q; exact ⟨by rw [su_cell _ _ (by decide)]; exact su_k, su_k⟩
  · rw [su_cell _ _ (by decide : (191 : Nat) ≠ 192), su_i q, su_i q, su_cell _ _ (by decide : (192 : Nat) ≠ 191), hs16.1 191 (by decide) (by decide), hs16.1 192 (by decide) (by decide)]; exact hw.2.1 i (by omega))⟩
        · rw [if_pos c24] at hrg
          refine g_iconst (v := -1) h dX11_rings_27 (by decide) ?_
          exact g_iretP h hrt dX11_rings_28 (by omega) ⟨by rw [rgV, if_pos (hw.2.2.1.trans hrg)], hs16.2.trans hw.1, fun i hi => by rw [hw.2.2.1, hrg] at hi; exact absurd hi (Nat.not_lt_zero _)⟩
  refine g_iload_n h dX11_rings_0 rfl rfl ?_
  refine g_istore_n (ls' := [(0, _), (1, _), (2, _)]) h dX11_rings_1 rfl (by decide) rfl rfl ?_
  refine g_iconst (v := nI 0) h dX11_rings_2 (by decide) ?_
  refine g_istore_n (ls' := [(0, _), (1, _), (2, _), (3, _)]) h dX11_rings_3 rfl (by decide) rfl rfl ?_
  exact LP (T + 1) 0 u (by omega) (by omega) ⟨sim.refl _, fun i hi => absurd hi (Nat.not_lt_zero _), by rw [Nat.sub_zero], ha⟩
