-- after: 9m.oq
theorem fs_k {p : Nat → Bool} {c : Nat} (h : cN p c = 0) (h2 : p c = true) : fsN p (c + 1) = c := by
  rw [fsN, if_neg (by rw [(cN_0 p c).mp h]; decide), if_pos h2]
theorem fs_n {p : Nat → Bool} {c : Nat} (h : ¬ cN p c = 0) : fsN p (c + 1) = fsN p c := by
  rw [fsN, if_pos (by
    cases e : anyB p c with
    | true => rfl
    | false => exact absurd ((cN_0 p c).mpr e) h)]
theorem cN_1 {p : Nat → Bool} {c : Nat} (h : p c = true) : cN p (c + 1) = cN p c + 1 := by rw [cN, if_pos h]
theorem cN_n {p : Nat → Bool} {c : Nat} (h : ¬ p c = true) : cN p (c + 1) = cN p c := by rw [cN, if_neg h]
theorem pw_729 {M k : Nat} (h : M ≤ 3) (hk : k ≤ 6) : M ^ k ≤ 729 := Nat.le_trans (Nat.pow_le_pow_left h k) (Nat.le_trans (Nat.pow_le_pow_right (by omega) hk) (by decide))
theorem gd_lt {v : Sto} {x : Int32} {T i : Nat} (h : i < (adL v x T).length) : (adL v x T).getD i 0 < T := by
  rw [List.getD_eq_getElem?_getD, List.getElem?_eq_getElem h]
  exact ad_lt T _ (List.getElem_mem h)
theorem gd_ap {l : List Nat} {i k : Nat} (h : i < l.length) : (l ++ [k]).getD i 0 = l.getD i 0 := by
  rw [List.getD_eq_getElem?_getD, List.getD_eq_getElem?_getD, List.getElem?_append_left h]
theorem gd_ae {l : List Nat} {k : Nat} : (l ++ [k]).getD l.length 0 = k := by
  rw [List.getD_eq_getElem?_getD, List.getElem?_append_right (Nat.le_refl _)]
  simp
set_option maxHeartbeats 1000000 in
theorem c_X11_fair {E : EE} (v : Sto) (T W : Nat) (d s h9 : Int32) (u : Sto) (hK : LK v u T W) : CtP E 36 0 yX11_fair cX11_fair 10 (some .int) [.ref (E.ad 178), .int d, .int s, .int h9] u (PMr (cdL [iae]) (faiR v T d s h9).1 u) := by
  refine ctp_of (by decide) (Nat.le_of_ble_eq_true rfl) (fun X h hR hrt htab hargs => ?_)
  refine g_aload_n h dX11_fair_0 rfl rfl ?_
  refine g_iload_n h dX11_fair_1 rfl rfl ?_
  refine g_iconst (v := nI 0) h dX11_fair_2 (by decide) ?_
  refine g_bipush (v := nI 6) h dX11_fair_3 (by decide) ?_
  refine g_S h ls_X11_72 (c_X11_isIn d (nI 0) (nI 6) u) (fitR hR (by first | decide | omega) (by decide) (by omega)) rfl rfl (Nat.le_of_ble_eq_true rfl) dX11_fair_5 ?_
  by_cases n5 : okN d (nI 0) (nI 6)
  · refine g_top (b2_t n5) ?_
    obtain ⟨D, hD0, hD1, iD, rfl⟩ := okN_k (by decide) n5
    refine g_if_eq (tgt := 27) h dX11_fair_8 (by decide) (fun q => absurd q (by decide)) (fun _ => ?_)
    refine g_iload_n h dX11_fair_11 rfl rfl ?_
    refine g_iconst (v := -1) h dX11_fair_12 (by decide) ?_
    refine g_icmp_eq (tgt := 31) h dX11_fair_13 (by decide) (fun c13 => ?_) (fun c13 => ?_)
    · subst c13
      refine g_iconst (v := nI 0) h dX11_fair_31 (by decide) ?_
      refine g_putI h pfl_X11_69_10 sh_178 (by decide) rfl dX11_fair_32 ?_
      refine g_aload_n h dX11_fair_35 rfl rfl ?_
      refine g_getI h fl_X11_69_10 sh_178 (by decide) rfl dX11_fair_36 ?_
      refine g_top su_k ?_
      refine g_if_le (tgt := 44) h dX11_fair_39 (by decide) (fun _ => ?_) (fun q => absurd q (by decide))
      refine g_iconst (v := nI 0) h dX11_fair_44 (by decide) ?_
      refine g_istore (ls' := [(0, _), (1, _), (2, _), (3, _), (4, _)]) h dX11_fair_45 (by decide) rfl rfl ?_
      refine g_iconst (v := nI 0) h dX11_fair_47 (by decide) ?_
      refine g_istore (ls' := [(0, _), (1, _), (2, _), (3, _), (4, _), (5, _)]) h dX11_fair_48 (by decide) rfl rfl ?_
      have LP : ∀ (j k : Nat) (w : Sto), T < k + j → k ≤ T → (sim w (su u 178 0 (nI 0)) ∧ (adL v s k).length ≤ 3 ∧ ∀ i, i < (adL v s k).length → w 196 i = nI ((adL v s k).getD i 0)) → G E X (QMP E X (PMr (cdL [iae]) (faiR v T (nI D) s (-1)).1 u) 0) 10 0 50 [(0, .ref (E.ad 178)), (1, .int (nI D)), (2, .int s), (3, .int (-1)), (4, .int (nI (adL v s k).length)), (5, .int (nI k))] [] w := by
        intro j
        induction j with
        | zero => intro k w h1 h2 hw; omega
        | succ j ih =>
          intro k w h1 h2 hw
          refine g_iload h dX11_fair_50 rfl ?_
          refine g_aload_n h dX11_fair_52 rfl rfl ?_
          refine g_getR h fl_X11_7_10 sh_178 (by decide) rfl dX11_fair_53 ?_
          refine g_iconst (v := nI 1) h dX11_fair_56 (by decide) ?_
          refine g_iald h _ _ _ sh_179 (by decide) (by decide) rfl (by omega) dX11_fair_57 ?_
          refine g_top (y := nI T) (hK.th.sim hw.1).r.ten ?_
          refine g_icmp_ge (tgt := 109) h dX11_fair_58 (by decide) (fun c58 => ?_) (fun c58 => ?_)
          · have n58 := le_n (by omega) (by omega) (show nI (T) ≤ nI (k) from c58)
            refine g_iload h dX11_fair_109 rfl ?_
            refine g_iconst (v := nI 2) h dX11_fair_111 (by decide) ?_
            refine g_icmp_ge (tgt := 118) h dX11_fair_112 (by decide) (fun c112 => ?_) (fun c112 => ?_)
            · have n112 := le_n (by omega) (by omega) (show nI (2) ≤ nI ((adL v s k).length) from c112)
              have ek : k = T := by omega
              rw [ek] at hw n112
              obtain ⟨M, hM⟩ : ∃ M, (adL v s T).length = M := ⟨_, rfl⟩
              have hw1 := hw.2.1
              rw [hM] at n112 hw1
              have hM23 : M = 2 ∨ M = 3 := by omega
              have hM0 : ¬ nI M = 0 := fun q => absurd (eq_n (by omega) (by omega) (show nI M = nI 0 from q)) (by omega)
              have hse : seP (guI v s T) := (ad_se hK.hT).1.mpr (by rw [hM]; exact hM23)
              have hsL := (ad_se (v := v) (x := s) hK.hT).2 (by omega)
              have hits : ∀ i, i < M → w 196 i = nI ((adL v s T).getD i 0) := fun i hi => hw.2.2 i (by omega)
              have hgd : ∀ i, i < M → (adL v s T).getD i 0 < T := fun i hi => gd_lt (by omega)
              have hT9 := hK.hT
              refine g_cv (ls2 := [(0, .ref (E.ad 178)), (1, .int (nI D)), (2, .int s), (3, .int (-1)), (4, .int (nI M)), (5, .int (nI k))]) (by rw [ek, hM]) rfl ?_
              refine g_iconst (v := nI 0) h dX11_fair_118 (by decide) ?_
              refine g_istore (ls' := [(0, _), (1, _), (2, _), (3, _), (4, _), (5, _)]) h dX11_fair_119 (by decide) rfl rfl ?_
              have LP2 : ∀ (j2 a : Nat) (w2 : Sto), M < a + j2 → a ≤ M → (sim w2 (su u 178 0 (nI 0)) ∧ (∀ i, i < M → w2 196 i = nI ((adL v s T).getD i 0)) ∧ ∀ j, j < 6 * a → w2 193 j = vaF v D (adL v s T) j) → G E X (QMP E X (PMr (cdL [iae]) (faiR v T (nI D) s (-1)).1 u) 0) 10 0 121 [(0, .ref (E.ad 178)), (1, .int (nI D)), (2, .int s), (3, .int (-1)), (4, .int (nI M)), (5, .int (nI a))] [] w2 := by
                intro j2
                induction j2 with
                | zero => intro a w2 h1 h2 hw2; omega
                | succ j2 ih2 =>
                  intro a w2 h1 h2 hw2
                  refine g_iload h dX11_fair_121 rfl ?_
                  refine g_iload h dX11_fair_123 rfl ?_
                  refine g_icmp_ge (tgt := 184) h dX11_fair_125 (by decide) (fun c125 => ?_) (fun c125 => ?_)
                  · have n125 := le_n (by omega) (by omega) (show nI (M) ≤ nI (a) from c125)
                    have hwor : ∀ j, j < 6 * M → w2 193 j = vaF v D (adL v s T) j := fun j hj => hw2.2.2 j (by omega)
                    refine g_iconst (v := nI 1) h dX11_fair_184 (by decide) ?_
                    refine g_istore (ls' := [(0, _), (1, _), (2, _), (3, _), (4, _), (5, _)]) h dX11_fair_185 (by decide) rfl rfl ?_
                    refine g_iconst (v := nI 0) h dX11_fair_187 (by decide) ?_
                    refine g_istore (ls' := [(0, _), (1, _), (2, _), (3, _), (4, _), (5, _), (6, _)]) h dX11_fair_188 (by decide) rfl rfl ?_
                    have LP6 : ∀ j6 k6 : Nat, 6 < k6 + j6 → k6 ≤ 6 → G E X (QMP E X (PMr (cdL [iae]) (faiR v T (nI D) s (-1)).1 u) 0) 10 0 190 [(0, .ref (E.ad 178)), (1, .int (nI D)), (2, .int s), (3, .int (-1)), (4, .int (nI M)), (5, .int (nI (M ^ k6))), (6, .int (nI k6))] [] (w2) := by
                      intro j6
                      induction j6 with
                      | zero => intro k6 h1 h2; omega
                      | succ j6 ih6 =>
                        intro k6 h1 h2
                        refine g_iload h dX11_fair_190 rfl ?_
                        refine g_bipush (v := nI 6) h dX11_fair_192 (by decide) ?_
                        refine g_icmp_ge (tgt := 210) h dX11_fair_194 (by decide) (fun c194 => ?_) (fun c194 => ?_)
                        · have n194 := le_n (by omega) (by omega) (show nI (6) ≤ nI (k6) from c194)
                          have e66 : k6 = 6 := by omega
                          have h729 := pw_729 (M := M) (k := 6) (by omega) (by omega)
                          refine g_iconst (v := nI 0) h dX11_fair_210 (by decide) ?_
                          refine g_istore (ls' := [(0, _), (1, _), (2, _), (3, _), (4, _), (5, _), (6, _)]) h dX11_fair_211 (by decide) rfl rfl ?_
                          refine g_iconst (v := nI 0) h dX11_fair_213 (by decide) ?_
                          refine g_istore (ls' := [(0, _), (1, _), (2, _), (3, _), (4, _), (5, _), (6, _), (7, _)]) h dX11_fair_214 (by decide) rfl rfl ?_
                          have LP4 : ∀ (j4 c : Nat) (w4 : Sto), M ^ 6 < c + j4 → c ≤ M ^ 6 → (sim w4 (su u 178 0 (nI 0)) ∧ (∀ i, i < M → w4 196 i = nI ((adL v s T).getD i 0)) ∧ (∀ j, j < 6 * M → w4 193 j = vaF v D (adL v s T) j) ∧ (¬ cN (faB v D (adL v s T)) c = 0 → ∀ i, i < 6 → w4 195 i = nI ((adL v s T).getD ((fsN (faB v D (adL v s T)) c / M ^ (5 - i)) % M) 0))) → G E X (QMP E X (PMr (cdL [iae]) (faiR v T (nI D) s (-1)).1 u) 0) 10 0 216 [(0, .ref (E.ad 178)), (1, .int (nI D)), (2, .int s), (3, .int (-1)), (4, .int (nI M)), (5, .int (nI (M ^ 6))), (6, .int (nI (cN (faB v D (adL v s T)) c))), (7, .int (nI c))] [] w4 := by
                            intro j4
                            induction j4 with
                            | zero => intro c w4 h1 h2 hw4; omega
                            | succ j4 ih4 =>
                              intro c w4 h1 h2 hw4
                              refine g_iload h dX11_fair_216 rfl ?_
                              refine g_iload h dX11_fair_218 rfl ?_
                              refine g_icmp_ge (tgt := 321) h dX11_fair_220 (by decide) (fun c220 => ?_) (fun c220 => ?_)
                              · have n220 := le_n (by omega) (by omega) (show nI (M ^ 6) ≤ nI (c) from c220)
                                have ec : c = M ^ 6 := by omega
                                have hcl := cN_lq (p := (faB v D (adL v s T))) c
                                refine g_iload_n h dX11_fair_321 rfl rfl ?_
                                refine g_iconst (v := -1) h dX11_fair_322 (by decide) ?_
                                refine g_icmp_ne (tgt := 331) h dX11_fair_323 (by decide) (fun c323 => ?_) (fun c323 => ?_)
                                · exact absurd rfl c323
                                · refine g_iload h dX11_fair_326 rfl ?_
                                  refine g_goto (tgt := 349) h dX11_fair_328 (by decide) ?_
                                  exact g_iretP h hrt dX11_fair_349 (by omega) (pm_v (by rw [faiR, if_pos n5, if_pos (Or.inl rfl), if_pos hse, iD, hsL]) (by rw [faV, if_pos rfl, show cN (faB v D (adL v s T)) ((adL v s T).length ^ 6) = cN (faB v D (adL v s T)) c by rw [hM, ec]]) hw4.1)
                              · have n220 := nle_n (by omega) (by omega) (show ¬ nI (M ^ 6) ≤ nI (c) from c220)
                                refine g_iload h dX11_fair_223 rfl ?_
                                refine g_istore (ls' := [(0, _), (1, _), (2, _), (3, _), (4, _), (5, _), (6, _), (7, _), (8, _)]) h dX11_fair_225 (by decide) rfl rfl ?_
                                refine g_iconst (v := nI 5) h dX11_fair_227 (by decide) ?_
                                refine g_istore (ls' := [(0, _), (1, _), (2, _), (3, _), (4, _), (5, _), (6, _), (7, _), (8, _), (9, _)]) h dX11_fair_228 (by decide) rfl rfl ?_
                                have LP5 : ∀ (j5 i : Nat) (w5 : Sto), 6 < i + j5 → i ≤ 6 → (sim w5 (su u 178 0 (nI 0)) ∧ (∀ k8, k8 = 193 ∨ k8 = 195 ∨ k8 = 196 → w5 k8 = w4 k8) ∧ ∀ j, 6 ≤ j + i → j < 6 → w5 194 j = dgF M c j) → G E X (QMP E X (PMr (cdL [iae]) (faiR v T (nI D) s (-1)).1 u) 0) 10 0 230 [(0, .ref (E.ad 178)), (1, .int (nI D)), (2, .int s), (3, .int (-1)), (4, .int (nI M)), (5, .int (nI (M ^ 6))), (6, .int (nI (cN (faB v D (adL v s T)) c))), (7, .int (nI c)), (8, .int (nI (c / M ^ i))), (9, .int (dnI (6 - i)))] [] w5 := by
                                  intro j5
                                  induction j5 with
                                  | zero => intro i w5 h1 h2 hw5; omega
                                  | succ j5 ih5 =>
                                    intro i w5 h1 h2 hw5
                                    refine g_iload h dX11_fair_230 rfl ?_
                                    refine g_if_lt (tgt := 260) h dX11_fair_232 (by decide) (fun c232 => ?_) (fun c232 => ?_)
                                    · have ei : i = 6 := by
                                        by_cases q : i < 6
                                        · rw [show 6 - i = (5 - i) + 1 by omega] at c232; exact absurd c232 (dn_n _ (by omega))
                                        · omega
                                      have hdl : ∀ j, j < 6 → w5 194 j = dgF M c j := fun j hj => hw5.2.2 j (by omega) (by omega)
                                      refine g_aload_n h dX11_fair_260 rfl rfl ?_
                                      refine g_iload h dX11_fair_261 rfl ?_
                                      refine g_V h lv_X11_364_X11 sh_178 (by decide) rfl (c_X11_isFair M hw1 (vaF v D (adL v s T)) (dgF M c) _ (fun j hj => (congrFun (hw5.2.1 193 (by decide)) _).trans (hw4.2.2.1 j hj)) hdl (fun s9 hs9 j9 hj9 => hK.vl _ _)) (fitR hR (by first | decide | omega) (by decide) (by omega)) rfl rfl (Nat.le_of_ble_eq_true rfl) dX11_fair_263 ?_
                                      by_cases hfr : faB v D (adL v s T) c = true
                                      · refine g_cv (ls2 := [(0, .ref (E.ad 178)), (1, .int (nI D)), (2, .int s), (3, .int (-1)), (4, .int (nI M)), (5, .int (nI (M ^ 6))), (6, .int (nI (cN (faB v D (adL v s T)) c))), (7, .int (nI c)), (8, .int (nI (c / M ^ 6))), (9, .int (dnI (6 - i)))]) (by rw [ei]) rfl ?_
                                        refine g_top (b2_t (by have z9 := hfr; rw [faB, hM] at z9; exact z9)) ?_
                                        refine g_if_ne (tgt := 272) h dX11_fair_266 (by decide) (fun _ => ?_) (fun q => absurd q (by decide))
                                        refine g_iconst (v := nI 0) h dX11_fair_272 (by decide) ?_
                                        refine g_istore (ls' := [(0, _), (1, _), (2, _), (3, _), (4, _), (5, _), (6, _), (7, _), (8, _), (9, _)]) h dX11_fair_273 (by decide) rfl rfl ?_
                                        by_cases hz : cN (faB v D (adL v s T)) c = 0
                                        · have LP7 : ∀ (j7 h7 : Nat) (w7 : Sto), 6 < h7 + j7 → h7 ≤ 6 → (sim w7 (su u 178 0 (nI 0)) ∧ (∀ k8, k8 = 193 ∨ k8 = 194 ∨ k8 = 196 → w7 k8 = w5 k8) ∧ ∀ i, i < h7 → w7 195 i = nI ((adL v s T).getD ((c / M ^ (5 - i)) % M) 0)) → G E X (QMP E X (PMr (cdL [iae]) (faiR v T (nI D) s (-1)).1 u) 0) 10 0 275 [(0, .ref (E.ad 178)), (1, .int (nI D)), (2, .int s), (3, .int (-1)), (4, .int (nI M)), (5, .int (nI (M ^ 6))), (6, .int (nI (cN (faB v D (adL v s T)) c))), (7, .int (nI c)), (8, .int (nI (c / M ^ 6))), (9, .int (nI h7))] [] w7 := by
                                            intro j7
                                            induction j7 with
                                            | zero => intro h7 w7 h1 h2 hw7; omega
                                            | succ j7 ih7 =>
                                              intro h7 w7 h1 h2 hw7
                                              refine g_iload h dX11_fair_275 rfl ?_
                                              refine g_bipush (v := nI 6) h dX11_fair_277 (by decide) ?_
                                              refine g_icmp_ge (tgt := 312) h dX11_fair_279 (by decide) (fun c279 => ?_) (fun c279 => ?_)
                                              · have n279 := le_n (by omega) (by omega) (show nI (6) ≤ nI (h7) from c279)
                                                refine g_iinc (v := nI (cN (faB v D (adL v s T)) c + 1)) (ls' := [(0, _), (1, _), (2, _), (3, _), (4, _), (5, _), (6, _), (7, _), (8, _), (9, _)]) h dX11_fair_312 rfl (nI_1 _) (by decide) rfl rfl ?_
                                                refine g_iinc (v := nI (c + 1)) (ls' := [(0, _), (1, _), (2, _), (3, _), (4, _), (5, _), (6, _), (7, _), (8, _), (9, _)]) h dX11_fair_315 rfl (nI_1 c) (by decide) rfl rfl ?_
                                                refine g_goto (tgt := 216) h dX11_fair_318 (by decide) ?_
                                                refine g_del 8 (ls' := [(0, _), (1, _), (2, _), (3, _), (4, _), (5, _), (6, _), (7, _), (9, _)]) rfl ?_
                                                refine g_del 9 (ls' := [(0, _), (1, _), (2, _), (3, _), (4, _), (5, _), (6, _), (7, _)]) rfl ?_
                                                exact g_cv (by rw [cN_1 hfr]) rfl (ih4 (c + 1) _ (by omega) (by omega) ⟨hw7.1, fun i9 hi9 => (congrFun (hw7.2.1 196 (by decide)) _).trans ((congrFun (hw5.2.1 196 (by decide)) _).trans (hw4.2.1 i9 hi9)), fun j9 hj9 => (congrFun (hw7.2.1 193 (by decide)) _).trans ((congrFun (hw5.2.1 193 (by decide)) _).trans (hw4.2.2.1 j9 hj9)), fun _ i9 hi9 => by rw [fs_k hz hfr]; exact hw7.2.2 i9 (by omega)⟩)
                                              · have n279 := nle_n (by omega) (by omega) (show ¬ nI (6) ≤ nI (h7) from c279)
                                                refine g_iload h dX11_fair_282 rfl ?_
                                                refine g_if_ne (tgt := 312) h dX11_fair_284 (by decide) (fun c284 => ?_) (fun c284 => ?_)
                                                · exact absurd (show nI (cN (faB v D (adL v s T)) c) = 0 by rw [hz]; rfl) c284
                                                · refine g_aload_n h dX11_fair_287 rfl rfl ?_
                                                  refine g_getR h fl_X11_63_10 sh_178 (by decide) rfl dX11_fair_288 ?_
                                                  refine g_iload h dX11_fair_291 rfl ?_
                                                  refine g_aload_n h dX11_fair_293 rfl rfl ?_
                                                  refine g_getR h fl_X11_66_10 sh_178 (by decide) rfl dX11_fair_294 ?_
                                                  refine g_aload_n h dX11_fair_297 rfl rfl ?_
                                                  refine g_getR h fl_X11_60_10 sh_178 (by decide) rfl dX11_fair_298 ?_
                                                  refine g_iload h dX11_fair_301 rfl ?_
                                                  refine g_iald h _ _ _ sh_194 (by decide) (by decide) rfl (by omega) dX11_fair_303 ?_
                                                  refine g_top (y := nI ((c / M ^ (5 - h7)) % M)) ((congrFun (hw7.2.1 194 (by decide)) _).trans ((hdl h7 (by omega)).trans rfl)) ?_
                                                  refine g_iald h _ _ _ sh_196 (by decide) (by decide) rfl (by have hdg : (c / M ^ (5 - h7)) % M < M := Nat.mod_lt _ (by omega); omega) dX11_fair_304 ?_
                                                  have hdg : (c / M ^ (5 - h7)) % M < M := Nat.mod_lt _ (by omega)
                                                  refine g_top (y := nI ((adL v s T).getD ((c / M ^ (5 - h7)) % M) 0)) ((congrFun (hw7.2.1 196 (by decide)) _).trans ((congrFun (hw5.2.1 196 (by decide)) _).trans (hw4.2.1 _ hdg))) ?_
                                                  refine g_iast h _ _ _ sh_195 (by decide) (by decide) rfl (by omega) dX11_fair_305 ?_
                                                  refine g_iinc (v := nI (h7 + 1)) (ls' := [(0, _), (1, _), (2, _), (3, _), (4, _), (5, _), (6, _), (7, _), (8, _), (9, _)]) h dX11_fair_306 rfl (nI_1 h7) (by decide) rfl rfl ?_
                                                  refine g_goto (tgt := 275) h dX11_fair_309 (by decide) ?_
                                                  exact ih7 (h7 + 1) _ (by omega) (by omega) ⟨sim_scr hw7.1 _ (scr_m (by decide)), fun k8 hk8 => by rw [su_cell _ _ (by rcases hk8 with rfl | rfl | rfl <;> decide)]; exact hw7.2.1 k8 hk8, fun i9 hi9 => by
                                                    by_cases q : i9 = h7
                                                    · rw [q, su_k]
                                                    · rw [su_i q]; exact hw7.2.2 i9 (by omega)⟩
                                          exact LP7 7 0 w5 (by omega) (by omega) ⟨hw5.1, fun _ _ => rfl, fun i9 hi9 => absurd hi9 (Nat.not_lt_zero _)⟩
                                        · skip
                                          refine g_iload h dX11_fair_275 rfl ?_
                                          refine g_bipush (v := nI 6) h dX11_fair_277 (by decide) ?_
                                          refine g_icmp_ge (tgt := 312) h dX11_fair_279 (by decide) (fun c279 => ?_) (fun c279 => ?_)
                                          · exact absurd c279 (by decide)
                                          · refine g_iload h dX11_fair_282 rfl ?_
                                            refine g_if_ne (tgt := 312) h dX11_fair_284 (by decide) (fun c284 => ?_) (fun c284 => ?_)
                                            · refine g_iinc (v := nI (cN (faB v D (adL v s T)) c + 1)) (ls' := [(0, _), (1, _), (2, _), (3, _), (4, _), (5, _), (6, _), (7, _), (8, _), (9, _)]) h dX11_fair_312 rfl (nI_1 _) (by decide) rfl rfl ?_
                                              refine g_iinc (v := nI (c + 1)) (ls' := [(0, _), (1, _), (2, _), (3, _), (4, _), (5, _), (6, _), (7, _), (8, _), (9, _)]) h dX11_fair_315 rfl (nI_1 c) (by decide) rfl rfl ?_
                                              refine g_goto (tgt := 216) h dX11_fair_318 (by decide) ?_
                                              refine g_del 8 (ls' := [(0, _), (1, _), (2, _), (3, _), (4, _), (5, _), (6, _), (7, _), (9, _)]) rfl ?_
                                              refine g_del 9 (ls' := [(0, _), (1, _), (2, _), (3, _), (4, _), (5, _), (6, _), (7, _)]) rfl ?_
                                              exact g_cv (by rw [cN_1 hfr]) rfl (ih4 (c + 1) _ (by omega) (by omega) ⟨hw5.1, fun i9 hi9 => (congrFun (hw5.2.1 196 (by decide)) _).trans (hw4.2.1 i9 hi9), fun j9 hj9 => (congrFun (hw5.2.1 193 (by decide)) _).trans (hw4.2.2.1 j9 hj9), fun _ i9 hi9 => by rw [fs_n hz, hw5.2.1 195 (by decide)]; exact hw4.2.2.2 hz i9 hi9⟩)
                                            · exact absurd (eq_n (by have := cN_lq (p := (faB v D (adL v s T))) c; omega) (by omega) (show nI (cN (faB v D (adL v s T)) c) = nI 0 from c284)) hz
                                        skip
                                        
                                      · refine g_top (b2_f (fun z9 => hfr (by rw [faB, hM]; exact z9))) ?_
                                        refine g_if_ne (tgt := 272) h dX11_fair_266 (by decide) (fun q => absurd q (by decide)) (fun _ => ?_)
                                        refine g_goto (tgt := 315) h dX11_fair_269 (by decide) ?_
                                        refine g_iinc (v := nI (c + 1)) (ls' := [(0, _), (1, _), (2, _), (3, _), (4, _), (5, _), (6, _), (7, _), (8, _), (9, _)]) h dX11_fair_315 rfl (nI_1 c) (by decide) rfl rfl ?_
                                        refine g_goto (tgt := 216) h dX11_fair_318 (by decide) ?_
                                        refine g_del 8 (ls' := [(0, _), (1, _), (2, _), (3, _), (4, _), (5, _), (6, _), (7, _), (9, _)]) rfl ?_
                                        refine g_del 9 (ls' := [(0, _), (1, _), (2, _), (3, _), (4, _), (5, _), (6, _), (7, _)]) rfl ?_
                                        exact g_cv (by rw [cN_n hfr]) rfl (ih4 (c + 1) w5 (by omega) (by omega) ⟨hw5.1, fun i9 hi9 => (congrFun (hw5.2.1 196 (by decide)) _).trans (hw4.2.1 i9 hi9), fun j9 hj9 => (congrFun (hw5.2.1 193 (by decide)) _).trans (hw4.2.2.1 j9 hj9), fun hz9 i9 hi9 => by rw [cN_n hfr] at hz9; rw [fs_n hz9, hw5.2.1 195 (by decide)]; exact hw4.2.2.2 hz9 i9 hi9⟩)
                                    · have hi6 : i < 6 := by
                                        by_cases q : i < 6
                                        · exact q
                                        · rw [show 6 - i = 0 by omega] at c232; exact absurd dn_0 c232
                                      have edn : dnI (6 - i) = nI (5 - i) := by rw [show 6 - i = (5 - i) + 1 by omega]; exact dn_s _ (by omega)
                                      refine g_aload_n h dX11_fair_235 rfl rfl ?_
                                      refine g_getR h fl_X11_60_10 sh_178 (by decide) rfl dX11_fair_236 ?_
                                      refine g_iload h dX11_fair_239 rfl ?_
                                      refine g_top edn ?_
                                      refine g_iload h dX11_fair_241 rfl ?_
                                      refine g_iload h dX11_fair_243 rfl ?_
                                      refine g_irem h dX11_fair_245 hM0 ?_
                                      refine g_top (y := nI (c / M ^ i % M)) (pk_rem (by have := Nat.div_le_self c (M ^ i); omega) (by omega) (by omega)) ?_
                                      refine g_iast h _ _ _ sh_194 (by decide) (by decide) rfl (by omega) dX11_fair_246 ?_
                                      refine g_iload h dX11_fair_247 rfl ?_
                                      refine g_iload h dX11_fair_249 rfl ?_
                                      refine g_idiv h dX11_fair_251 hM0 ?_
                                      refine g_top (y := nI (c / M ^ (i + 1))) ((pk_div (by have := Nat.div_le_self c (M ^ i); omega) (by omega) (by omega)).trans (congrArg nI (by rw [Nat.div_div_eq_div_mul, Nat.pow_succ]))) ?_
                                      refine g_istore (ls' := [(0, _), (1, _), (2, _), (3, _), (4, _), (5, _), (6, _), (7, _), (8, _), (9, _)]) h dX11_fair_252 (by decide) rfl rfl ?_
                                      refine g_iinc (v := dnI (6 - (i + 1))) (ls' := [(0, _), (1, _), (2, _), (3, _), (4, _), (5, _), (6, _), (7, _), (8, _), (9, _)]) h dX11_fair_254 rfl ((by rw [show 6 - i = (5 - i) + 1 by omega, dn_m _ (by omega)]; exact congrArg dnI (by omega))) (by decide) rfl rfl ?_
                                      refine g_goto (tgt := 230) h dX11_fair_257 (by decide) ?_
                                      exact ih5 (i + 1) _ (by omega) (by omega) ⟨sim_scr hw5.1 _ (scr_m (by decide)), fun k8 hk8 => by rw [su_cell _ _ (by rcases hk8 with rfl | rfl | rfl <;> decide)]; exact hw5.2.1 k8 hk8, fun j h8 h9 => by
                                        by_cases q : j = 5 - i
                                        · rw [q, su_k, dgF, show 5 - (5 - i) = i by omega]
                                        · rw [su_i q]; exact hw5.2.2 j (by omega) h9⟩
                                exact g_cv (by rw [Nat.pow_zero, Nat.div_one]; rfl) rfl (LP5 7 0 w4 (by omega) (by omega) ⟨hw4.1, fun _ _ => rfl, fun j h8 h9 => absurd h8 (by omega)⟩)
                                
                          exact g_cv (by rw [e66]; rfl) rfl (LP4 (M ^ 6 + 1) 0 w2 (by omega) (by omega) ⟨hw2.1, hw2.2.1, hwor, fun q => absurd rfl q⟩)
                          
                        · have n194 := nle_n (by omega) (by omega) (show ¬ nI (6) ≤ nI (k6) from c194)
                          refine g_iload h dX11_fair_197 rfl ?_
                          refine g_iload h dX11_fair_199 rfl ?_
                          refine g_imul h dX11_fair_201 ?_
                          have hpw := pw_729 (M := M) (k := k6) (by omega) (by omega)
                          have hpw2 := pw_729 (M := M) (k := k6 + 1) (by omega) (by omega)
                          rw [Nat.pow_succ] at hpw2
                          refine g_top (y := nI (M ^ (k6 + 1))) (by rw [nI_mul (by omega) (by omega) (by omega), Nat.pow_succ]) ?_
                          refine g_istore (ls' := [(0, _), (1, _), (2, _), (3, _), (4, _), (5, _), (6, _)]) h dX11_fair_202 (by decide) rfl rfl ?_
                          refine g_iinc (v := nI (k6 + 1)) (ls' := [(0, _), (1, _), (2, _), (3, _), (4, _), (5, _), (6, _)]) h dX11_fair_204 rfl (nI_1 k6) (by decide) rfl rfl ?_
                          refine g_goto (tgt := 190) h dX11_fair_207 (by decide) ?_
                          exact ih6 (k6 + 1) (by omega) (by omega)
                    exact LP6 (6 + 1) (0) (by omega) (by omega)
                    
                  · have n125 := nle_n (by omega) (by omega) (show ¬ nI (M) ≤ nI (a) from c125)
                    have haM : a < M := n125
                    refine g_iconst (v := nI 0) h dX11_fair_128 (by decide) ?_
                    refine g_istore (ls' := [(0, _), (1, _), (2, _), (3, _), (4, _), (5, _), (6, _)]) h dX11_fair_129 (by decide) rfl rfl ?_
                    have LP3 : ∀ (j3 g : Nat) (w3 : Sto), 6 < g + j3 → g ≤ 6 → (sim w3 (su u 178 0 (nI 0)) ∧ (∀ i, i < M → w3 196 i = nI ((adL v s T).getD i 0)) ∧ ∀ j, j < 6 * a + g → w3 193 j = vaF v D (adL v s T) j) → G E X (QMP E X (PMr (cdL [iae]) (faiR v T (nI D) s (-1)).1 u) 0) 10 0 131 [(0, .ref (E.ad 178)), (1, .int (nI D)), (2, .int s), (3, .int (-1)), (4, .int (nI M)), (5, .int (nI a)), (6, .int (nI g))] [] w3 := by
                      intro j3
                      induction j3 with
                      | zero => intro g w3 h1 h2 hw3; omega
                      | succ j3 ih3 =>
                        intro g w3 h1 h2 hw3
                        refine g_iload h dX11_fair_131 rfl ?_
                        refine g_bipush (v := nI 6) h dX11_fair_133 (by decide) ?_
                        refine g_icmp_ge (tgt := 178) h dX11_fair_135 (by decide) (fun c135 => ?_) (fun c135 => ?_)
                        · have n135 := le_n (by omega) (by omega) (show nI (6) ≤ nI (g) from c135)
                          refine g_iinc (v := nI (a + 1)) (ls' := [(0, _), (1, _), (2, _), (3, _), (4, _), (5, _), (6, _)]) h dX11_fair_178 rfl (nI_1 a) (by decide) rfl rfl ?_
                          refine g_goto (tgt := 121) h dX11_fair_181 (by decide) ?_
                          refine g_del 6 (ls' := [(0, _), (1, _), (2, _), (3, _), (4, _), (5, _)]) rfl ?_
                          exact ih2 (a + 1) w3 (by omega) (by omega) ⟨hw3.1, hw3.2.1, fun j hj => hw3.2.2 j (by omega)⟩
                        · have n135 := nle_n (by omega) (by omega) (show ¬ nI (6) ≤ nI (g) from c135)
                          refine g_aload_n h dX11_fair_138 rfl rfl ?_
                          refine g_getR h fl_X11_57_10 sh_178 (by decide) rfl dX11_fair_139 ?_
                          refine g_bipush (v := nI 6) h dX11_fair_142 (by decide) ?_
                          refine g_iload h dX11_fair_144 rfl ?_
                          refine g_imul h dX11_fair_146 ?_
                          refine g_iload h dX11_fair_147 rfl ?_
                          refine g_iadd h dX11_fair_149 ?_
                          refine g_top (y := nI (6 * a + g)) (by rw [nI_mul, nI_add]) ?_
                          refine g_aload_n h dX11_fair_150 rfl rfl ?_
                          refine g_aload_n h dX11_fair_151 rfl rfl ?_
                          refine g_getR h fl_X11_66_10 sh_178 (by decide) rfl dX11_fair_152 ?_
                          refine g_iload h dX11_fair_155 rfl ?_
                          refine g_iald h _ _ _ sh_196 (by decide) (by decide) rfl (by omega) dX11_fair_157 ?_
                          refine g_top (hw3.2.1 a haM) ?_
                          refine g_bipush (v := nI 24) h dX11_fair_158 (by decide) ?_
                          refine g_iload_n h dX11_fair_160 rfl rfl ?_
                          refine g_imul h dX11_fair_161 ?_
                          refine g_bipush (v := nI 12) h dX11_fair_162 (by decide) ?_
                          refine g_iadd h dX11_fair_164 ?_
                          refine g_iload h dX11_fair_165 rfl ?_
                          refine g_iadd h dX11_fair_167 ?_
                          refine g_top (y := nI (24 * D + 12 + g)) (by rw [nI_mul, nI_add, nI_add]) ?_
                          refine g_VP h lv_X11_358_X11 sh_178 (by decide) rfl (c_X11_valueOfA v T W ((adL v s T).getD a 0) (24 * D + 12 + g) (hgd a haM) (by omega) w3 (hK.th.sim hw3.1)) pa_nx (fitR hR (by first | decide | omega) (by decide) (by omega)) rfl rfl (Nat.le_of_ble_eq_true rfl) dX11_fair_168 (fun v168 u168 hs168 => ?_)
                          obtain ⟨hv168, hs168⟩ := hs168
                          cases hv168
                          refine g_iast h _ _ _ sh_193 (by decide) (by decide) rfl (by omega) dX11_fair_171 ?_
                          refine g_iinc (v := nI (g + 1)) (ls' := [(0, _), (1, _), (2, _), (3, _), (4, _), (5, _), (6, _)]) h dX11_fair_172 rfl (nI_1 g) (by decide) rfl rfl ?_
                          refine g_goto (tgt := 131) h dX11_fair_175 (by decide) ?_
                          exact ih3 (g + 1) _ (by omega) (by omega) ⟨sim_scr (hs168.2.trans hw3.1) _ (scr_m (by decide)), fun i hi => by rw [su_cell _ _ (by decide), hs168.1 196 (by decide) (by decide)]; exact hw3.2.1 i hi, fun j hj => by
                            by_cases q : j = 6 * a + g
                            · rw [q, su_k, vaF, show (6 * a + g) / 6 = a by omega, show (6 * a + g) % 6 = g by omega, Nat.mul_comm D 24]
                            · rw [su_i q, hs168.1 193 (by decide) (by decide)]; exact hw3.2.2 j (by omega)⟩
                    exact LP3 (6 + 1) 0 w2 (by omega) (by omega) ⟨hw2.1, hw2.2.1, fun j hj => hw2.2.2 j (by omega)⟩
                    
              exact LP2 (M + 1) 0 w (by omega) (by omega) ⟨hw.1, hits, fun j hj => absurd hj (by omega)⟩
              
            · have n112 := nle_n (by omega) (by omega) (show ¬ nI (2) ≤ nI ((adL v s k).length) from c112)
              have hns : ¬ seP (guI v s T) := fun q => by
                have h2 := (ad_se hK.hT).1.mp q
                rw [show k = T by omega] at n112
                omega
              refine g_bipush (v := -2) h dX11_fair_115 (by decide) ?_
              exact g_iretP h hrt dX11_fair_117 (by omega) (pm_v (by rw [faiR, if_pos n5, if_pos (Or.inl rfl), if_neg hns]) rfl hw.1)
          · have n58 := nle_n (by omega) (by omega) (show ¬ nI (T) ≤ nI (k) from c58)
            refine g_iload_n h dX11_fair_61 rfl rfl ?_
            refine g_iload h dX11_fair_62 rfl ?_
            refine g_S h ls_X11_340 (c_X11_isOf s (nI k) w) (fitR hR (by first | decide | omega) (by decide) (by omega)) rfl rfl (Nat.le_of_ble_eq_true rfl) dX11_fair_64 ?_
            refine g_if_eq (tgt := 103) h dX11_fair_67 (by decide) (fun c67 => ?_) (fun c67 => ?_)
            · refine g_iinc (v := nI (k + 1)) (ls' := [(0, _), (1, _), (2, _), (3, _), (4, _), (5, _)]) h dX11_fair_103 rfl (nI_1 k) (by decide) rfl rfl ?_
              refine g_goto (tgt := 50) h dX11_fair_106 (by decide) ?_
              exact g_cv (by rw [ad_0 (fun q => b2_0.mp c67 q.1)]) rfl (ih (k + 1) w (by omega) (by omega) (by rw [ad_0 (fun q => b2_0.mp c67 q.1)]; exact hw))
            · refine g_aload_n h dX11_fair_70 rfl rfl ?_
              refine g_iload h dX11_fair_71 rfl ?_
              refine g_V h lv_X11_80_X11 sh_178 (by decide) rfl (c_X11_isChild k v T W (by omega) w (hK.th.sim hw.1).r) (fitR hR (by first | decide | omega) (by decide) (by omega)) rfl rfl (Nat.le_of_ble_eq_true rfl) dX11_fair_73 ?_
              refine g_if_eq (tgt := 82) h dX11_fair_76 (by decide) (fun c76 => ?_) (fun c76 => ?_)
              · refine g_iload h dX11_fair_82 rfl ?_
                refine g_iconst (v := nI 3) h dX11_fair_84 (by decide) ?_
                refine g_icmp_ne (tgt := 91) h dX11_fair_85 (by decide) (fun c85 => ?_) (fun c85 => ?_)
                · have n85 := ne_n (show ¬ nI ((adL v s k).length) = nI (3) from c85)
                  refine g_aload_n h dX11_fair_91 rfl rfl ?_
                  refine g_getR h fl_X11_66_10 sh_178 (by decide) rfl dX11_fair_92 ?_
                  refine g_iload h dX11_fair_95 rfl ?_
                  refine g_iload h dX11_fair_97 rfl ?_
                  refine g_iast h _ _ _ sh_196 (by decide) (by decide) rfl (by omega) dX11_fair_99 ?_
                  refine g_iinc (v := nI ((adL v s k).length + 1)) (ls' := [(0, _), (1, _), (2, _), (3, _), (4, _), (5, _)]) h dX11_fair_100 rfl (nI_1 _) (by decide) rfl rfl ?_
                  refine g_iinc (v := nI (k + 1)) (ls' := [(0, _), (1, _), (2, _), (3, _), (4, _), (5, _)]) h dX11_fair_103 rfl (nI_1 k) (by decide) rfl rfl ?_
                  refine g_goto (tgt := 50) h dX11_fair_106 (by decide) ?_
                  exact g_cv (by rw [ad_1 (v := v) (x := s) (k := k) ⟨b2_n0.mp c67, Decidable.not_not.mp (b2_0.mp c76)⟩, List.length_append]; rfl) rfl (ih (k + 1) (su w 196 (adL v s k).length (nI k)) (by omega) (by omega) (by
                    rw [ad_1 (v := v) (x := s) (k := k) ⟨b2_n0.mp c67, Decidable.not_not.mp (b2_0.mp c76)⟩]
                    refine ⟨sim_scr hw.1 _ (scr_m (by decide)), by rw [List.length_append]; simp; omega, fun i hi => ?_⟩
                    rw [List.length_append] at hi
                    simp at hi
                    by_cases q : i = (adL v s k).length
                    · rw [q, su_k, gd_ae]
                    · rw [su_i q, gd_ap (by omega)]; exact hw.2.2 i (by omega)))
                · have n85 := eq_n (by omega) (by omega) (show nI ((adL v s k).length) = nI (3) from c85)
                  have hns : ¬ seP (guI v s T) := fun q => by
                    have h1 := ad_mono (v := v) (x := s) (k := k + 1) (T - (k + 1))
                    rw [show k + 1 + (T - (k + 1)) = T by omega, ad_1 ⟨b2_n0.mp c67, Decidable.not_not.mp (b2_0.mp c76)⟩, List.length_append] at h1
                    have h2 := (ad_se hK.hT).1.mp q
                    simp at h1
                    omega
                  refine g_bipush (v := -2) h dX11_fair_88 (by decide) ?_
                  exact g_iretP h hrt dX11_fair_90 (by omega) (pm_v (by rw [faiR, if_pos n5, if_pos (Or.inl rfl), if_neg hns]) rfl hw.1)
              · refine g_goto (tgt := 103) h dX11_fair_79 (by decide) ?_
                refine g_iinc (v := nI (k + 1)) (ls' := [(0, _), (1, _), (2, _), (3, _), (4, _), (5, _)]) h dX11_fair_103 rfl (nI_1 k) (by decide) rfl rfl ?_
                refine g_goto (tgt := 50) h dX11_fair_106 (by decide) ?_
                exact g_cv (by rw [ad_0 (fun q => b2_n0.mp c76 q.2)]) rfl (ih (k + 1) w (by omega) (by omega) (by rw [ad_0 (fun q => b2_n0.mp c76 q.2)]; exact hw))
      exact LP (T + 1) 0 _ (by omega) (by omega) ⟨sim.refl _, Nat.zero_le _, fun i hi => absurd hi (Nat.not_lt_zero _)⟩
      
    · refine g_iload_n h dX11_fair_16 rfl rfl ?_
      refine g_bipush (v := nI 12) h dX11_fair_17 (by decide) ?_
      refine g_bipush (v := nI 17) h dX11_fair_19 (by decide) ?_
      refine g_S h ls_X11_72 (c_X11_isIn h9 (nI 12) (nI 17) u) (fitR hR (by first | decide | omega) (by decide) (by omega)) rfl rfl (Nat.le_of_ble_eq_true rfl) dX11_fair_21 ?_
      by_cases n21 : okN h9 (nI 12) (nI 17)
      · refine g_top (b2_t n21) ?_
        refine g_if_ne (tgt := 31) h dX11_fair_24 (by decide) (fun _ => ?_) (fun q => absurd q (by decide))
        refine g_iconst (v := nI 0) h dX11_fair_31 (by decide) ?_
        refine g_putI h pfl_X11_69_10 sh_178 (by decide) rfl dX11_fair_32 ?_
        refine g_aload_n h dX11_fair_35 rfl rfl ?_
        refine g_getI h fl_X11_69_10 sh_178 (by decide) rfl dX11_fair_36 ?_
        refine g_top su_k ?_
        refine g_if_le (tgt := 44) h dX11_fair_39 (by decide) (fun _ => ?_) (fun q => absurd q (by decide))
        refine g_iconst (v := nI 0) h dX11_fair_44 (by decide) ?_
        refine g_istore (ls' := [(0, _), (1, _), (2, _), (3, _), (4, _)]) h dX11_fair_45 (by decide) rfl rfl ?_
        refine g_iconst (v := nI 0) h dX11_fair_47 (by decide) ?_
        refine g_istore (ls' := [(0, _), (1, _), (2, _), (3, _), (4, _), (5, _)]) h dX11_fair_48 (by decide) rfl rfl ?_
        have LP : ∀ (j k : Nat) (w : Sto), T < k + j → k ≤ T → (sim w (su u 178 0 (nI 0)) ∧ (adL v s k).length ≤ 3 ∧ ∀ i, i < (adL v s k).length → w 196 i = nI ((adL v s k).getD i 0)) → G E X (QMP E X (PMr (cdL [iae]) (faiR v T (nI D) s h9).1 u) 0) 10 0 50 [(0, .ref (E.ad 178)), (1, .int (nI D)), (2, .int s), (3, .int h9), (4, .int (nI (adL v s k).length)), (5, .int (nI k))] [] w := by
          intro j
          induction j with
          | zero => intro k w h1 h2 hw; omega
          | succ j ih =>
            intro k w h1 h2 hw
            refine g_iload h dX11_fair_50 rfl ?_
            refine g_aload_n h dX11_fair_52 rfl rfl ?_
            refine g_getR h fl_X11_7_10 sh_178 (by decide) rfl dX11_fair_53 ?_
            refine g_iconst (v := nI 1) h dX11_fair_56 (by decide) ?_
            refine g_iald h _ _ _ sh_179 (by decide) (by decide) rfl (by omega) dX11_fair_57 ?_
            refine g_top (y := nI T) (hK.th.sim hw.1).r.ten ?_
            refine g_icmp_ge (tgt := 109) h dX11_fair_58 (by decide) (fun c58 => ?_) (fun c58 => ?_)
            · have n58 := le_n (by omega) (by omega) (show nI (T) ≤ nI (k) from c58)
              refine g_iload h dX11_fair_109 rfl ?_
              refine g_iconst (v := nI 2) h dX11_fair_111 (by decide) ?_
              refine g_icmp_ge (tgt := 118) h dX11_fair_112 (by decide) (fun c112 => ?_) (fun c112 => ?_)
              · have n112 := le_n (by omega) (by omega) (show nI (2) ≤ nI ((adL v s k).length) from c112)
                have ek : k = T := by omega
                rw [ek] at hw n112
                obtain ⟨M, hM⟩ : ∃ M, (adL v s T).length = M := ⟨_, rfl⟩
                have hw1 := hw.2.1
                rw [hM] at n112 hw1
                have hM23 : M = 2 ∨ M = 3 := by omega
                have hM0 : ¬ nI M = 0 := fun q => absurd (eq_n (by omega) (by omega) (show nI M = nI 0 from q)) (by omega)
                have hse : seP (guI v s T) := (ad_se hK.hT).1.mpr (by rw [hM]; exact hM23)
                have hsL := (ad_se (v := v) (x := s) hK.hT).2 (by omega)
                have hits : ∀ i, i < M → w 196 i = nI ((adL v s T).getD i 0) := fun i hi => hw.2.2 i (by omega)
                have hgd : ∀ i, i < M → (adL v s T).getD i 0 < T := fun i hi => gd_lt (by omega)
                have hT9 := hK.hT
                refine g_cv (ls2 := [(0, .ref (E.ad 178)), (1, .int (nI D)), (2, .int s), (3, .int h9), (4, .int (nI M)), (5, .int (nI k))]) (by rw [ek, hM]) rfl ?_
                refine g_iconst (v := nI 0) h dX11_fair_118 (by decide) ?_
                refine g_istore (ls' := [(0, _), (1, _), (2, _), (3, _), (4, _), (5, _)]) h dX11_fair_119 (by decide) rfl rfl ?_
                have LP2 : ∀ (j2 a : Nat) (w2 : Sto), M < a + j2 → a ≤ M → (sim w2 (su u 178 0 (nI 0)) ∧ (∀ i, i < M → w2 196 i = nI ((adL v s T).getD i 0)) ∧ ∀ j, j < 6 * a → w2 193 j = vaF v D (adL v s T) j) → G E X (QMP E X (PMr (cdL [iae]) (faiR v T (nI D) s h9).1 u) 0) 10 0 121 [(0, .ref (E.ad 178)), (1, .int (nI D)), (2, .int s), (3, .int h9), (4, .int (nI M)), (5, .int (nI a))] [] w2 := by
                  intro j2
                  induction j2 with
                  | zero => intro a w2 h1 h2 hw2; omega
                  | succ j2 ih2 =>
                    intro a w2 h1 h2 hw2
                    refine g_iload h dX11_fair_121 rfl ?_
                    refine g_iload h dX11_fair_123 rfl ?_
                    refine g_icmp_ge (tgt := 184) h dX11_fair_125 (by decide) (fun c125 => ?_) (fun c125 => ?_)
                    · have n125 := le_n (by omega) (by omega) (show nI (M) ≤ nI (a) from c125)
                      have hwor : ∀ j, j < 6 * M → w2 193 j = vaF v D (adL v s T) j := fun j hj => hw2.2.2 j (by omega)
                      refine g_iconst (v := nI 1) h dX11_fair_184 (by decide) ?_
                      refine g_istore (ls' := [(0, _), (1, _), (2, _), (3, _), (4, _), (5, _)]) h dX11_fair_185 (by decide) rfl rfl ?_
                      refine g_iconst (v := nI 0) h dX11_fair_187 (by decide) ?_
                      refine g_istore (ls' := [(0, _), (1, _), (2, _), (3, _), (4, _), (5, _), (6, _)]) h dX11_fair_188 (by decide) rfl rfl ?_
                      have LP6 : ∀ j6 k6 : Nat, 6 < k6 + j6 → k6 ≤ 6 → G E X (QMP E X (PMr (cdL [iae]) (faiR v T (nI D) s h9).1 u) 0) 10 0 190 [(0, .ref (E.ad 178)), (1, .int (nI D)), (2, .int s), (3, .int h9), (4, .int (nI M)), (5, .int (nI (M ^ k6))), (6, .int (nI k6))] [] (w2) := by
                        intro j6
                        induction j6 with
                        | zero => intro k6 h1 h2; omega
                        | succ j6 ih6 =>
                          intro k6 h1 h2
                          refine g_iload h dX11_fair_190 rfl ?_
                          refine g_bipush (v := nI 6) h dX11_fair_192 (by decide) ?_
                          refine g_icmp_ge (tgt := 210) h dX11_fair_194 (by decide) (fun c194 => ?_) (fun c194 => ?_)
                          · have n194 := le_n (by omega) (by omega) (show nI (6) ≤ nI (k6) from c194)
                            have e66 : k6 = 6 := by omega
                            have h729 := pw_729 (M := M) (k := 6) (by omega) (by omega)
                            refine g_iconst (v := nI 0) h dX11_fair_210 (by decide) ?_
                            refine g_istore (ls' := [(0, _), (1, _), (2, _), (3, _), (4, _), (5, _), (6, _)]) h dX11_fair_211 (by decide) rfl rfl ?_
                            refine g_iconst (v := nI 0) h dX11_fair_213 (by decide) ?_
                            refine g_istore (ls' := [(0, _), (1, _), (2, _), (3, _), (4, _), (5, _), (6, _), (7, _)]) h dX11_fair_214 (by decide) rfl rfl ?_
                            have LP4 : ∀ (j4 c : Nat) (w4 : Sto), M ^ 6 < c + j4 → c ≤ M ^ 6 → (sim w4 (su u 178 0 (nI 0)) ∧ (∀ i, i < M → w4 196 i = nI ((adL v s T).getD i 0)) ∧ (∀ j, j < 6 * M → w4 193 j = vaF v D (adL v s T) j) ∧ (¬ cN (faB v D (adL v s T)) c = 0 → ∀ i, i < 6 → w4 195 i = nI ((adL v s T).getD ((fsN (faB v D (adL v s T)) c / M ^ (5 - i)) % M) 0))) → G E X (QMP E X (PMr (cdL [iae]) (faiR v T (nI D) s h9).1 u) 0) 10 0 216 [(0, .ref (E.ad 178)), (1, .int (nI D)), (2, .int s), (3, .int h9), (4, .int (nI M)), (5, .int (nI (M ^ 6))), (6, .int (nI (cN (faB v D (adL v s T)) c))), (7, .int (nI c))] [] w4 := by
                              intro j4
                              induction j4 with
                              | zero => intro c w4 h1 h2 hw4; omega
                              | succ j4 ih4 =>
                                intro c w4 h1 h2 hw4
                                refine g_iload h dX11_fair_216 rfl ?_
                                refine g_iload h dX11_fair_218 rfl ?_
                                refine g_icmp_ge (tgt := 321) h dX11_fair_220 (by decide) (fun c220 => ?_) (fun c220 => ?_)
                                · have n220 := le_n (by omega) (by omega) (show nI (M ^ 6) ≤ nI (c) from c220)
                                  have ec : c = M ^ 6 := by omega
                                  have hcl := cN_lq (p := (faB v D (adL v s T))) c
                                  refine g_iload_n h dX11_fair_321 rfl rfl ?_
                                  refine g_iconst (v := -1) h dX11_fair_322 (by decide) ?_
                                  refine g_icmp_ne (tgt := 331) h dX11_fair_323 (by decide) (fun c323 => ?_) (fun c323 => ?_)
                                  · obtain ⟨H, hH0, hH1, iH, rfl⟩ := okN_k (by decide) n21
                                    refine g_iload h dX11_fair_331 rfl ?_
                                    refine g_if_ne (tgt := 340) h dX11_fair_333 (by decide) (fun c333 => ?_) (fun c333 => ?_)
                                    · refine g_aload_n h dX11_fair_340 rfl rfl ?_
                                      refine g_getR h fl_X11_63_10 sh_178 (by decide) rfl dX11_fair_341 ?_
                                      refine g_iload_n h dX11_fair_344 rfl rfl ?_
                                      refine g_bipush (v := nI 12) h dX11_fair_345 (by decide) ?_
                                      refine g_isub h dX11_fair_347 ?_
                                      refine g_top (y := nI (H - 12)) (pk_sub (by omega)) ?_
                                      refine g_iald h _ _ _ sh_195 (by decide) (by decide) rfl (by omega) dX11_fair_348 ?_
                                      exact g_iretP h hrt dX11_fair_349 (by omega) (pm_v (by rw [faiR, if_pos n5, if_pos (Or.inr n21), if_pos hse, iD, hsL]) (by rw [faV, if_neg c13, if_neg (by rw [show cN (faB v D (adL v s T)) ((adL v s T).length ^ 6) = cN (faB v D (adL v s T)) c by rw [hM, ec]]; exact fun q => c333 (by rw [q]; rfl)), iH, hM, ← ec]; exact (hw4.2.2.2 (fun q => c333 (by rw [q]; rfl)) (H - 12) (by omega)).symm) hw4.1)
                                    · refine g_iconst (v := -1) h dX11_fair_336 (by decide) ?_
                                      refine g_goto (tgt := 349) h dX11_fair_337 (by decide) ?_
                                      exact g_iretP h hrt dX11_fair_349 (by omega) (pm_v (by rw [faiR, if_pos n5, if_pos (Or.inr n21), if_pos hse, iD, hsL]) (by rw [faV, if_neg c13, if_pos (by rw [show cN (faB v D (adL v s T)) ((adL v s T).length ^ 6) = cN (faB v D (adL v s T)) c by rw [hM, ec]]; exact eq_n (by omega) (by omega) (show nI _ = nI 0 from c333))]) hw4.1)
                                  · exact absurd c323 c13
                                · have n220 := nle_n (by omega) (by omega) (show ¬ nI (M ^ 6) ≤ nI (c) from c220)
                                  refine g_iload h dX11_fair_223 rfl ?_
                                  refine g_istore (ls' := [(0, _), (1, _), (2, _), (3, _), (4, _), (5, _), (6, _), (7, _), (8, _)]) h dX11_fair_225 (by decide) rfl rfl ?_
                                  refine g_iconst (v := nI 5) h dX11_fair_227 (by decide) ?_
                                  refine g_istore (ls' := [(0, _), (1, _), (2, _), (3, _), (4, _), (5, _), (6, _), (7, _), (8, _), (9, _)]) h dX11_fair_228 (by decide) rfl rfl ?_
                                  have LP5 : ∀ (j5 i : Nat) (w5 : Sto), 6 < i + j5 → i ≤ 6 → (sim w5 (su u 178 0 (nI 0)) ∧ (∀ k8, k8 = 193 ∨ k8 = 195 ∨ k8 = 196 → w5 k8 = w4 k8) ∧ ∀ j, 6 ≤ j + i → j < 6 → w5 194 j = dgF M c j) → G E X (QMP E X (PMr (cdL [iae]) (faiR v T (nI D) s h9).1 u) 0) 10 0 230 [(0, .ref (E.ad 178)), (1, .int (nI D)), (2, .int s), (3, .int h9), (4, .int (nI M)), (5, .int (nI (M ^ 6))), (6, .int (nI (cN (faB v D (adL v s T)) c))), (7, .int (nI c)), (8, .int (nI (c / M ^ i))), (9, .int (dnI (6 - i)))] [] w5 := by
                                    intro j5
                                    induction j5 with
                                    | zero => intro i w5 h1 h2 hw5; omega
                                    | succ j5 ih5 =>
                                      intro i w5 h1 h2 hw5
                                      refine g_iload h dX11_fair_230 rfl ?_
                                      refine g_if_lt (tgt := 260) h dX11_fair_232 (by decide) (fun c232 => ?_) (fun c232 => ?_)
                                      · have ei : i = 6 := by
                                          by_cases q : i < 6
                                          · rw [show 6 - i = (5 - i) + 1 by omega] at c232; exact absurd c232 (dn_n _ (by omega))
                                          · omega
                                        have hdl : ∀ j, j < 6 → w5 194 j = dgF M c j := fun j hj => hw5.2.2 j (by omega) (by omega)
                                        refine g_aload_n h dX11_fair_260 rfl rfl ?_
                                        refine g_iload h dX11_fair_261 rfl ?_
                                        refine g_V h lv_X11_364_X11 sh_178 (by decide) rfl (c_X11_isFair M hw1 (vaF v D (adL v s T)) (dgF M c) _ (fun j hj => (congrFun (hw5.2.1 193 (by decide)) _).trans (hw4.2.2.1 j hj)) hdl (fun s9 hs9 j9 hj9 => hK.vl _ _)) (fitR hR (by first | decide | omega) (by decide) (by omega)) rfl rfl (Nat.le_of_ble_eq_true rfl) dX11_fair_263 ?_
                                        by_cases hfr : faB v D (adL v s T) c = true
                                        · refine g_cv (ls2 := [(0, .ref (E.ad 178)), (1, .int (nI D)), (2, .int s), (3, .int h9), (4, .int (nI M)), (5, .int (nI (M ^ 6))), (6, .int (nI (cN (faB v D (adL v s T)) c))), (7, .int (nI c)), (8, .int (nI (c / M ^ 6))), (9, .int (dnI (6 - i)))]) (by rw [ei]) rfl ?_
                                          refine g_top (b2_t (by have z9 := hfr; rw [faB, hM] at z9; exact z9)) ?_
                                          refine g_if_ne (tgt := 272) h dX11_fair_266 (by decide) (fun _ => ?_) (fun q => absurd q (by decide))
                                          refine g_iconst (v := nI 0) h dX11_fair_272 (by decide) ?_
                                          refine g_istore (ls' := [(0, _), (1, _), (2, _), (3, _), (4, _), (5, _), (6, _), (7, _), (8, _), (9, _)]) h dX11_fair_273 (by decide) rfl rfl ?_
                                          by_cases hz : cN (faB v D (adL v s T)) c = 0
                                          · have LP7 : ∀ (j7 h7 : Nat) (w7 : Sto), 6 < h7 + j7 → h7 ≤ 6 → (sim w7 (su u 178 0 (nI 0)) ∧ (∀ k8, k8 = 193 ∨ k8 = 194 ∨ k8 = 196 → w7 k8 = w5 k8) ∧ ∀ i, i < h7 → w7 195 i = nI ((adL v s T).getD ((c / M ^ (5 - i)) % M) 0)) → G E X (QMP E X (PMr (cdL [iae]) (faiR v T (nI D) s h9).1 u) 0) 10 0 275 [(0, .ref (E.ad 178)), (1, .int (nI D)), (2, .int s), (3, .int h9), (4, .int (nI M)), (5, .int (nI (M ^ 6))), (6, .int (nI (cN (faB v D (adL v s T)) c))), (7, .int (nI c)), (8, .int (nI (c / M ^ 6))), (9, .int (nI h7))] [] w7 := by
                                              intro j7
                                              induction j7 with
                                              | zero => intro h7 w7 h1 h2 hw7; omega
                                              | succ j7 ih7 =>
                                                intro h7 w7 h1 h2 hw7
                                                refine g_iload h dX11_fair_275 rfl ?_
                                                refine g_bipush (v := nI 6) h dX11_fair_277 (by decide) ?_
                                                refine g_icmp_ge (tgt := 312) h dX11_fair_279 (by decide) (fun c279 => ?_) (fun c279 => ?_)
                                                · have n279 := le_n (by omega) (by omega) (show nI (6) ≤ nI (h7) from c279)
                                                  refine g_iinc (v := nI (cN (faB v D (adL v s T)) c + 1)) (ls' := [(0, _), (1, _), (2, _), (3, _), (4, _), (5, _), (6, _), (7, _), (8, _), (9, _)]) h dX11_fair_312 rfl (nI_1 _) (by decide) rfl rfl ?_
                                                  refine g_iinc (v := nI (c + 1)) (ls' := [(0, _), (1, _), (2, _), (3, _), (4, _), (5, _), (6, _), (7, _), (8, _), (9, _)]) h dX11_fair_315 rfl (nI_1 c) (by decide) rfl rfl ?_
                                                  refine g_goto (tgt := 216) h dX11_fair_318 (by decide) ?_
                                                  refine g_del 8 (ls' := [(0, _), (1, _), (2, _), (3, _), (4, _), (5, _), (6, _), (7, _), (9, _)]) rfl ?_
                                                  refine g_del 9 (ls' := [(0, _), (1, _), (2, _), (3, _), (4, _), (5, _), (6, _), (7, _)]) rfl ?_
                                                  exact g_cv (by rw [cN_1 hfr]) rfl (ih4 (c + 1) _ (by omega) (by omega) ⟨hw7.1, fun i9 hi9 => (congrFun (hw7.2.1 196 (by decide)) _).trans ((congrFun (hw5.2.1 196 (by decide)) _).trans (hw4.2.1 i9 hi9)), fun j9 hj9 => (congrFun (hw7.2.1 193 (by decide)) _).trans ((congrFun (hw5.2.1 193 (by decide)) _).trans (hw4.2.2.1 j9 hj9)), fun _ i9 hi9 => by rw [fs_k hz hfr]; exact hw7.2.2 i9 (by omega)⟩)
                                                · have n279 := nle_n (by omega) (by omega) (show ¬ nI (6) ≤ nI (h7) from c279)
                                                  refine g_iload h dX11_fair_282 rfl ?_
                                                  refine g_if_ne (tgt := 312) h dX11_fair_284 (by decide) (fun c284 => ?_) (fun c284 => ?_)
                                                  · exact absurd (show nI (cN (faB v D (adL v s T)) c) = 0 by rw [hz]; rfl) c284
                                                  · refine g_aload_n h dX11_fair_287 rfl rfl ?_
                                                    refine g_getR h fl_X11_63_10 sh_178 (by decide) rfl dX11_fair_288 ?_
                                                    refine g_iload h dX11_fair_291 rfl ?_
                                                    refine g_aload_n h dX11_fair_293 rfl rfl ?_
                                                    refine g_getR h fl_X11_66_10 sh_178 (by decide) rfl dX11_fair_294 ?_
                                                    refine g_aload_n h dX11_fair_297 rfl rfl ?_
                                                    refine g_getR h fl_X11_60_10 sh_178 (by decide) rfl dX11_fair_298 ?_
                                                    refine g_iload h dX11_fair_301 rfl ?_
                                                    refine g_iald h _ _ _ sh_194 (by decide) (by decide) rfl (by omega) dX11_fair_303 ?_
                                                    refine g_top (y := nI ((c / M ^ (5 - h7)) % M)) ((congrFun (hw7.2.1 194 (by decide)) _).trans ((hdl h7 (by omega)).trans rfl)) ?_
                                                    refine g_iald h _ _ _ sh_196 (by decide) (by decide) rfl (by have hdg : (c / M ^ (5 - h7)) % M < M := Nat.mod_lt _ (by omega); omega) dX11_fair_304 ?_
                                                    have hdg : (c / M ^ (5 - h7)) % M < M := Nat.mod_lt _ (by omega)
                                                    refine g_top (y := nI ((adL v s T).getD ((c / M ^ (5 - h7)) % M) 0)) ((congrFun (hw7.2.1 196 (by decide)) _).trans ((congrFun (hw5.2.1 196 (by decide)) _).trans (hw4.2.1 _ hdg))) ?_
                                                    refine g_iast h _ _ _ sh_195 (by decide) (by decide) rfl (by omega) dX11_fair_305 ?_
                                                    refine g_iinc (v := nI (h7 + 1)) (ls' := [(0, _), (1, _), (2, _), (3, _), (4, _), (5, _), (6, _), (7, _), (8, _), (9, _)]) h dX11_fair_306 rfl (nI_1 h7) (by decide) rfl rfl ?_
                                                    refine g_goto (tgt := 275) h dX11_fair_309 (by decide) ?_
                                                    exact ih7 (h7 + 1) _ (by omega) (by omega) ⟨sim_scr hw7.1 _ (scr_m (by decide)), fun k8 hk8 => by rw [su_cell _ _ (by rcases hk8 with rfl | rfl | rfl <;> decide)]; exact hw7.2.1 k8 hk8, fun i9 hi9 => by
                                                      by_cases q : i9 = h7
                                                      · rw [q, su_k]
                                                      · rw [su_i q]; exact hw7.2.2 i9 (by omega)⟩
                                            exact LP7 7 0 w5 (by omega) (by omega) ⟨hw5.1, fun _ _ => rfl, fun i9 hi9 => absurd hi9 (Nat.not_lt_zero _)⟩
                                          · skip
                                            refine g_iload h dX11_fair_275 rfl ?_
                                            refine g_bipush (v := nI 6) h dX11_fair_277 (by decide) ?_
                                            refine g_icmp_ge (tgt := 312) h dX11_fair_279 (by decide) (fun c279 => ?_) (fun c279 => ?_)
                                            · exact absurd c279 (by decide)
                                            · refine g_iload h dX11_fair_282 rfl ?_
                                              refine g_if_ne (tgt := 312) h dX11_fair_284 (by decide) (fun c284 => ?_) (fun c284 => ?_)
                                              · refine g_iinc (v := nI (cN (faB v D (adL v s T)) c + 1)) (ls' := [(0, _), (1, _), (2, _), (3, _), (4, _), (5, _), (6, _), (7, _), (8, _), (9, _)]) h dX11_fair_312 rfl (nI_1 _) (by decide) rfl rfl ?_
                                                refine g_iinc (v := nI (c + 1)) (ls' := [(0, _), (1, _), (2, _), (3, _), (4, _), (5, _), (6, _), (7, _), (8, _), (9, _)]) h dX11_fair_315 rfl (nI_1 c) (by decide) rfl rfl ?_
                                                refine g_goto (tgt := 216) h dX11_fair_318 (by decide) ?_
                                                refine g_del 8 (ls' := [(0, _), (1, _), (2, _), (3, _), (4, _), (5, _), (6, _), (7, _), (9, _)]) rfl ?_
                                                refine g_del 9 (ls' := [(0, _), (1, _), (2, _), (3, _), (4, _), (5, _), (6, _), (7, _)]) rfl ?_
                                                exact g_cv (by rw [cN_1 hfr]) rfl (ih4 (c + 1) _ (by omega) (by omega) ⟨hw5.1, fun i9 hi9 => (congrFun (hw5.2.1 196 (by decide)) _).trans (hw4.2.1 i9 hi9), fun j9 hj9 => (congrFun (hw5.2.1 193 (by decide)) _).trans (hw4.2.2.1 j9 hj9), fun _ i9 hi9 => by rw [fs_n hz, hw5.2.1 195 (by decide)]; exact hw4.2.2.2 hz i9 hi9⟩)
                                              · exact absurd (eq_n (by have := cN_lq (p := (faB v D (adL v s T))) c; omega) (by omega) (show nI (cN (faB v D (adL v s T)) c) = nI 0 from c284)) hz
                                          skip
                                          
                                        · refine g_top (b2_f (fun z9 => hfr (by rw [faB, hM]; exact z9))) ?_
                                          refine g_if_ne (tgt := 272) h dX11_fair_266 (by decide) (fun q => absurd q (by decide)) (fun _ => ?_)
                                          refine g_goto (tgt := 315) h dX11_fair_269 (by decide) ?_
                                          refine g_iinc (v := nI (c + 1)) (ls' := [(0, _), (1, _), (2, _), (3, _), (4, _), (5, _), (6, _), (7, _), (8, _), (9, _)]) h dX11_fair_315 rfl (nI_1 c) (by decide) rfl rfl ?_
                                          refine g_goto (tgt := 216) h dX11_fair_318 (by decide) ?_
                                          refine g_del 8 (ls' := [(0, _), (1, _), (2, _), (3, _), (4, _), (5, _), (6, _), (7, _), (9, _)]) rfl ?_
                                          refine g_del 9 (ls' := [(0, _), (1, _), (2, _), (3, _), (4, _), (5, _), (6, _), (7, _)]) rfl ?_
                                          exact g_cv (by rw [cN_n hfr]) rfl (ih4 (c + 1) w5 (by omega) (by omega) ⟨hw5.1, fun i9 hi9 => (congrFun (hw5.2.1 196 (by decide)) _).trans (hw4.2.1 i9 hi9), fun j9 hj9 => (congrFun (hw5.2.1 193 (by decide)) _).trans (hw4.2.2.1 j9 hj9), fun hz9 i9 hi9 => by rw [cN_n hfr] at hz9; rw [fs_n hz9, hw5.2.1 195 (by decide)]; exact hw4.2.2.2 hz9 i9 hi9⟩)
                                      · have hi6 : i < 6 := by
                                          by_cases q : i < 6
                                          · exact q
                                          · rw [show 6 - i = 0 by omega] at c232; exact absurd dn_0 c232
                                        have edn : dnI (6 - i) = nI (5 - i) := by rw [show 6 - i = (5 - i) + 1 by omega]; exact dn_s _ (by omega)
                                        refine g_aload_n h dX11_fair_235 rfl rfl ?_
                                        refine g_getR h fl_X11_60_10 sh_178 (by decide) rfl dX11_fair_236 ?_
                                        refine g_iload h dX11_fair_239 rfl ?_
                                        refine g_top edn ?_
                                        refine g_iload h dX11_fair_241 rfl ?_
                                        refine g_iload h dX11_fair_243 rfl ?_
                                        refine g_irem h dX11_fair_245 hM0 ?_
                                        refine g_top (y := nI (c / M ^ i % M)) (pk_rem (by have := Nat.div_le_self c (M ^ i); omega) (by omega) (by omega)) ?_
                                        refine g_iast h _ _ _ sh_194 (by decide) (by decide) rfl (by omega) dX11_fair_246 ?_
                                        refine g_iload h dX11_fair_247 rfl ?_
                                        refine g_iload h dX11_fair_249 rfl ?_
                                        refine g_idiv h dX11_fair_251 hM0 ?_
                                        refine g_top (y := nI (c / M ^ (i + 1))) ((pk_div (by have := Nat.div_le_self c (M ^ i); omega) (by omega) (by omega)).trans (congrArg nI (by rw [Nat.div_div_eq_div_mul, Nat.pow_succ]))) ?_
                                        refine g_istore (ls' := [(0, _), (1, _), (2, _), (3, _), (4, _), (5, _), (6, _), (7, _), (8, _), (9, _)]) h dX11_fair_252 (by decide) rfl rfl ?_
                                        refine g_iinc (v := dnI (6 - (i + 1))) (ls' := [(0, _), (1, _), (2, _), (3, _), (4, _), (5, _), (6, _), (7, _), (8, _), (9, _)]) h dX11_fair_254 rfl ((by rw [show 6 - i = (5 - i) + 1 by omega, dn_m _ (by omega)]; exact congrArg dnI (by omega))) (by decide) rfl rfl ?_
                                        refine g_goto (tgt := 230) h dX11_fair_257 (by decide) ?_
                                        exact ih5 (i + 1) _ (by omega) (by omega) ⟨sim_scr hw5.1 _ (scr_m (by decide)), fun k8 hk8 => by rw [su_cell _ _ (by rcases hk8 with rfl | rfl | rfl <;> decide)]; exact hw5.2.1 k8 hk8, fun j h8 h9 => by
                                          by_cases q : j = 5 - i
                                          · rw [q, su_k, dgF, show 5 - (5 - i) = i by omega]
                                          · rw [su_i q]; exact hw5.2.2 j (by omega) h9⟩
                                  exact g_cv (by rw [Nat.pow_zero, Nat.div_one]; rfl) rfl (LP5 7 0 w4 (by omega) (by omega) ⟨hw4.1, fun _ _ => rfl, fun j h8 h9 => absurd h8 (by omega)⟩)
                                  
                            exact g_cv (by rw [e66]; rfl) rfl (LP4 (M ^ 6 + 1) 0 w2 (by omega) (by omega) ⟨hw2.1, hw2.2.1, hwor, fun q => absurd rfl q⟩)
                            
                          · have n194 := nle_n (by omega) (by omega) (show ¬ nI (6) ≤ nI (k6) from c194)
                            refine g_iload h dX11_fair_197 rfl ?_
                            refine g_iload h dX11_fair_199 rfl ?_
                            refine g_imul h dX11_fair_201 ?_
                            have hpw := pw_729 (M := M) (k := k6) (by omega) (by omega)
                            have hpw2 := pw_729 (M := M) (k := k6 + 1) (by omega) (by omega)
                            rw [Nat.pow_succ] at hpw2
                            refine g_top (y := nI (M ^ (k6 + 1))) (by rw [nI_mul (by omega) (by omega) (by omega), Nat.pow_succ]) ?_
                            refine g_istore (ls' := [(0, _), (1, _), (2, _), (3, _), (4, _), (5, _), (6, _)]) h dX11_fair_202 (by decide) rfl rfl ?_
                            refine g_iinc (v := nI (k6 + 1)) (ls' := [(0, _), (1, _), (2, _), (3, _), (4, _), (5, _), (6, _)]) h dX11_fair_204 rfl (nI_1 k6) (by decide) rfl rfl ?_
                            refine g_goto (tgt := 190) h dX11_fair_207 (by decide) ?_
                            exact ih6 (k6 + 1) (by omega) (by omega)
                      exact LP6 (6 + 1) (0) (by omega) (by omega)
                      
                    · have n125 := nle_n (by omega) (by omega) (show ¬ nI (M) ≤ nI (a) from c125)
                      have haM : a < M := n125
                      refine g_iconst (v := nI 0) h dX11_fair_128 (by decide) ?_
                      refine g_istore (ls' := [(0, _), (1, _), (2, _), (3, _), (4, _), (5, _), (6, _)]) h dX11_fair_129 (by decide) rfl rfl ?_
                      have LP3 : ∀ (j3 g : Nat) (w3 : Sto), 6 < g + j3 → g ≤ 6 → (sim w3 (su u 178 0 (nI 0)) ∧ (∀ i, i < M → w3 196 i = nI ((adL v s T).getD i 0)) ∧ ∀ j, j < 6 * a + g → w3 193 j = vaF v D (adL v s T) j) → G E X (QMP E X (PMr (cdL [iae]) (faiR v T (nI D) s h9).1 u) 0) 10 0 131 [(0, .ref (E.ad 178)), (1, .int (nI D)), (2, .int s), (3, .int h9), (4, .int (nI M)), (5, .int (nI a)), (6, .int (nI g))] [] w3 := by
                        intro j3
                        induction j3 with
                        | zero => intro g w3 h1 h2 hw3; omega
                        | succ j3 ih3 =>
                          intro g w3 h1 h2 hw3
                          refine g_iload h dX11_fair_131 rfl ?_
                          refine g_bipush (v := nI 6) h dX11_fair_133 (by decide) ?_
                          refine g_icmp_ge (tgt := 178) h dX11_fair_135 (by decide) (fun c135 => ?_) (fun c135 => ?_)
                          · have n135 := le_n (by omega) (by omega) (show nI (6) ≤ nI (g) from c135)
                            refine g_iinc (v := nI (a + 1)) (ls' := [(0, _), (1, _), (2, _), (3, _), (4, _), (5, _), (6, _)]) h dX11_fair_178 rfl (nI_1 a) (by decide) rfl rfl ?_
                            refine g_goto (tgt := 121) h dX11_fair_181 (by decide) ?_
                            refine g_del 6 (ls' := [(0, _), (1, _), (2, _), (3, _), (4, _), (5, _)]) rfl ?_
                            exact ih2 (a + 1) w3 (by omega) (by omega) ⟨hw3.1, hw3.2.1, fun j hj => hw3.2.2 j (by omega)⟩
                          · have n135 := nle_n (by omega) (by omega) (show ¬ nI (6) ≤ nI (g) from c135)
                            refine g_aload_n h dX11_fair_138 rfl rfl ?_
                            refine g_getR h fl_X11_57_10 sh_178 (by decide) rfl dX11_fair_139 ?_
                            refine g_bipush (v := nI 6) h dX11_fair_142 (by decide) ?_
                            refine g_iload h dX11_fair_144 rfl ?_
                            refine g_imul h dX11_fair_146 ?_
                            refine g_iload h dX11_fair_147 rfl ?_
                            refine g_iadd h dX11_fair_149 ?_
                            refine g_top (y := nI (6 * a + g)) (by rw [nI_mul, nI_add]) ?_
                            refine g_aload_n h dX11_fair_150 rfl rfl ?_
                            refine g_aload_n h dX11_fair_151 rfl rfl ?_
                            refine g_getR h fl_X11_66_10 sh_178 (by decide) rfl dX11_fair_152 ?_
                            refine g_iload h dX11_fair_155 rfl ?_
                            refine g_iald h _ _ _ sh_196 (by decide) (by decide) rfl (by omega) dX11_fair_157 ?_
                            refine g_top (hw3.2.1 a haM) ?_
                            refine g_bipush (v := nI 24) h dX11_fair_158 (by decide) ?_
                            refine g_iload_n h dX11_fair_160 rfl rfl ?_
                            refine g_imul h dX11_fair_161 ?_
                            refine g_bipush (v := nI 12) h dX11_fair_162 (by decide) ?_
                            refine g_iadd h dX11_fair_164 ?_
                            refine g_iload h dX11_fair_165 rfl ?_
                            refine g_iadd h dX11_fair_167 ?_
                            refine g_top (y := nI (24 * D + 12 + g)) (by rw [nI_mul, nI_add, nI_add]) ?_
                            refine g_VP h lv_X11_358_X11 sh_178 (by decide) rfl (c_X11_valueOfA v T W ((adL v s T).getD a 0) (24 * D + 12 + g) (hgd a haM) (by omega) w3 (hK.th.sim hw3.1)) pa_nx (fitR hR (by first | decide | omega) (by decide) (by omega)) rfl rfl (Nat.le_of_ble_eq_true rfl) dX11_fair_168 (fun v168 u168 hs168 => ?_)
                            obtain ⟨hv168, hs168⟩ := hs168
                            cases hv168
                            refine g_iast h _ _ _ sh_193 (by decide) (by decide) rfl (by omega) dX11_fair_171 ?_
                            refine g_iinc (v := nI (g + 1)) (ls' := [(0, _), (1, _), (2, _), (3, _), (4, _), (5, _), (6, _)]) h dX11_fair_172 rfl (nI_1 g) (by decide) rfl rfl ?_
                            refine g_goto (tgt := 131) h dX11_fair_175 (by decide) ?_
                            exact ih3 (g + 1) _ (by omega) (by omega) ⟨sim_scr (hs168.2.trans hw3.1) _ (scr_m (by decide)), fun i hi => by rw [su_cell _ _ (by decide), hs168.1 196 (by decide) (by decide)]; exact hw3.2.1 i hi, fun j hj => by
                              by_cases q : j = 6 * a + g
                              · rw [q, su_k, vaF, show (6 * a + g) / 6 = a by omega, show (6 * a + g) % 6 = g by omega, Nat.mul_comm D 24]
                              · rw [su_i q, hs168.1 193 (by decide) (by decide)]; exact hw3.2.2 j (by omega)⟩
                      exact LP3 (6 + 1) 0 w2 (by omega) (by omega) ⟨hw2.1, hw2.2.1, fun j hj => hw2.2.2 j (by omega)⟩
                      
                exact LP2 (M + 1) 0 w (by omega) (by omega) ⟨hw.1, hits, fun j hj => absurd hj (by omega)⟩
                
              · have n112 := nle_n (by omega) (by omega) (show ¬ nI (2) ≤ nI ((adL v s k).length) from c112)
                have hns : ¬ seP (guI v s T) := fun q => by
                  have h2 := (ad_se hK.hT).1.mp q
                  rw [show k = T by omega] at n112
                  omega
                refine g_bipush (v := -2) h dX11_fair_115 (by decide) ?_
                exact g_iretP h hrt dX11_fair_117 (by omega) (pm_v (by rw [faiR, if_pos n5, if_pos (Or.inr n21), if_neg hns]) rfl hw.1)
            · have n58 := nle_n (by omega) (by omega) (show ¬ nI (T) ≤ nI (k) from c58)
              refine g_iload_n h dX11_fair_61 rfl rfl ?_
              refine g_iload h dX11_fair_62 rfl ?_
              refine g_S h ls_X11_340 (c_X11_isOf s (nI k) w) (fitR hR (by first | decide | omega) (by decide) (by omega)) rfl rfl (Nat.le_of_ble_eq_true rfl) dX11_fair_64 ?_
              refine g_if_eq (tgt := 103) h dX11_fair_67 (by decide) (fun c67 => ?_) (fun c67 => ?_)
              · refine g_iinc (v := nI (k + 1)) (ls' := [(0, _), (1, _), (2, _), (3, _), (4, _), (5, _)]) h dX11_fair_103 rfl (nI_1 k) (by decide) rfl rfl ?_
                refine g_goto (tgt := 50) h dX11_fair_106 (by decide) ?_
                exact g_cv (by rw [ad_0 (fun q => b2_0.mp c67 q.1)]) rfl (ih (k + 1) w (by omega) (by omega) (by rw [ad_0 (fun q => b2_0.mp c67 q.1)]; exact hw))
              · refine g_aload_n h dX11_fair_70 rfl rfl ?_
                refine g_iload h dX11_fair_71 rfl ?_
                refine g_V h lv_X11_80_X11 sh_178 (by decide) rfl (c_X11_isChild k v T W (by omega) w (hK.th.sim hw.1).r) (fitR hR (by first | decide | omega) (by decide) (by omega)) rfl rfl (Nat.le_of_ble_eq_true rfl) dX11_fair_73 ?_
                refine g_if_eq (tgt := 82) h dX11_fair_76 (by decide) (fun c76 => ?_) (fun c76 => ?_)
                · refine g_iload h dX11_fair_82 rfl ?_
                  refine g_iconst (v := nI 3) h dX11_fair_84 (by decide) ?_
                  refine g_icmp_ne (tgt := 91) h dX11_fair_85 (by decide) (fun c85 => ?_) (fun c85 => ?_)
                  · have n85 := ne_n (show ¬ nI ((adL v s k).length) = nI (3) from c85)
                    refine g_aload_n h dX11_fair_91 rfl rfl ?_
                    refine g_getR h fl_X11_66_10 sh_178 (by decide) rfl dX11_fair_92 ?_
                    refine g_iload h dX11_fair_95 rfl ?_
                    refine g_iload h dX11_fair_97 rfl ?_
                    refine g_iast h _ _ _ sh_196 (by decide) (by decide) rfl (by omega) dX11_fair_99 ?_
                    refine g_iinc (v := nI ((adL v s k).length + 1)) (ls' := [(0, _), (1, _), (2, _), (3, _), (4, _), (5, _)]) h dX11_fair_100 rfl (nI_1 _) (by decide) rfl rfl ?_
                    refine g_iinc (v := nI (k + 1)) (ls' := [(0, _), (1, _), (2, _), (3, _), (4, _), (5, _)]) h dX11_fair_103 rfl (nI_1 k) (by decide) rfl rfl ?_
                    refine g_goto (tgt := 50) h dX11_fair_106 (by decide) ?_
                    exact g_cv (by rw [ad_1 (v := v) (x := s) (k := k) ⟨b2_n0.mp c67, Decidable.not_not.mp (b2_0.mp c76)⟩, List.length_append]; rfl) rfl (ih (k + 1) (su w 196 (adL v s k).length (nI k)) (by omega) (by omega) (by
                      rw [ad_1 (v := v) (x := s) (k := k) ⟨b2_n0.mp c67, Decidable.not_not.mp (b2_0.mp c76)⟩]
                      refine ⟨sim_scr hw.1 _ (scr_m (by decide)), by rw [List.length_append]; simp; omega, fun i hi => ?_⟩
                      rw [List.length_append] at hi
                      simp at hi
                      by_cases q : i = (adL v s k).length
                      · rw [q, su_k, gd_ae]
                      · rw [su_i q, gd_ap (by omega)]; exact hw.2.2 i (by omega)))
                  · have n85 := eq_n (by omega) (by omega) (show nI ((adL v s k).length) = nI (3) from c85)
                    have hns : ¬ seP (guI v s T) := fun q => by
                      have h1 := ad_mono (v := v) (x := s) (k := k + 1) (T - (k + 1))
                      rw [show k + 1 + (T - (k + 1)) = T by omega, ad_1 ⟨b2_n0.mp c67, Decidable.not_not.mp (b2_0.mp c76)⟩, List.length_append] at h1
                      have h2 := (ad_se hK.hT).1.mp q
                      simp at h1
                      omega
                    refine g_bipush (v := -2) h dX11_fair_88 (by decide) ?_
                    exact g_iretP h hrt dX11_fair_90 (by omega) (pm_v (by rw [faiR, if_pos n5, if_pos (Or.inr n21), if_neg hns]) rfl hw.1)
                · refine g_goto (tgt := 103) h dX11_fair_79 (by decide) ?_
                  refine g_iinc (v := nI (k + 1)) (ls' := [(0, _), (1, _), (2, _), (3, _), (4, _), (5, _)]) h dX11_fair_103 rfl (nI_1 k) (by decide) rfl rfl ?_
                  refine g_goto (tgt := 50) h dX11_fair_106 (by decide) ?_
                  exact g_cv (by rw [ad_0 (fun q => b2_n0.mp c76 q.2)]) rfl (ih (k + 1) w (by omega) (by omega) (by rw [ad_0 (fun q => b2_n0.mp c76 q.2)]; exact hw))
        exact LP (T + 1) 0 _ (by omega) (by omega) ⟨sim.refl _, Nat.zero_le _, fun i hi => absurd hi (Nat.not_lt_zero _)⟩
        
      · refine g_top (b2_f n21) ?_
        refine g_if_ne (tgt := 31) h dX11_fair_24 (by decide) (fun q => absurd q (by decide)) (fun _ => ?_)
        refine g_iconst (v := nI 1) h dX11_fair_27 (by decide) ?_
        refine g_goto (tgt := 32) h dX11_fair_28 (by decide) ?_
        refine g_putI h pfl_X11_69_10 sh_178 (by decide) rfl dX11_fair_32 ?_
        refine g_aload_n h dX11_fair_35 rfl rfl ?_
        refine g_getI h fl_X11_69_10 sh_178 (by decide) rfl dX11_fair_36 ?_
        refine g_top su_k ?_
        refine g_if_le (tgt := 44) h dX11_fair_39 (by decide) (fun q => absurd q (by decide)) (fun _ => ?_)
        refine g_iconst (v := nI 0) h dX11_fair_42 (by decide) ?_
        exact g_iretP h hrt dX11_fair_43 (by omega) (by first | exact pm_x (Ex := iae) (by rw [faiR, if_pos n5, if_neg (not_or.mpr ⟨c13, n21⟩)]) (by decide) (sim.refl _))
  · refine g_top (b2_f n5) ?_
    refine g_if_eq (tgt := 27) h dX11_fair_8 (by decide) (fun _ => ?_) (fun q => absurd q (by decide))
    refine g_iconst (v := nI 1) h dX11_fair_27 (by decide) ?_
    refine g_goto (tgt := 32) h dX11_fair_28 (by decide) ?_
    refine g_putI h pfl_X11_69_10 sh_178 (by decide) rfl dX11_fair_32 ?_
    refine g_aload_n h dX11_fair_35 rfl rfl ?_
    refine g_getI h fl_X11_69_10 sh_178 (by decide) rfl dX11_fair_36 ?_
    refine g_top su_k ?_
    refine g_if_le (tgt := 44) h dX11_fair_39 (by decide) (fun q => absurd q (by decide)) (fun _ => ?_)
    refine g_iconst (v := nI 0) h dX11_fair_42 (by decide) ?_
    exact g_iretP h hrt dX11_fair_43 (by omega) (by first | exact pm_x (Ex := iae) (by rw [faiR, if_neg n5]) (by decide) (sim.refl _))
