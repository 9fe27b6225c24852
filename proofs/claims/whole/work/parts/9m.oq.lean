-- after: 9l.op
/-- alike but for scratch and the row that the town keeps for itself -/
def N181 (a b : Sto) : Prop := ∀ k j, k ≠ 181 → scrB k j = false → a k j = b k j
/-- the model's town: what it leaves -/
def twQ (u : Sto) (r : Except Nat Sto) : Res → Sto → Prop := fun o t => ∃ x, o = .inl (some (.int x)) ∧ match r with
  | .error e => N181 t (su (su (su u 178 8 (nI 0)) 178 12 (nI e)) 178 0 (nI 1))
  | .ok v => if v 179 0 = nI 12 then N181 t (su (su (su u 178 8 (nI 0)) 178 12 (-1)) 178 0 (nI 2)) else x = v 179 0 + nI 1 ∧ N181 t (su (su (su (su (sc u 179 (upd (v 179) 0 (v 179 0 + nI 1))) 178 8 (nI 0)) 178 12 (-1)) 178 6 (nI 0)) 178 0 (nI 0))
theorem n181_mr {x u : Sto} {B l p w : Int32} (hb : ∀ k, k ≠ 178 → k ≠ 181 → x k = u k) (h : ∀ j, scrB 178 j = false → j ≠ 12 → x 178 j = u 178 j) (hw : w = u 178 12) : N181 (mrS x B l p w) u := by
  intro k j hk q
  by_cases e : k = 178
  · subst e
    have hs := scr_x q
    by_cases e9 : j = 12
    · subst e9; rw [mr_r12, hw]
    · rw [mr_s (by omega)]; exact h j q e9
  · rw [mr_o e, hb k e hk]
theorem mlo_178 {a b : Sto} (h : mlo a b) (k : Nat) (hk : k ≠ 179) : a k = b k := h.1 k hk
def twU (u : Sto) : Sto := su (su (sc u 181 (mvF (u 181) (u 179) 1080)) 178 8 (nI 0)) 178 13 (nI 0)
theorem twU_c {u : Sto} {k : Nat} (h : k ≠ 178) (h2 : k ≠ 181) : twU u k = u k := by unfold twU; rw [su_cell _ _ h, su_cell _ _ h, sc_ne _ _ h2]
theorem twU_j {u : Sto} {j : Nat} (h : j ≠ 8) (h2 : j ≠ 13) : twU u 178 j = u 178 j := by unfold twU; rw [su_i h2, su_i h, sc_ne _ _ (by decide)]
theorem tw_re {u v : Sto} {L q n : Nat} {w : Int32} (hb : mlo v (twU u)) : N181 (mrS (sc (su v 178 0 (nI n)) 179 (mvF (v 179) (u 179) 1080)) (-1) (nI L) (nI q) w) (su (su (su u 178 8 (nI 0)) 178 12 w) 178 0 (nI n)) := by
  refine n181_mr (fun k h1 h2 => ?_) (fun j hj h12 => ?_) ?_
  · rw [su_cell _ _ h1, su_cell _ _ h1, su_cell _ _ h1]
    by_cases e : k = 179
    · subst e
      rw [sc_at]
      funext j
      by_cases q : j < 1080
      · exact mv_lo q
      · rw [mv_hi (by omega), hb.2 j (by omega), twU_c (by decide) (by decide)]
    · rw [sc_ne _ _ e, su_cell _ _ h1, hb.1 k e, twU_c h1 h2]
  · have hs := scr_x hj
    rw [sc_ne _ _ (by decide), su_r, su_r, su_i h12, su_r]
    by_cases e0 : j = 0
    · rw [if_pos e0, if_pos e0]
    · rw [if_neg e0, if_neg e0, hb.1 178 (by decide)]
      by_cases e8 : j = 8
      · subst e8; rw [if_pos rfl]; unfold twU; rw [su_i (by decide), su_k]
      · rw [if_neg e8, twU_j e8 hs.2.2.2.1]
  · rw [su_i (by decide), su_k]
theorem twm_ok {u v : Sto} {L q : Nat} (hb : mlo v (twU u)) : N181 (mrS (su (su (su v 178 0 (nI 0)) 179 0 (v 179 0 + nI 1)) 178 6 (nI 0)) (-1) (nI L) (nI q) (-1)) (su (su (su (su (sc u 179 (upd (v 179) 0 (v 179 0 + nI 1))) 178 8 (nI 0)) 178 12 (-1)) 178 6 (nI 0)) 178 0 (nI 0)) := by
  refine n181_mr (fun k h1 h2 => ?_) (fun j hj h12 => ?_) ?_
  · rw [su_cell _ _ h1, su_cell _ _ h1, su_cell _ _ h1, su_cell _ _ h1, su_cell _ _ h1]
    by_cases e : k = 179
    · subst e
      rw [sc_at, su_at, su_cell _ _ (by decide)]
    · rw [sc_ne _ _ e, su_cell _ _ e, su_cell _ _ h1, hb.1 k e, twU_c h1 h2]
  · have hs := scr_x hj
    rw [su_r, su_cell _ _ (by decide), su_r, su_r, su_r, su_i h12, su_r, sc_ne _ _ (by decide)]
    by_cases e6 : j = 6
    · rw [if_pos e6, if_neg (by omega), if_pos e6]
    · rw [if_neg e6, if_neg e6]
      by_cases e0 : j = 0
      · rw [if_pos e0, if_pos e0]
      · rw [if_neg e0, if_neg e0, hb.1 178 (by decide)]
        by_cases e8 : j = 8
        · subst e8; rw [if_pos rfl]; unfold twU; rw [su_i (by decide), su_k]
        · rw [if_neg e8, twU_j e8 hs.2.2.2.1]
  · rw [su_i (by decide), su_i (by decide), su_k]
theorem tw_ok9 {T W : Nat} {mo own shu f : Nat → Int32} {L p : Nat} {q : TL × Nat} (hT : T ≤ 10) (h : twD T W mo own shu f L p = .ok q) : tOK T W q.1 := tw_ok hT h
theorem tT_le {T W : Nat} {x : TL} (hT : T ≤ 10) (h : tOK T W x) : T + tT x ≤ 10 := by
  cases x using TL.cs with
  | ten c a b => have h : T < 10 := h; show T + 1 ≤ 10; omega
  | chl m => have h : T < 10 := h.1; show T + 1 ≤ 10; omega
  | lt q A B m => exact hT
  | gds r n => exact hT
  | sht r => exact hT
  | sbt r m => exact hT
  | wnt m n a b => exact hT
  | chc n => exact hT
theorem tm_mlo {f : Nat → Int32} {L : Nat} : ∀ {k T W : Nat} {u : Sto} {p : Nat} {v : Sto}, T ≤ 10 → tlsM f L k T W u p = .ok v → mlo v u
  | 0, _, _, _, _, _, _, h => nomatch h
  | k + 1, T, W, u, p, v, hT, h => by
    unfold tlsM at h
    split at h
    · exact nomatch h
    · rename_i q hq
      have hok := tw_ok9 hT hq
      split at h
      · cases h; exact mlo_ap hT hok
      · split at h
        · exact (tm_mlo (tT_le hT hok) h).trans (mlo_ap hT hok)
        · exact nomatch h
theorem tn_mlo {f : Nat → Int32} {L T W : Nat} {u v : Sto} (hT : T ≤ 10) (h : twnM f L T W u = .ok v) : mlo v u := by
  unfold twnM at h
  split at h
  · cases h; exact mlo.refl _
  · exact tm_mlo hT h
theorem tm_er {f : Nat → Int32} {L : Nat} : ∀ {k T W : Nat} {u : Sto} {p e : Nat}, p ≤ L → tlsM f L k T W u p = .error e → e ≤ L
  | 0, _, _, _, p, e, hp, h => by cases h; exact hp
  | k + 1, T, W, u, p, e, hp, h => by
    unfold tlsM at h
    split at h
    · rename_i e9 he
      cases h
      exact tw_er hp he
    · rename_i q hq
      have hq2 := tw_p hp hq
      split at h
      · exact nomatch h
      · split at h
        · exact tm_er (nx_b hq2).2 h
        · cases h; exact hq2
theorem tnm_er {f : Nat → Int32} {L T W : Nat} {u : Sto} {e : Nat} (h : twnM f L T W u = .error e) : e ≤ L := by
  unfold twnM at h
  split at h
  · exact nomatch h
  · exact tm_er (skp_b (Nat.zero_le _)).2 h
set_option maxHeartbeats 1000000 in
theorem c_X11_town {E : EE} (L T W : Nat) (hL : L ≤ 400) (hT : T ≤ 10) (u : Sto) (hTl : u 178 8 = nI L) (hMI : MI (twU u) T W) : CtP E 32 0 yX11_town cX11_town 2 (some .int) [.ref (E.ad 178)] u (twQ u (twnM (u 183) L T W (twU u))) := by
  refine ctp_of (by decide) (Nat.le_of_ble_eq_true rfl) (fun X h hR hrt htab hargs => ?_)
  have LP : ∀ j k : Nat, 1080 < k + j → k ≤ 1080 → G E X (QMP E X (twQ u (twnM (u 183) L T W (twU u))) 0) 2 0 2 [(0, .ref (E.ad 178)), (1, .int (nI k))] [] (sc u 181 (mvF (u 181) (u 179) k)) := by
    intro j
    induction j with
    | zero => intro k h1 h2; omega
    | succ j ih =>
      intro k h1 h2
      refine g_iload_n h dX11_town_2 rfl rfl ?_
      refine g_sipush (v := nI 1080) h dX11_town_3 (by decide) ?_
      refine g_icmp_ge (tgt := 27) h dX11_town_6 (by decide) (fun c6 => ?_) (fun c6 => ?_)
      · have n6 := le_n (by omega) (by omega) (show nI (1080) ≤ nI (k) from c6)
        obtain rfl : k = 1080 := by omega
        refine g_aload_n h dX11_town_27 rfl rfl ?_
        refine g_V h lv_X11_196_X11 sh_178 (by decide) rfl (c_X11_begins L (sc u 181 (mvF (u 181) (u 179) 1080)) ((congrFun (sc_ne _ _ (by decide)) _).trans hTl)) (fitR hR (by first | decide | omega) (by decide) (by omega)) rfl rfl (Nat.le_of_ble_eq_true rfl) dX11_town_28 ?_
        refine g_aload_n h dX11_town_31 rfl rfl ?_
        refine g_iconst (v := nI 0) h dX11_town_32 (by decide) ?_
        refine g_VP h lv_X11_199_X11 sh_178 (by decide) rfl (c_X11_read_f (-1) (u 183) L T W (twU u) (Or.inl ⟨rfl, fun k _ => by rw [twU_c (by decide) (by decide)]⟩) hL hMI) qrt_nx (fitR hR (by first | decide | omega) (by decide) (by omega)) rfl rfl (Nat.le_of_ble_eq_true rfl) dX11_town_33 (fun v33 u33 hs33 => ?_)
        cases h33 : twnM (u 183) L T W (twU u)
        · rename_i e33
          rw [h33] at hs33
          obtain ⟨x9, hv33, v9, q9, hb9, hq9, rfl⟩ := hs33
          cases hv33
          have hw9 := nw (tnm_er h33) hL
          refine g_pop h dX11_town_36 rfl ?_
          refine g_aload_n h dX11_town_37 rfl rfl ?_
          refine g_aload_n h dX11_town_38 rfl rfl ?_
          refine g_getI h fl_X11_25_10 sh_178 (by decide) rfl dX11_town_39 ?_
          refine g_top mr_r12 ?_
          refine g_iconst (v := -1) h dX11_town_42 (by decide) ?_
          refine g_icmp_eq (tgt := 50) h dX11_town_43 (by decide) (fun c43 => ?_) (fun c43 => ?_)
          · exact absurd c43 hw9
          · refine g_iconst (v := nI 1) h dX11_town_46 (by decide) ?_
            refine g_goto (tgt := 66) h dX11_town_47 (by decide) ?_
            refine g_putI h pfl_X11_69_10 sh_178 (by decide) rfl dX11_town_66 ?_
            refine g_sto (mr_ss (by decide)) ?_
            refine g_aload_n h dX11_town_69 rfl rfl ?_
            refine g_getI h fl_X11_69_10 sh_178 (by decide) rfl dX11_town_70 ?_
            refine g_top (mr_s (by decide)) ?_
            refine g_top su_k ?_
            refine g_if_le (tgt := 105) h dX11_town_73 (by decide) (fun q => absurd q (by decide)) (fun _ => ?_)
            refine g_iconst (v := nI 0) h dX11_town_76 (by decide) ?_
            refine g_istore_n (ls' := [(0, _), (1, _)]) h dX11_town_77 rfl (by decide) rfl rfl ?_
            have LP2 : ∀ j k : Nat, 1080 < k + j → k ≤ 1080 → G E X (QMP E X (twQ u (.error e33)) 0) 2 0 78 [(0, .ref (E.ad 178)), (1, .int (nI k))] [] (mrS (sc (su v9 178 0 (nI 1)) 179 (mvF (v9 179) (u 179) k)) (-1) (nI L) (nI q9) (nI e33)) := by
              intro j
              induction j with
              | zero => intro k h1 h2; omega
              | succ j ih =>
                intro k h1 h2
                refine g_iload_n h dX11_town_78 rfl rfl ?_
                refine g_sipush (v := nI 1080) h dX11_town_79 (by decide) ?_
                refine g_icmp_ge (tgt := 103) h dX11_town_82 (by decide) (fun c82 => ?_) (fun c82 => ?_)
                · have n82 := le_n (by omega) (by omega) (show nI (1080) ≤ nI (k) from c82)
                  refine g_iconst (v := nI 0) h dX11_town_103 (by decide) ?_
                  exact g_iretP h hrt dX11_town_104 (by omega) ⟨_, rfl, by rw [show k = 1080 by omega]; exact tw_re hb9⟩
                · have n82 := nle_n (by omega) (by omega) (show ¬ nI (1080) ≤ nI (k) from c82)
                  refine g_aload_n h dX11_town_85 rfl rfl ?_
                  refine g_getR h fl_X11_7_10 sh_178 (by decide) rfl dX11_town_86 ?_
                  refine g_iload_n h dX11_town_89 rfl rfl ?_
                  refine g_aload_n h dX11_town_90 rfl rfl ?_
                  refine g_getR h fl_X11_16_10 sh_178 (by decide) rfl dX11_town_91 ?_
                  refine g_iload_n h dX11_town_94 rfl rfl ?_
                  refine g_iald h _ _ _ sh_181 (by decide) (by decide) rfl (by omega) dX11_town_95 ?_
                  refine g_top (mr_o (by decide)) ?_
                  refine g_top (y := u 179 k) (by rw [sc_ne _ _ (by decide), su_cell _ _ (by decide), hb9.1 181 (by decide)]; unfold twU; rw [su_cell _ _ (by decide), su_cell _ _ (by decide), sc_at]; exact mv_lo (by omega)) ?_
                  refine g_iast h _ _ _ sh_179 (by decide) (by decide) rfl (by omega) dX11_town_96 ?_
                  refine g_sto (mr_su (by decide)) ?_
                  refine g_iinc (v := nI (k + 1)) (ls' := [(0, _), (1, _)]) h dX11_town_97 rfl (nI_1 k) (by decide) rfl rfl ?_
                  refine g_goto (tgt := 78) h dX11_town_100 (by decide) ?_
                  exact g_cv rfl (congrArg (fun z => mrS z (-1) (nI L) (nI q9) (nI e33)) (by rw [su_sc]; exact congrArg _ mv_s)) (ih (k + 1) (by omega) (by omega))
            refine g_cv rfl (congrArg (fun z => mrS z (-1) (nI L) (nI q9) (nI e33)) (show su v9 178 0 (nI 1) = sc (su v9 178 0 (nI 1)) 179 (mvF (v9 179) (u 179) 0) by rw [mv_0]; exact (sc_i (su_cell _ _ (by decide)).symm).symm)) ?_
            exact LP2 (1080 + 1) 0 (by omega) (by omega)
            
        · rename_i v9
          rw [h33] at hs33
          obtain ⟨x9, hv33, q9, hq9, rfl⟩ := hs33
          cases hv33
          have hb9 := tn_mlo hT h33
          refine g_pop h dX11_town_36 rfl ?_
          refine g_aload_n h dX11_town_37 rfl rfl ?_
          refine g_aload_n h dX11_town_38 rfl rfl ?_
          refine g_getI h fl_X11_25_10 sh_178 (by decide) rfl dX11_town_39 ?_
          refine g_top mr_r12 ?_
          refine g_iconst (v := -1) h dX11_town_42 (by decide) ?_
          refine g_icmp_eq (tgt := 50) h dX11_town_43 (by decide) (fun c43 => ?_) (fun c43 => ?_)
          · refine g_aload_n h dX11_town_50 rfl rfl ?_
            refine g_getR h fl_X11_7_10 sh_178 (by decide) rfl dX11_town_51 ?_
            refine g_iconst (v := nI 0) h dX11_town_54 (by decide) ?_
            refine g_iald h _ _ _ sh_179 (by decide) (by decide) rfl (by omega) dX11_town_55 ?_
            refine g_top (mr_o (by decide)) ?_
            refine g_bipush (v := nI 12) h dX11_town_56 (by decide) ?_
            refine g_icmp_ne (tgt := 65) h dX11_town_58 (by decide) (fun c58 => ?_) (fun c58 => ?_)
            · refine g_iconst (v := nI 0) h dX11_town_65 (by decide) ?_
              refine g_putI h pfl_X11_69_10 sh_178 (by decide) rfl dX11_town_66 ?_
              refine g_sto (mr_ss (by decide)) ?_
              refine g_aload_n h dX11_town_69 rfl rfl ?_
              refine g_getI h fl_X11_69_10 sh_178 (by decide) rfl dX11_town_70 ?_
              refine g_top (mr_s (by decide)) ?_
              refine g_top su_k ?_
              refine g_if_le (tgt := 105) h dX11_town_73 (by decide) (fun _ => ?_) (fun q => absurd q (by decide))
              refine g_aload_n h dX11_town_105 rfl rfl ?_
              refine g_getR h fl_X11_7_10 sh_178 (by decide) rfl dX11_town_106 ?_
              refine g_iconst (v := nI 0) h dX11_town_109 (by decide) ?_
              refine g_dup2 h dX11_town_110 rfl rfl ?_
              refine g_iald h _ _ _ sh_179 (by decide) (by decide) rfl (by omega) dX11_town_111 ?_
              refine g_top (mr_o (by decide)) ?_
              refine g_top (y := v9 179 0) (congrFun (su_cell _ _ (by decide)) _) ?_
              refine g_iconst (v := nI 1) h dX11_town_112 (by decide) ?_
              refine g_iadd h dX11_town_113 ?_
              refine g_iast h _ _ _ sh_179 (by decide) (by decide) rfl (by omega) dX11_town_114 ?_
              refine g_sto (mr_su (by decide)) ?_
              refine g_aload_n h dX11_town_115 rfl rfl ?_
              refine g_iconst (v := nI 0) h dX11_town_116 (by decide) ?_
              refine g_putI h pfl_X11_202_10 sh_178 (by decide) rfl dX11_town_117 ?_
              refine g_sto (mr_ss (by decide)) ?_
              refine g_aload_n h dX11_town_120 rfl rfl ?_
              refine g_getR h fl_X11_7_10 sh_178 (by decide) rfl dX11_town_121 ?_
              refine g_iconst (v := nI 0) h dX11_town_124 (by decide) ?_
              refine g_iald h _ _ _ sh_179 (by decide) (by decide) rfl (by omega) dX11_town_125 ?_
              refine g_top (mr_o (by decide)) ?_
              refine g_top (y := v9 179 0 + nI 1) ((congrFun (su_cell _ _ (by decide)) _).trans su_k) ?_
              exact g_iretP h hrt dX11_town_126 (by omega) ⟨_, rfl, by show (if _ then _ else _); rw [if_neg c58]; exact ⟨rfl, twm_ok hb9⟩⟩
            · have n58 : v9 179 0 = nI 12 := c58
              refine g_iconst (v := nI 2) h dX11_town_61 (by decide) ?_
              refine g_goto (tgt := 66) h dX11_town_62 (by decide) ?_
              refine g_putI h pfl_X11_69_10 sh_178 (by decide) rfl dX11_town_66 ?_
              refine g_sto (mr_ss (by decide)) ?_
              refine g_aload_n h dX11_town_69 rfl rfl ?_
              refine g_getI h fl_X11_69_10 sh_178 (by decide) rfl dX11_town_70 ?_
              refine g_top (mr_s (by decide)) ?_
              refine g_top su_k ?_
              refine g_if_le (tgt := 105) h dX11_town_73 (by decide) (fun q => absurd q (by decide)) (fun _ => ?_)
              refine g_iconst (v := nI 0) h dX11_town_76 (by decide) ?_
              refine g_istore_n (ls' := [(0, _), (1, _)]) h dX11_town_77 rfl (by decide) rfl rfl ?_
              have LP2 : ∀ j k : Nat, 1080 < k + j → k ≤ 1080 → G E X (QMP E X (twQ u (.ok v9)) 0) 2 0 78 [(0, .ref (E.ad 178)), (1, .int (nI k))] [] (mrS (sc (su v9 178 0 (nI 2)) 179 (mvF (v9 179) (u 179) k)) (-1) (nI L) (nI q9) (-1)) := by
                intro j
                induction j with
                | zero => intro k h1 h2; omega
                | succ j ih =>
                  intro k h1 h2
                  refine g_iload_n h dX11_town_78 rfl rfl ?_
                  refine g_sipush (v := nI 1080) h dX11_town_79 (by decide) ?_
                  refine g_icmp_ge (tgt := 103) h dX11_town_82 (by decide) (fun c82 => ?_) (fun c82 => ?_)
                  · have n82 := le_n (by omega) (by omega) (show nI (1080) ≤ nI (k) from c82)
                    refine g_iconst (v := nI 0) h dX11_town_103 (by decide) ?_
                    exact g_iretP h hrt dX11_town_104 (by omega) ⟨_, rfl, by show (if _ then _ else _); rw [if_pos n58, show k = 1080 by omega]; exact tw_re hb9⟩
                  · have n82 := nle_n (by omega) (by omega) (show ¬ nI (1080) ≤ nI (k) from c82)
                    refine g_aload_n h dX11_town_85 rfl rfl ?_
                    refine g_getR h fl_X11_7_10 sh_178 (by decide) rfl dX11_town_86 ?_
                    refine g_iload_n h dX11_town_89 rfl rfl ?_
                    refine g_aload_n h dX11_town_90 rfl rfl ?_
                    refine g_getR h fl_X11_16_10 sh_178 (by decide) rfl dX11_town_91 ?_
                    refine g_iload_n h dX11_town_94 rfl rfl ?_
                    refine g_iald h _ _ _ sh_181 (by decide) (by decide) rfl (by omega) dX11_town_95 ?_
                    refine g_top (mr_o (by decide)) ?_
                    refine g_top (y := u 179 k) (by rw [sc_ne _ _ (by decide), su_cell _ _ (by decide), hb9.1 181 (by decide)]; unfold twU; rw [su_cell _ _ (by decide), su_cell _ _ (by decide), sc_at]; exact mv_lo (by omega)) ?_
                    refine g_iast h _ _ _ sh_179 (by decide) (by decide) rfl (by omega) dX11_town_96 ?_
                    refine g_sto (mr_su (by decide)) ?_
                    refine g_iinc (v := nI (k + 1)) (ls' := [(0, _), (1, _)]) h dX11_town_97 rfl (nI_1 k) (by decide) rfl rfl ?_
                    refine g_goto (tgt := 78) h dX11_town_100 (by decide) ?_
                    exact g_cv rfl (congrArg (fun z => mrS z (-1) (nI L) (nI q9) (-1)) (by rw [su_sc]; exact congrArg _ mv_s)) (ih (k + 1) (by omega) (by omega))
              refine g_cv rfl (congrArg (fun z => mrS z (-1) (nI L) (nI q9) (-1)) (show su v9 178 0 (nI 2) = sc (su v9 178 0 (nI 2)) 179 (mvF (v9 179) (u 179) 0) by rw [mv_0]; exact (sc_i (su_cell _ _ (by decide)).symm).symm)) ?_
              exact LP2 (1080 + 1) 0 (by omega) (by omega)
              
          · exact absurd rfl c43
        
      · have n6 := nle_n (by omega) (by omega) (show ¬ nI (1080) ≤ nI (k) from c6)
        refine g_aload_n h dX11_town_9 rfl rfl ?_
        refine g_getR h fl_X11_16_10 sh_178 (by decide) rfl dX11_town_10 ?_
        refine g_iload_n h dX11_town_13 rfl rfl ?_
        refine g_aload_n h dX11_town_14 rfl rfl ?_
        refine g_getR h fl_X11_7_10 sh_178 (by decide) rfl dX11_town_15 ?_
        refine g_iload_n h dX11_town_18 rfl rfl ?_
        refine g_iald h _ _ _ sh_179 (by decide) (by decide) rfl (by omega) dX11_town_19 ?_
        refine g_top (y := u 179 k) (congrFun (sc_ne _ _ (by decide)) _) ?_
        refine g_iast h _ _ _ sh_181 (by decide) (by decide) rfl (by omega) dX11_town_20 ?_
        refine g_iinc (v := nI (k + 1)) (ls' := [(0, _), (1, _)]) h dX11_town_21 rfl (nI_1 k) (by decide) rfl rfl ?_
        refine g_goto (tgt := 2) h dX11_town_24 (by decide) ?_
        exact g_cv rfl (by rw [su_sc]; exact congrArg _ mv_s) (ih (k + 1) (by omega) (by omega))
  refine g_iconst (v := nI 0) h dX11_town_0 (by decide) ?_
  refine g_istore_n (ls' := [(0, _), (1, _)]) h dX11_town_1 rfl (by decide) rfl rfl ?_
  refine g_cv rfl (show u = sc u 181 (mvF (u 181) (u 179) 0) by rw [mv_0, sc_self]) ?_
  exact LP (1080 + 1) 0 (by omega) (by omega)
