-- after: 9i.om
theorem aft_m {n : Nat} (h : n < 168) : (n + 1) % 168 = aft n := by unfold aft; split <;> omega
theorem tk_0 {u : Sto} {T nw : Nat} (h : u 3 10 = nI nw) (hn : nw < 168) (ha : aft nw = 0) : tkS u T = daS (paS (su (su u 3 10 (nI 0)) 3 9 (u 3 9 + nI 1)) T) T := by
  unfold tkS
  rw [h, ix_nI (by omega), ha]
  exact if_pos rfl
theorem tk_1 {u : Sto} {T nw : Nat} (h : u 3 10 = nI nw) (hn : nw < 168) (ha : ¬ aft nw = 0) : tkS u T = su u 3 10 (nI (aft nw)) := by
  unfold tkS
  rw [h, ix_nI (by omega)]
  exact if_neg ha
set_option maxHeartbeats 1000000 in
theorem c_X11_ticks {E : EE} (v : Sto) (T W pf pc wk nw : Nat) (hpc : pc ≤ 12) (hn : nw < 168) (hb : wk * 168 + nw < 2 ^ 22) (n : Int32) (u : Sto) (hJ : J v (u 179) T W) (hA : u 178 6 = nI pc) (hW : v 3 9 = nI wk) (hN : v 3 10 = nI nw) : CtP E 36 0 yX11_ticks cX11_ticks 4 (some .int) [.ref (E.ad 178), .int n] u (PMa (cdL [iae]) (ticR v T pf pc n) u pc T W) := by
  have hT := hJ.r.hT
  have hJ0 : J (rmS v pf pc) (u 179) T W := J_v hJ vim_rm
  have hW0 : rmS v pf pc 3 9 = nI wk := by rw [rmS_c (by decide) (by omega)]; exact hW
  have hNw0 : rmS v pf pc 3 10 = nI nw := by rw [rmS_c (by decide) (by omega)]; exact hN
  refine ctp_of (by decide) (Nat.le_of_ble_eq_true rfl) (fun X h hR hrt htab hargs => ?_)
  refine g_aload_n h dX11_ticks_0 rfl rfl ?_
  refine g_iload_n h dX11_ticks_1 rfl rfl ?_
  refine g_iconst (v := nI 1) h dX11_ticks_2 (by decide) ?_
  refine g_sipush (v := nI 400) h dX11_ticks_3 (by decide) ?_
  refine g_S h ls_X11_72 (c_X11_isIn n (nI 1) (nI 400) u) (fitR hR (by first | decide | omega) (by decide) (by omega)) rfl rfl (Nat.le_of_ble_eq_true rfl) dX11_ticks_6 ?_
  by_cases n6 : okN n (nI 1) (nI 400)
  · refine g_top (b2_t n6) ?_
    obtain ⟨N, hN0, hN1, iN, rfl⟩ := okN_k (by decide) n6
    refine g_if_ne (tgt := 16) h dX11_ticks_9 (by decide) (fun _ => ?_) (fun q => absurd q (by decide))
    refine g_iconst (v := nI 0) h dX11_ticks_16 (by decide) ?_
    refine g_putI h pfl_X11_69_10 sh_178 (by decide) rfl dX11_ticks_17 ?_
    refine g_aload_n h dX11_ticks_20 rfl rfl ?_
    refine g_getI h fl_X11_69_10 sh_178 (by decide) rfl dX11_ticks_21 ?_
    refine g_top su_k ?_
    refine g_if_le (tgt := 29) h dX11_ticks_24 (by decide) (fun _ => ?_) (fun q => absurd q (by decide))
    refine g_aload_n h dX11_ticks_29 rfl rfl ?_
    refine g_V h lv_X11_305_X11 sh_178 (by decide) rfl (c_X11_remembers pc hpc _ (rm_6 (sim.refl u) hA)) (fitR hR (by first | decide | omega) (by decide) (by omega)) rfl rfl (Nat.le_of_ble_eq_true rfl) dX11_ticks_30 ?_
    refine g_aload_n h dX11_ticks_33 rfl rfl ?_
    refine g_getR h fl_X11_7_10 sh_178 (by decide) rfl dX11_ticks_34 ?_
    refine g_bipush (v := nI 6) h dX11_ticks_37 (by decide) ?_
    refine g_iald h _ _ _ sh_179 (by decide) (by decide) rfl (by omega) dX11_ticks_39 ?_
    refine g_top (y := v 3 8) ((congrFun (rmM_c (by decide) (by decide)) _).trans ((congrFun (su_cell _ _ (by decide)) _).trans hJ.t.tl)) ?_
    refine g_istore_n (ls' := [(0, _), (1, _), (2, _)]) h dX11_ticks_40 rfl (by decide) rfl rfl ?_
    refine g_iconst (v := nI 0) h dX11_ticks_41 (by decide) ?_
    refine g_istore_n (ls' := [(0, _), (1, _), (2, _), (3, _)]) h dX11_ticks_42 rfl (by decide) rfl rfl ?_
    have LP : ∀ (j k : Nat) (w : Sto), N < k + j → k ≤ N → (SJ (tcS (rmS v pf pc) T k) w (rmM (su u 178 0 (nI 0)) pc) T W ∧ ∃ wk9 nw9, (tcS (rmS v pf pc) T k) 3 9 = nI wk9 ∧ (tcS (rmS v pf pc) T k) 3 10 = nI nw9 ∧ nw9 < 168 ∧ wk9 * 168 + nw9 = wk * 168 + nw + k) → G E X (QMP E X (PMa (cdL [iae]) (ticR v T pf pc (nI N)) u pc T W) 0) 4 0 43 [(0, .ref (E.ad 178)), (1, .int (nI N)), (2, .int (v 3 8)), (3, .int (nI k))] [] w := by
      intro j
      induction j with
      | zero => intro k w h1 h2 hw; omega
      | succ j ih =>
        intro k w h1 h2 hw
        obtain ⟨hw, wk9, nw9, e9, e10, hn9, hb9⟩ := hw
        refine g_iload_n h dX11_ticks_43 rfl rfl ?_
        refine g_iload_n h dX11_ticks_44 rfl rfl ?_
        refine g_icmp_ge (tgt := 85) h dX11_ticks_45 (by decide) (fun c45 => ?_) (fun c45 => ?_)
        · have n45 := le_n (by omega) (by omega) (show nI (N) ≤ nI (k) from c45)
          refine g_aload_n h dX11_ticks_85 rfl rfl ?_
          refine g_getR h fl_X11_7_10 sh_178 (by decide) rfl dX11_ticks_86 ?_
          refine g_bipush (v := nI 6) h dX11_ticks_89 (by decide) ?_
          refine g_iald h _ _ _ sh_179 (by decide) (by decide) rfl (by omega) dX11_ticks_91 ?_
          refine g_top (y := (tcS (rmS v pf pc) T k) 3 8) hw.1.t.tl ?_
          refine g_iload_n h dX11_ticks_92 rfl rfl ?_
          refine g_isub h dX11_ticks_93 ?_
          exact g_iretP h hrt dX11_ticks_94 (by omega) (pa_k (by rw [ticR, if_pos n6, iN]) (by rw [show k = N by omega]) (by rw [← show k = N by omega]; exact hw.1) hw.2.1 ⟨hw.2.2, rfl⟩)
        · have n45 := nle_n (by omega) (by omega) (show ¬ nI (N) ≤ nI (k) from c45)
          have hJn := J_now hw.1 (aft nw9) (aft_lt nw9)
          have ham := aft_m hn9
          refine g_aload_n h dX11_ticks_48 rfl rfl ?_
          refine g_getR h fl_X11_7_10 sh_178 (by decide) rfl dX11_ticks_49 ?_
          refine g_iconst (v := nI 5) h dX11_ticks_52 (by decide) ?_
          refine g_aload_n h dX11_ticks_53 rfl rfl ?_
          refine g_getR h fl_X11_7_10 sh_178 (by decide) rfl dX11_ticks_54 ?_
          refine g_iconst (v := nI 5) h dX11_ticks_57 (by decide) ?_
          refine g_iald h _ _ _ sh_179 (by decide) (by decide) rfl (by omega) dX11_ticks_58 ?_
          refine g_top (y := nI nw9) (hw.1.t.nw.trans e10) ?_
          refine g_iconst (v := nI 1) h dX11_ticks_59 (by decide) ?_
          refine g_iadd h dX11_ticks_60 ?_
          refine g_top (nI_1 _) ?_
          refine g_sipush (v := nI 168) h dX11_ticks_61 (by decide) ?_
          refine g_irem h dX11_ticks_64 (by decide) ?_
          refine g_top (y := nI ((nw9 + 1) % 168)) (pk_rem (by omega) (by omega) (by omega)) ?_
          refine g_iast h _ _ _ sh_179 (by decide) (by decide) rfl (by omega) dX11_ticks_65 ?_
          refine g_aload_n h dX11_ticks_66 rfl rfl ?_
          refine g_getR h fl_X11_7_10 sh_178 (by decide) rfl dX11_ticks_67 ?_
          refine g_iconst (v := nI 5) h dX11_ticks_70 (by decide) ?_
          refine g_iald h _ _ _ sh_179 (by decide) (by decide) rfl (by omega) dX11_ticks_71 ?_
          refine g_top (y := nI ((nw9 + 1) % 168)) su_k ?_
          refine g_if_ne (tgt := 79) h dX11_ticks_72 (by decide) (fun c72 => ?_) (fun c72 => ?_)
          · have ha0 : ¬ aft nw9 = 0 := fun q => c72 (by rw [ham, q]; rfl)
            refine g_iinc (v := nI (k + 1)) (ls' := [(0, _), (1, _), (2, _), (3, _)]) h dX11_ticks_79 rfl (nI_1 k) (by decide) rfl rfl ?_
            refine g_goto (tgt := 43) h dX11_ticks_82 (by decide) ?_
            exact ih (k + 1) _ (by omega) (by omega) ⟨by show SJ (tkS (tcS (rmS v pf pc) T k) T) _ _ T W; rw [tk_1 e10 hn9 ha0]; exact (⟨by rw [su_at, ham]; exact hJn, fun j hj => by rw [su_at, up_g (by decide) hj]; exact hw.2.1 j hj, N9.trans (fun c j hc _ => congrFun (su_cell _ _ hc) j) hw.2.2⟩), wk9, aft nw9, by show tkS (tcS (rmS v pf pc) T k) T 3 9 = _; rw [tk_1 e10 hn9 ha0, su_i (by decide)]; exact e9, by show tkS (tcS (rmS v pf pc) T k) T 3 10 = _; rw [tk_1 e10 hn9 ha0]; exact su_k, aft_lt _, by rw [← ham] at ha0 ⊢; omega⟩
          · have ha0 : aft nw9 = 0 := by rw [← ham]; exact eq_n (by omega) (by omega) (show nI ((nw9 + 1) % 168) = nI 0 from c72)
            refine g_aload_n h dX11_ticks_75 rfl rfl ?_
            refine g_VP h lv_X11_330_X11 sh_178 (by decide) rfl (c_X11_weekMore (su (tcS (rmS v pf pc) T k) 3 10 (nI 0)) T W (wk9 + 1) (by omega) _ (by rw [su_at, ham, ha0]; rw [ha0] at hJn; exact hJn) (by rw [su_i (by decide), e9]; exact nI_1 _)) psj_nx (fitR hR (by first | decide | omega) (by decide) (by omega)) rfl rfl (Nat.le_of_ble_eq_true rfl) dX11_ticks_76 (fun v76 u76 hs76 => ?_)
            obtain ⟨hv76, hs76⟩ := hs76
            · cases hv76
              rw [su_i (by decide)] at hs76
              refine g_iinc (v := nI (k + 1)) (ls' := [(0, _), (1, _), (2, _), (3, _)]) h dX11_ticks_79 rfl (nI_1 k) (by decide) rfl rfl ?_
              refine g_goto (tgt := 43) h dX11_ticks_82 (by decide) ?_
              exact ih (k + 1) _ (by omega) (by omega) ⟨by show SJ (tkS (tcS (rmS v pf pc) T k) T) _ _ T W; rw [tk_0 e10 hn9 ha0]; exact ⟨hs76.1, fun j hj => (hs76.2.1 j hj).trans (by rw [su_at, up_g (by decide) hj]; exact hw.2.1 j hj), N9.trans hs76.2.2 (N9.trans (fun c j hc _ => congrFun (su_cell _ _ hc) j) hw.2.2)⟩, wk9 + 1, 0, by show tkS (tcS (rmS v pf pc) T k) T 3 9 = _; rw [tk_0 e10 hn9 ha0, (daS_m T).2.1, (paS_m T).2.1, su_k, e9]; exact nI_1 _, by show tkS (tcS (rmS v pf pc) T k) T 3 10 = _; rw [tk_0 e10 hn9 ha0, (daS_m T).2.2, (paS_m T).2.2, su_i (by decide)]; exact su_k, by omega, by rw [← ham] at ha0; omega⟩
    exact LP (N + 1) 0 _ (by omega) (by omega) ⟨⟨by rw [rmM_c (by decide) (by decide), su_cell _ _ (by decide)]; exact hJ0, fun _ _ => rfl, fun _ _ _ _ => rfl⟩, wk, nw, hW0, hNw0, hn, rfl⟩
    
  · refine g_top (b2_f n6) ?_
    refine g_if_ne (tgt := 16) h dX11_ticks_9 (by decide) (fun q => absurd q (by decide)) (fun _ => ?_)
    refine g_iconst (v := nI 1) h dX11_ticks_12 (by decide) ?_
    refine g_goto (tgt := 17) h dX11_ticks_13 (by decide) ?_
    refine g_putI h pfl_X11_69_10 sh_178 (by decide) rfl dX11_ticks_17 ?_
    refine g_aload_n h dX11_ticks_20 rfl rfl ?_
    refine g_getI h fl_X11_69_10 sh_178 (by decide) rfl dX11_ticks_21 ?_
    refine g_top su_k ?_
    refine g_if_le (tgt := 29) h dX11_ticks_24 (by decide) (fun q => absurd q (by decide)) (fun _ => ?_)
    refine g_iconst (v := nI 0) h dX11_ticks_27 (by decide) ?_
    exact g_iretP h hrt dX11_ticks_28 (by omega) (by first | exact pa_x (Ex := iae) (by rw [ticR, if_neg n6]) (by decide) (sim.refl _))
def fdB (a b c d e : Int32) (j : Nat) : Int32 := byI (if j < 4 then a else if j < 8 then b else if j < 12 then c else if j < 16 then d else e) (j % 4)
theorem sh_k4 : ∀ q, q < 4 → nI 24 - nI 8 * nI q = shK q := by decide
theorem fd_s {U : Sto} {F : Nat → Int32} {i : Nat} {x y z : Int32} : su (su (su (sc U 183 F) 178 8 y) 183 i x) 178 8 z = su (sc U 183 (upd F i x)) 178 8 z := by
  funext a b
  unfold su sc upd
  by_cases h : a = 178
  · subst h
    by_cases h2 : b = 8
    · subst h2; simp
    · simp [h2]
  · by_cases h2 : a = 183
    · subst h2; simp
    · simp [h, h2]
theorem fd_0 {U : Sto} {x : Int32} (h : U 178 8 = x) : su (sc U 183 (U 183)) 178 8 x = U := by
  rw [sc_self, ← h]
  funext a b
  unfold su
  split
  · rename_i e; rw [e.1, e.2]
  · rfl
set_option maxHeartbeats 1000000 in
theorem c_X11_feed {E : EE} (tl : Nat) (ht : tl ≤ 400) (a b c d e : Int32) (u : Sto) (hx : u 178 8 = nI tl) : Ct E 1 0 yX11_feed cX11_feed 8 (some .int) [.ref (E.ad 178), .int a, .int b, .int c, .int d, .int e] u (.inl (some (.int (if tl + 20 ≤ 400 then nI (tl + 20) else -1)))) ((if tl + 20 ≤ 400 then su (sc (u0 u) 183 (mvO (u 183) (fdB a b c d e) tl 20)) 178 8 (nI (tl + 20)) else u0 u)) := by
  refine ct_of (by decide) (Nat.le_of_ble_eq_true rfl) (fun X h hR hrt htab hargs hini => ?_)
  by_cases h20 : tl + 20 ≤ 400
  · have hdone := h20
    have LP : ∀ j k : Nat, 20 < k + j → k ≤ 20 → G E X (QM E X (.inl (some (.int (if tl + 20 ≤ 400 then nI (tl + 20) else -1)))) ((if tl + 20 ≤ 400 then su (sc (u0 u) 183 (mvO (u 183) (fdB a b c d e) tl 20)) 178 8 (nI (tl + 20)) else u0 u)) 0) 8 0 23 [(0, .ref (E.ad 178)), (1, .int a), (2, .int b), (3, .int c), (4, .int d), (5, .int e), (6, .int (nI k))] [] (su (sc (u0 u) 183 (mvO (u 183) (fdB a b c d e) tl k)) 178 8 (nI (tl + k))) := by
      intro j
      induction j with
      | zero => intro k h1 h2; omega
      | succ j ih =>
        intro k h1 h2
        refine g_iload h dX11_feed_23 rfl ?_
        refine g_bipush (v := nI 20) h dX11_feed_25 (by decide) ?_
        refine g_icmp_ge (tgt := 120) h dX11_feed_27 (by decide) (fun c27 => ?_) (fun c27 => ?_)
        · have n27 := le_n (by omega) (by omega) (show nI (20) ≤ nI (k) from c27)
          refine g_aload_n h dX11_feed_120 rfl rfl ?_
          refine g_getI h fl_X11_91_10 sh_178 (by decide) rfl dX11_feed_121 ?_
          refine g_top (y := nI (tl + k)) su_k ?_
          exact g_iret h hrt dX11_feed_124 (by omega) (by rw [if_pos h20, show k = 20 by omega]) (by rw [if_pos h20, show k = 20 by omega])
        · have n27 := nle_n (by omega) (by omega) (show ¬ nI (20) ≤ nI (k) from c27)
          refine g_iload h dX11_feed_30 rfl ?_
          refine g_iconst (v := nI 4) h dX11_feed_32 (by decide) ?_
          refine g_icmp_ge (tgt := 40) h dX11_feed_33 (by decide) (fun c33 => ?_) (fun c33 => ?_)
          · have n33 := le_n (by omega) (by omega) (show nI (4) ≤ nI (k) from c33)
            refine g_iload h dX11_feed_40 rfl ?_
            refine g_bipush (v := nI 8) h dX11_feed_42 (by decide) ?_
            refine g_icmp_ge (tgt := 51) h dX11_feed_44 (by decide) (fun c44 => ?_) (fun c44 => ?_)
            · have n44 := le_n (by omega) (by omega) (show nI (8) ≤ nI (k) from c44)
              refine g_iload h dX11_feed_51 rfl ?_
              refine g_bipush (v := nI 12) h dX11_feed_53 (by decide) ?_
              refine g_icmp_ge (tgt := 62) h dX11_feed_55 (by decide) (fun c55 => ?_) (fun c55 => ?_)
              · have n55 := le_n (by omega) (by omega) (show nI (12) ≤ nI (k) from c55)
                refine g_iload h dX11_feed_62 rfl ?_
                refine g_bipush (v := nI 16) h dX11_feed_64 (by decide) ?_
                refine g_icmp_ge (tgt := 74) h dX11_feed_66 (by decide) (fun c66 => ?_) (fun c66 => ?_)
                · have n66 := le_n (by omega) (by omega) (show nI (16) ≤ nI (k) from c66)
                  refine g_iload h dX11_feed_74 rfl ?_
                  refine g_istore (ls' := [(0, _), (1, _), (2, _), (3, _), (4, _), (5, _), (6, _), (7, _)]) h dX11_feed_76 (by decide) rfl rfl ?_
                  refine g_aload_n h dX11_feed_78 rfl rfl ?_
                  refine g_getR h fl_X11_22_10 sh_178 (by decide) rfl dX11_feed_79 ?_
                  refine g_aload_n h dX11_feed_82 rfl rfl ?_
                  refine g_getI h fl_X11_91_10 sh_178 (by decide) rfl dX11_feed_83 ?_
                  refine g_top (y := nI (tl + k)) su_k ?_
                  refine g_iload h dX11_feed_86 rfl ?_
                  refine g_bipush (v := nI 24) h dX11_feed_88 (by decide) ?_
                  refine g_bipush (v := nI 8) h dX11_feed_90 (by decide) ?_
                  refine g_iload h dX11_feed_92 rfl ?_
                  refine g_iconst (v := nI 4) h dX11_feed_94 (by decide) ?_
                  refine g_irem h dX11_feed_95 (by decide) ?_
                  refine g_top (y := nI (k % 4)) (pk_rem (by omega) (by omega) (by omega)) ?_
                  refine g_imul h dX11_feed_96 ?_
                  refine g_isub h dX11_feed_97 ?_
                  refine g_top (y := shK (k % 4)) (sh_k4 _ (Nat.mod_lt _ (by omega))) ?_
                  refine g_iushr h dX11_feed_98 ?_
                  refine g_sipush (v := nI 255) h dX11_feed_99 (by decide) ?_
                  refine g_iand h dX11_feed_102 ?_
                  refine g_top (y := (fdB a b c d e) k) (show _ = byI (if k < 4 then a else if k < 8 then b else if k < 12 then c else if k < 16 then d else e) (k % 4) by rw [if_neg (by omega), if_neg (by omega), if_neg (by omega), if_neg (by omega)]; rfl) ?_
                  refine g_iast h _ _ _ sh_183 (by decide) (by decide) rfl (by omega) dX11_feed_103 ?_
                  refine g_aload_n h dX11_feed_104 rfl rfl ?_
                  refine g_dup h dX11_feed_105 rfl ?_
                  refine g_getI h fl_X11_91_10 sh_178 (by decide) rfl dX11_feed_106 ?_
                  refine g_top (y := nI (tl + k)) ((congrFun (su_cell _ _ (by decide)) _).trans su_k) ?_
                  refine g_iconst (v := nI 1) h dX11_feed_109 (by decide) ?_
                  refine g_iadd h dX11_feed_110 ?_
                  refine g_top (y := nI (tl + (k + 1))) (nI_1 _) ?_
                  refine g_putI h pfl_X11_91_10 sh_178 (by decide) rfl dX11_feed_111 ?_
                  refine g_iinc (v := nI (k + 1)) (ls' := [(0, _), (1, _), (2, _), (3, _), (4, _), (5, _), (6, _), (7, _)]) h dX11_feed_114 rfl (nI_1 k) (by decide) rfl rfl ?_
                  refine g_goto (tgt := 23) h dX11_feed_117 (by decide) ?_
                  refine g_del 7 (ls' := [(0, _), (1, _), (2, _), (3, _), (4, _), (5, _), (6, _)]) rfl ?_
                  exact g_cv rfl (by rw [fd_s]; exact congrArg (fun z => su (sc (u0 u) 183 z) 178 8 (nI (tl + (k + 1)))) mo_s) (ih (k + 1) (by omega) (by omega))
                · have n66 := nle_n (by omega) (by omega) (show ¬ nI (16) ≤ nI (k) from c66)
                  refine g_iload h dX11_feed_69 rfl ?_
                  refine g_goto (tgt := 76) h dX11_feed_71 (by decide) ?_
                  refine g_istore (ls' := [(0, _), (1, _), (2, _), (3, _), (4, _), (5, _), (6, _), (7, _)]) h dX11_feed_76 (by decide) rfl rfl ?_
                  refine g_aload_n h dX11_feed_78 rfl rfl ?_
                  refine g_getR h fl_X11_22_10 sh_178 (by decide) rfl dX11_feed_79 ?_
                  refine g_aload_n h dX11_feed_82 rfl rfl ?_
                  refine g_getI h fl_X11_91_10 sh_178 (by decide) rfl dX11_feed_83 ?_
                  refine g_top (y := nI (tl + k)) su_k ?_
                  refine g_iload h dX11_feed_86 rfl ?_
                  refine g_bipush (v := nI 24) h dX11_feed_88 (by decide) ?_
                  refine g_bipush (v := nI 8) h dX11_feed_90 (by decide) ?_
                  refine g_iload h dX11_feed_92 rfl ?_
                  refine g_iconst (v := nI 4) h dX11_feed_94 (by decide) ?_
                  refine g_irem h dX11_feed_95 (by decide) ?_
                  refine g_top (y := nI (k % 4)) (pk_rem (by omega) (by omega) (by omega)) ?_
                  refine g_imul h dX11_feed_96 ?_
                  refine g_isub h dX11_feed_97 ?_
                  refine g_top (y := shK (k % 4)) (sh_k4 _ (Nat.mod_lt _ (by omega))) ?_
                  refine g_iushr h dX11_feed_98 ?_
                  refine g_sipush (v := nI 255) h dX11_feed_99 (by decide) ?_
                  refine g_iand h dX11_feed_102 ?_
                  refine g_top (y := (fdB a b c d e) k) (show _ = byI (if k < 4 then a else if k < 8 then b else if k < 12 then c else if k < 16 then d else e) (k % 4) by rw [if_neg (by omega), if_neg (by omega), if_neg (by omega), if_pos n66]; rfl) ?_
                  refine g_iast h _ _ _ sh_183 (by decide) (by decide) rfl (by omega) dX11_feed_103 ?_
                  refine g_aload_n h dX11_feed_104 rfl rfl ?_
                  refine g_dup h dX11_feed_105 rfl ?_
                  refine g_getI h fl_X11_91_10 sh_178 (by decide) rfl dX11_feed_106 ?_
                  refine g_top (y := nI (tl + k)) ((congrFun (su_cell _ _ (by decide)) _).trans su_k) ?_
                  refine g_iconst (v := nI 1) h dX11_feed_109 (by decide) ?_
                  refine g_iadd h dX11_feed_110 ?_
                  refine g_top (y := nI (tl + (k + 1))) (nI_1 _) ?_
                  refine g_putI h pfl_X11_91_10 sh_178 (by decide) rfl dX11_feed_111 ?_
                  refine g_iinc (v := nI (k + 1)) (ls' := [(0, _), (1, _), (2, _), (3, _), (4, _), (5, _), (6, _), (7, _)]) h dX11_feed_114 rfl (nI_1 k) (by decide) rfl rfl ?_
                  refine g_goto (tgt := 23) h dX11_feed_117 (by decide) ?_
                  refine g_del 7 (ls' := [(0, _), (1, _), (2, _), (3, _), (4, _), (5, _), (6, _)]) rfl ?_
                  exact g_cv rfl (by rw [fd_s]; exact congrArg (fun z => su (sc (u0 u) 183 z) 178 8 (nI (tl + (k + 1)))) mo_s) (ih (k + 1) (by omega) (by omega))
              · have n55 := nle_n (by omega) (by omega) (show ¬ nI (12) ≤ nI (k) from c55)
                refine g_iload_n h dX11_feed_58 rfl rfl ?_
                refine g_goto (tgt := 76) h dX11_feed_59 (by decide) ?_
                refine g_istore (ls' := [(0, _), (1, _), (2, _), (3, _), (4, _), (5, _), (6, _), (7, _)]) h dX11_feed_76 (by decide) rfl rfl ?_
                refine g_aload_n h dX11_feed_78 rfl rfl ?_
                refine g_getR h fl_X11_22_10 sh_178 (by decide) rfl dX11_feed_79 ?_
                refine g_aload_n h dX11_feed_82 rfl rfl ?_
                refine g_getI h fl_X11_91_10 sh_178 (by decide) rfl dX11_feed_83 ?_
                refine g_top (y := nI (tl + k)) su_k ?_
                refine g_iload h dX11_feed_86 rfl ?_
                refine g_bipush (v := nI 24) h dX11_feed_88 (by decide) ?_
                refine g_bipush (v := nI 8) h dX11_feed_90 (by decide) ?_
                refine g_iload h dX11_feed_92 rfl ?_
                refine g_iconst (v := nI 4) h dX11_feed_94 (by decide) ?_
                refine g_irem h dX11_feed_95 (by decide) ?_
                refine g_top (y := nI (k % 4)) (pk_rem (by omega) (by omega) (by omega)) ?_
                refine g_imul h dX11_feed_96 ?_
                refine g_isub h dX11_feed_97 ?_
                refine g_top (y := shK (k % 4)) (sh_k4 _ (Nat.mod_lt _ (by omega))) ?_
                refine g_iushr h dX11_feed_98 ?_
                refine g_sipush (v := nI 255) h dX11_feed_99 (by decide) ?_
                refine g_iand h dX11_feed_102 ?_
                refine g_top (y := (fdB a b c d e) k) (show _ = byI (if k < 4 then a else if k < 8 then b else if k < 12 then c else if k < 16 then d else e) (k % 4) by rw [if_neg (by omega), if_neg (by omega), if_pos n55]; rfl) ?_
                refine g_iast h _ _ _ sh_183 (by decide) (by decide) rfl (by omega) dX11_feed_103 ?_
                refine g_aload_n h dX11_feed_104 rfl rfl ?_
                refine g_dup h dX11_feed_105 rfl ?_
                refine g_getI h fl_X11_91_10 sh_178 (by decide) rfl dX11_feed_106 ?_
                refine g_top (y := nI (tl + k)) ((congrFun (su_cell _ _ (by decide)) _).trans su_k) ?_
                refine g_iconst (v := nI 1) h dX11_feed_109 (by decide) ?_
                refine g_iadd h dX11_feed_110 ?_
                refine g_top (y := nI (tl + (k + 1))) (nI_1 _) ?_
                refine g_putI h pfl_X11_91_10 sh_178 (by decide) rfl dX11_feed_111 ?_
                refine g_iinc (v := nI (k + 1)) (ls' := [(0, _), (1, _), (2, _), (3, _), (4, _), (5, _), (6, _), (7, _)]) h dX11_feed_114 rfl (nI_1 k) (by decide) rfl rfl ?_
                refine g_goto (tgt := 23) h dX11_feed_117 (by decide) ?_
                refine g_del 7 (ls' := [(0, _), (1, _), (2, _), (3, _), (4, _), (5, _), (6, _)]) rfl ?_
                exact g_cv rfl (by rw [fd_s]; exact congrArg (fun z => su (sc (u0 u) 183 z) 178 8 (nI (tl + (k + 1)))) mo_s) (ih (k + 1) (by omega) (by omega))
            · have n44 := nle_n (by omega) (by omega) (show ¬ nI (8) ≤ nI (k) from c44)
              refine g_iload_n h dX11_feed_47 rfl rfl ?_
              refine g_goto (tgt := 76) h dX11_feed_48 (by decide) ?_
              refine g_istore (ls' := [(0, _), (1, _), (2, _), (3, _), (4, _), (5, _), (6, _), (7, _)]) h dX11_feed_76 (by decide) rfl rfl ?_
              refine g_aload_n h dX11_feed_78 rfl rfl ?_
              refine g_getR h fl_X11_22_10 sh_178 (by decide) rfl dX11_feed_79 ?_
              refine g_aload_n h dX11_feed_82 rfl rfl ?_
              refine g_getI h fl_X11_91_10 sh_178 (by decide) rfl dX11_feed_83 ?_
              refine g_top (y := nI (tl + k)) su_k ?_
              refine g_iload h dX11_feed_86 rfl ?_
              refine g_bipush (v := nI 24) h dX11_feed_88 (by decide) ?_
              refine g_bipush (v := nI 8) h dX11_feed_90 (by decide) ?_
              refine g_iload h dX11_feed_92 rfl ?_
              refine g_iconst (v := nI 4) h dX11_feed_94 (by decide) ?_
              refine g_irem h dX11_feed_95 (by decide) ?_
              refine g_top (y := nI (k % 4)) (pk_rem (by omega) (by omega) (by omega)) ?_
              refine g_imul h dX11_feed_96 ?_
              refine g_isub h dX11_feed_97 ?_
              refine g_top (y := shK (k % 4)) (sh_k4 _ (Nat.mod_lt _ (by omega))) ?_
              refine g_iushr h dX11_feed_98 ?_
              refine g_sipush (v := nI 255) h dX11_feed_99 (by decide) ?_
              refine g_iand h dX11_feed_102 ?_
              refine g_top (y := (fdB a b c d e) k) (show _ = byI (if k < 4 then a else if k < 8 then b else if k < 12 then c else if k < 16 then d else e) (k % 4) by rw [if_neg (by omega), if_pos n44]; rfl) ?_
              refine g_iast h _ _ _ sh_183 (by decide) (by decide) rfl (by omega) dX11_feed_103 ?_
              refine g_aload_n h dX11_feed_104 rfl rfl ?_
              refine g_dup h dX11_feed_105 rfl ?_
              refine g_getI h fl_X11_91_10 sh_178 (by decide) rfl dX11_feed_106 ?_
              refine g_top (y := nI (tl + k)) ((congrFun (su_cell _ _ (by decide)) _).trans su_k) ?_
              refine g_iconst (v := nI 1) h dX11_feed_109 (by decide) ?_
              refine g_iadd h dX11_feed_110 ?_
              refine g_top (y := nI (tl + (k + 1))) (nI_1 _) ?_
              refine g_putI h pfl_X11_91_10 sh_178 (by decide) rfl dX11_feed_111 ?_
              refine g_iinc (v := nI (k + 1)) (ls' := [(0, _), (1, _), (2, _), (3, _), (4, _), (5, _), (6, _), (7, _)]) h dX11_feed_114 rfl (nI_1 k) (by decide) rfl rfl ?_
              refine g_goto (tgt := 23) h dX11_feed_117 (by decide) ?_
              refine g_del 7 (ls' := [(0, _), (1, _), (2, _), (3, _), (4, _), (5, _), (6, _)]) rfl ?_
              exact g_cv rfl (by rw [fd_s]; exact congrArg (fun z => su (sc (u0 u) 183 z) 178 8 (nI (tl + (k + 1)))) mo_s) (ih (k + 1) (by omega) (by omega))
          · have n33 := nle_n (by omega) (by omega) (show ¬ nI (4) ≤ nI (k) from c33)
            refine g_iload_n h dX11_feed_36 rfl rfl ?_
            refine g_goto (tgt := 76) h dX11_feed_37 (by decide) ?_
            refine g_istore (ls' := [(0, _), (1, _), (2, _), (3, _), (4, _), (5, _), (6, _), (7, _)]) h dX11_feed_76 (by decide) rfl rfl ?_
            refine g_aload_n h dX11_feed_78 rfl rfl ?_
            refine g_getR h fl_X11_22_10 sh_178 (by decide) rfl dX11_feed_79 ?_
            refine g_aload_n h dX11_feed_82 rfl rfl ?_
            refine g_getI h fl_X11_91_10 sh_178 (by decide) rfl dX11_feed_83 ?_
            refine g_top (y := nI (tl + k)) su_k ?_
            refine g_iload h dX11_feed_86 rfl ?_
            refine g_bipush (v := nI 24) h dX11_feed_88 (by decide) ?_
            refine g_bipush (v := nI 8) h dX11_feed_90 (by decide) ?_
            refine g_iload h dX11_feed_92 rfl ?_
            refine g_iconst (v := nI 4) h dX11_feed_94 (by decide) ?_
            refine g_irem h dX11_feed_95 (by decide) ?_
            refine g_top (y := nI (k % 4)) (pk_rem (by omega) (by omega) (by omega)) ?_
            refine g_imul h dX11_feed_96 ?_
            refine g_isub h dX11_feed_97 ?_
            refine g_top (y := shK (k % 4)) (sh_k4 _ (Nat.mod_lt _ (by omega))) ?_
            refine g_iushr h dX11_feed_98 ?_
            refine g_sipush (v := nI 255) h dX11_feed_99 (by decide) ?_
            refine g_iand h dX11_feed_102 ?_
            refine g_top (y := (fdB a b c d e) k) (show _ = byI (if k < 4 then a else if k < 8 then b else if k < 12 then c else if k < 16 then d else e) (k % 4) by rw [if_pos n33]; rfl) ?_
            refine g_iast h _ _ _ sh_183 (by decide) (by decide) rfl (by omega) dX11_feed_103 ?_
            refine g_aload_n h dX11_feed_104 rfl rfl ?_
            refine g_dup h dX11_feed_105 rfl ?_
            refine g_getI h fl_X11_91_10 sh_178 (by decide) rfl dX11_feed_106 ?_
            refine g_top (y := nI (tl + k)) ((congrFun (su_cell _ _ (by decide)) _).trans su_k) ?_
            refine g_iconst (v := nI 1) h dX11_feed_109 (by decide) ?_
            refine g_iadd h dX11_feed_110 ?_
            refine g_top (y := nI (tl + (k + 1))) (nI_1 _) ?_
            refine g_putI h pfl_X11_91_10 sh_178 (by decide) rfl dX11_feed_111 ?_
            refine g_iinc (v := nI (k + 1)) (ls' := [(0, _), (1, _), (2, _), (3, _), (4, _), (5, _), (6, _), (7, _)]) h dX11_feed_114 rfl (nI_1 k) (by decide) rfl rfl ?_
            refine g_goto (tgt := 23) h dX11_feed_117 (by decide) ?_
            refine g_del 7 (ls' := [(0, _), (1, _), (2, _), (3, _), (4, _), (5, _), (6, _)]) rfl ?_
            exact g_cv rfl (by rw [fd_s]; exact congrArg (fun z => su (sc (u0 u) 183 z) 178 8 (nI (tl + (k + 1)))) mo_s) (ih (k + 1) (by omega) (by omega))
    refine g_aload_n h dX11_feed_0 rfl rfl ?_
    refine g_iconst (v := nI 0) h dX11_feed_1 (by decide) ?_
    refine g_putI h pfl_X11_69_10 sh_178 (by decide) rfl dX11_feed_2 ?_
    refine g_aload_n h dX11_feed_5 rfl rfl ?_
    refine g_getI h fl_X11_91_10 sh_178 (by decide) rfl dX11_feed_6 ?_
    refine g_top (y := nI tl) ((su_i (by decide)).trans hx) ?_
    refine g_bipush (v := nI 20) h dX11_feed_9 (by decide) ?_
    refine g_iadd h dX11_feed_11 ?_
    refine g_top (nI_add _ _) ?_
    refine g_sipush (v := nI 400) h dX11_feed_12 (by decide) ?_
    refine g_icmp_le (tgt := 20) h dX11_feed_15 (by decide) (fun c15 => ?_) (fun c15 => ?_)
    · have n15 := le_n (by omega) (by omega) (show nI (tl + 20) ≤ nI (400) from c15)
      refine g_iconst (v := nI 0) h dX11_feed_20 (by decide) ?_
      refine g_istore (ls' := [(0, _), (1, _), (2, _), (3, _), (4, _), (5, _), (6, _)]) h dX11_feed_21 (by decide) rfl rfl ?_
      refine g_cv rfl (show _ = su (sc (u0 u) 183 (mvO (u 183) (fdB a b c d e) tl 0)) 178 8 (nI (tl + 0)) by rw [mo_0, Nat.add_zero, show u 183 = u0 u 183 from (u0_c (by decide)).symm]; exact (fd_0 (by rw [su_i (by decide)]; exact hx)).symm) ?_
      exact LP (20 + 1) 0 (by omega) (by omega)
    · have n15 := nle_n (by omega) (by omega) (show ¬ nI (tl + 20) ≤ nI (400) from c15)
      omega
  · skip
    refine g_aload_n h dX11_feed_0 rfl rfl ?_
    refine g_iconst (v := nI 0) h dX11_feed_1 (by decide) ?_
    refine g_putI h pfl_X11_69_10 sh_178 (by decide) rfl dX11_feed_2 ?_
    refine g_aload_n h dX11_feed_5 rfl rfl ?_
    refine g_getI h fl_X11_91_10 sh_178 (by decide) rfl dX11_feed_6 ?_
    refine g_top (y := nI tl) ((su_i (by decide)).trans hx) ?_
    refine g_bipush (v := nI 20) h dX11_feed_9 (by decide) ?_
    refine g_iadd h dX11_feed_11 ?_
    refine g_top (nI_add _ _) ?_
    refine g_sipush (v := nI 400) h dX11_feed_12 (by decide) ?_
    refine g_icmp_le (tgt := 20) h dX11_feed_15 (by decide) (fun c15 => ?_) (fun c15 => ?_)
    · have n15 := le_n (by omega) (by omega) (show nI (tl + 20) ≤ nI (400) from c15)
      omega
    · have n15 := nle_n (by omega) (by omega) (show ¬ nI (tl + 20) ≤ nI (400) from c15)
      refine g_iconst (v := -1) h dX11_feed_18 (by decide) ?_
      exact g_iret h hrt dX11_feed_19 (by omega) (by rw [if_neg (by omega)]) (if_neg (by omega))
