-- after: 9f.oj
theorem J_sb {v : Sto} {g : Nat → Int32} {T W r a o wk : Nat} (hJ : J v g T W) (hw : v 3 9 = nI wk) (hwk : wk < 2 ^ 17) (hr : r < 168) (ha : a < T) (ho : o < T) (hm : v 13 a = -1) (eo : v 4 r = nI o) (hne : ¬ o = a) (x kp : Int32) (ek : kp = mnI x (nI 9999 - v 7 o)) :
    J (sbS v r a o x) (wrF (hsF (upd (upd (upd g (16 + 4 * a) (v 7 a - x)) (16 + 4 * o) (v 7 o + kp)) 6 (v 3 8 + (x - kp))) r (nI o) (nI a)) (nI r) (nI a) (nI 1)) T W := by
  have hT := hJ.r.hT
  subst ek
  have h1 := J_coin hJ a ha (v 7 a - x)
  have h2 := J_coin h1 o ho (v 7 o + mnI x (nI 9999 - v 7 o))
  have h3 := J_till h2 (v 3 8 + (x - mnI x (nI 9999 - v 7 o)))
  have e4 : su (su (su v 7 a (v 7 a - x)) 7 o (v 7 o + mnI x (nI 9999 - v 7 o))) 3 8 (v 3 8 + (x - mnI x (nI 9999 - v 7 o))) 4 = v 4 := by rw [su_cell _ _ (by decide), su_cell _ _ (by decide), su_cell _ _ (by decide)]
  have h4 := J_sub h3 hr ha (by rw [su_cell _ _ (by decide), su_cell _ _ (by decide), su_cell _ _ (by decide)]; exact hm) (by rw [e4, eo]; exact nI_m1 (by omega)) (by rw [e4, eo]; exact fun z => hne (eq_n (by omega) (by omega) z))
  rw [e4, eo] at h4
  have h5 := J_en (h := 1) h4 (by rw [su_cell _ _ (by decide), su_i (by decide), su_cell _ _ (by decide), su_cell _ _ (by decide)]; exact hw) hwk hr ha (by decide)
  have es : sbS v r a o x = enT (su (su (su (su v 7 a (v 7 a - x)) 7 o (v 7 o + mnI x (nI 9999 - v 7 o))) 3 8 (v 3 8 + (x - mnI x (nI 9999 - v 7 o)))) 5 r (nI a)) 3 (nI r) (nI a) (nI 1) := by
    unfold sbS
    show enT (su (su (su (su v 7 a (v 7 a - x)) 7 o (su v 7 a (v 7 a - x) 7 o + mnI x (nI 9999 - v 7 o))) 3 8 (su (su v 7 a (v 7 a - x)) 7 o (su v 7 a (v 7 a - x) 7 o + mnI x (nI 9999 - v 7 o)) 3 8 + (x - mnI x (nI 9999 - v 7 o)))) 5 r (nI a)) 3 (nI r) (nI a) (nI 1) = _
    rw [su_i hne, su_cell _ _ (by decide), su_cell _ _ (by decide)]
  rw [es]; exact h5
theorem ot_lt {r : Nat} (h : r < 168) : otR r < 168 := by unfold otR; omega
set_option maxHeartbeats 1000000 in
theorem c_X11_sublet {E : EE} (v : Sto) (T W pf pc wk : Nat) (hpc : pc ≤ 12) (hwk : wk < 2 ^ 17) (y x z : Int32) (u : Sto) (hJ : J v (u 179) T W) (hA : u 178 6 = nI pc) (hW : v 3 9 = nI wk) : CtP E 35 0 yX11_sublet cX11_sublet 6 (some .int) [.ref (E.ad 178), .int y, .int x, .int z] u (PMa (cdL [ioob, iae, ise]) (sblR v pf pc y x z) u pc T W) := by
  have hK : LK v u T W := hJ.k
  have hT := hK.hT
  have hJ0 : J (rmS v pf pc) (u 179) T W := J_v hJ vim_rm
  have hW0 : rmS v pf pc 3 9 = nI wk := by rw [rmS_c (by decide) (by omega)]; exact hW
  refine ctp_of (by decide) (Nat.le_of_ble_eq_true rfl) (fun X h hR hrt htab hargs => ?_)
  refine g_aload_n h dX11_sublet_0 rfl rfl ?_
  refine g_iload_n h dX11_sublet_1 rfl rfl ?_
  refine g_S h ls_X11_289 (c_X11_isRoom y u) (fitR hR (by first | decide | omega) (by decide) (by omega)) rfl rfl (Nat.le_of_ble_eq_true rfl) dX11_sublet_2 ?_
  by_cases n2 : okR y
  · refine g_top (b2_t n2) ?_
    obtain ⟨r, hr, ir, rfl⟩ := okR_n n2
    refine g_if_eq (tgt := 16) h dX11_sublet_5 (by decide) (fun q => absurd q (by decide)) (fun _ => ?_)
    refine g_aload_n h dX11_sublet_8 rfl rfl ?_
    refine g_iload_n h dX11_sublet_9 rfl rfl ?_
    refine g_V h lv_X11_277_X11 sh_178 (by decide) rfl (c_X11_isTenant x v T W u hK.r) (fitR hR (by first | decide | omega) (by decide) (by omega)) rfl rfl (Nat.le_of_ble_eq_true rfl) dX11_sublet_10 ?_
    by_cases n10 : okT v x
    · refine g_top (b2_t n10) ?_
      obtain ⟨a, ha, ha9, ia, rfl⟩ := okT_n hK.hT hK.r.vt n10
      refine g_if_ne (tgt := 20) h dX11_sublet_13 (by decide) (fun _ => ?_) (fun q => absurd q (by decide))
      refine g_iload_n h dX11_sublet_20 rfl rfl ?_
      refine g_iconst (v := nI 0) h dX11_sublet_21 (by decide) ?_
      refine g_sipush (v := nI 999) h dX11_sublet_22 (by decide) ?_
      refine g_S h ls_X11_72 (c_X11_isIn z (nI 0) (nI 999) u) (fitR hR (by first | decide | omega) (by decide) (by omega)) rfl rfl (Nat.le_of_ble_eq_true rfl) dX11_sublet_25 ?_
      by_cases n25 : okN z (nI 0) (nI 999)
      · refine g_top (b2_t n25) ?_
        refine g_if_ne (tgt := 35) h dX11_sublet_28 (by decide) (fun _ => ?_) (fun q => absurd q (by decide))
        refine g_aload_n h dX11_sublet_35 rfl rfl ?_
        refine g_iload_n h dX11_sublet_36 rfl rfl ?_
        refine g_iload_n h dX11_sublet_37 rfl rfl ?_
        refine g_iload_n h dX11_sublet_38 rfl rfl ?_
        refine g_VP h lv_X11_317_X11 sh_178 (by decide) rfl (c_X11_maySublet v T W r a hr ha z u hK hJ.ti) ps_nx (fitR hR (by first | decide | omega) (by decide) (by omega)) rfl rfl (Nat.le_of_ble_eq_true rfl) dX11_sublet_39 (fun v39 u39 hs39 => ?_)
        obtain ⟨hv39, hs39⟩ := hs39
        cases hv39
        by_cases n39 : msP v r a z
        · refine g_top (b2_t n39) ?_
          refine g_if_ne (tgt := 49) h dX11_sublet_42 (by decide) (fun _ => ?_) (fun q => absurd q (by decide))
          refine g_iconst (v := nI 0) h dX11_sublet_49 (by decide) ?_
          refine g_putI h pfl_X11_69_10 sh_178 (by decide) rfl dX11_sublet_50 ?_
          refine g_aload_n h dX11_sublet_53 rfl rfl ?_
          refine g_getI h fl_X11_69_10 sh_178 (by decide) rfl dX11_sublet_54 ?_
          refine g_top su_k ?_
          refine g_if_le (tgt := 62) h dX11_sublet_57 (by decide) (fun _ => ?_) (fun q => absurd q (by decide))
          refine g_aload_n h dX11_sublet_62 rfl rfl ?_
          refine g_V h lv_X11_305_X11 sh_178 (by decide) rfl (c_X11_remembers pc hpc _ (rm_6 hs39 hA)) (fitR hR (by first | decide | omega) (by decide) (by omega)) rfl rfl (Nat.le_of_ble_eq_true rfl) dX11_sublet_63 ?_
          refine g_aload_n h dX11_sublet_66 rfl rfl ?_
          refine g_iload_n h dX11_sublet_67 rfl rfl ?_
          refine g_iconst (v := nI 0) h dX11_sublet_68 (by decide) ?_
          refine g_V h lv_X11_84_X11 sh_178 (by decide) rfl (c_X11_ofRoom r 0 hr (by decide) _) (fitR hR (by first | decide | omega) (by decide) (by omega)) rfl rfl (Nat.le_of_ble_eq_true rfl) dX11_sublet_69 ?_
          obtain ⟨o, ho, eo, -⟩ := (hJ.ti.own r hr).resolve_left n39.1
          have eo : v 4 r = nI o := eo
          have hne : ¬ o = a := fun q => n39.2.2.1 (by rw [eo, q])
          refine g_top (y := nI o) (((k9_K (rm_k (pc := pc) hs39) hK rfl).own hr).trans eo) ?_
          refine g_istore (ls' := [(0, _), (1, _), (2, _), (3, _), (4, _)]) h dX11_sublet_72 (by decide) rfl rfl ?_
          refine g_iload_n h dX11_sublet_74 rfl rfl ?_
          refine g_sipush (v := nI 9999) h dX11_sublet_75 (by decide) ?_
          refine g_aload_n h dX11_sublet_78 rfl rfl ?_
          refine g_iload h dX11_sublet_79 rfl ?_
          refine g_iconst (v := nI 0) h dX11_sublet_81 (by decide) ?_
          refine g_V h lv_X11_76_X11 sh_178 (by decide) rfl (c_X11_of o 0 (by omega) (by decide) _) (fitR hR (by first | decide | omega) (by decide) (by omega)) rfl rfl (Nat.le_of_ble_eq_true rfl) dX11_sublet_82 ?_
          refine g_top ((k9_K (rm_k (pc := pc) hs39) hK rfl).con ho) ?_
          refine g_isub h dX11_sublet_85 ?_
          refine g_S h ls_X11_292 (c_X11_lesser _ _ _) (fitR hR (by first | decide | omega) (by decide) (by omega)) rfl rfl (Nat.le_of_ble_eq_true rfl) dX11_sublet_86 ?_
          refine g_istore (ls' := [(0, _), (1, _), (2, _), (3, _), (4, _), (5, _)]) h dX11_sublet_89 (by decide) rfl rfl ?_
          refine g_aload_n h dX11_sublet_91 rfl rfl ?_
          refine g_getR h fl_X11_7_10 sh_178 (by decide) rfl dX11_sublet_92 ?_
          refine g_bipush (v := nI 16) h dX11_sublet_95 (by decide) ?_
          refine g_iconst (v := nI 4) h dX11_sublet_97 (by decide) ?_
          refine g_iload_n h dX11_sublet_98 rfl rfl ?_
          refine g_imul h dX11_sublet_99 ?_
          refine g_iadd h dX11_sublet_100 ?_
          refine g_iconst (v := nI 0) h dX11_sublet_101 (by decide) ?_
          refine g_iadd h dX11_sublet_102 ?_
          refine g_top (y := nI (16 + 4 * a)) (ix16 (w := 0) (by omega) (by omega)) ?_
          refine g_dup2 h dX11_sublet_103 rfl rfl ?_
          refine g_iald h _ _ _ sh_179 (by decide) (by decide) rfl (by omega) dX11_sublet_104 ?_
          refine g_top (y := v 7 a) ((k9_K (rm_k (pc := pc) hs39) hK rfl).con ha) ?_
          refine g_iload_n h dX11_sublet_105 rfl rfl ?_
          refine g_isub h dX11_sublet_106 ?_
          refine g_iast h _ _ _ sh_179 (by decide) (by decide) rfl (by omega) dX11_sublet_107 ?_
          refine g_aload_n h dX11_sublet_108 rfl rfl ?_
          refine g_getR h fl_X11_7_10 sh_178 (by decide) rfl dX11_sublet_109 ?_
          refine g_bipush (v := nI 16) h dX11_sublet_112 (by decide) ?_
          refine g_iconst (v := nI 4) h dX11_sublet_114 (by decide) ?_
          refine g_iload h dX11_sublet_115 rfl ?_
          refine g_imul h dX11_sublet_117 ?_
          refine g_iadd h dX11_sublet_118 ?_
          refine g_iconst (v := nI 0) h dX11_sublet_119 (by decide) ?_
          refine g_iadd h dX11_sublet_120 ?_
          refine g_top (y := nI (16 + 4 * o)) (ix16 (w := 0) (by omega) (by omega)) ?_
          refine g_dup2 h dX11_sublet_121 rfl rfl ?_
          refine g_iald h _ _ _ sh_179 (by decide) (by decide) rfl (by omega) dX11_sublet_122 ?_
          refine g_top (y := v 7 o) ((su_i (by omega)).trans ((k9_K (rm_k (pc := pc) hs39) hK rfl).con ho)) ?_
          refine g_iload h dX11_sublet_123 rfl ?_
          refine g_iadd h dX11_sublet_125 ?_
          refine g_iast h _ _ _ sh_179 (by decide) (by decide) rfl (by omega) dX11_sublet_126 ?_
          refine g_aload_n h dX11_sublet_127 rfl rfl ?_
          refine g_getR h fl_X11_7_10 sh_178 (by decide) rfl dX11_sublet_128 ?_
          refine g_bipush (v := nI 6) h dX11_sublet_131 (by decide) ?_
          refine g_dup2 h dX11_sublet_133 rfl rfl ?_
          refine g_iald h _ _ _ sh_179 (by decide) (by decide) rfl (by omega) dX11_sublet_134 ?_
          refine g_top (y := v 3 8) ((su_i (by omega)).trans ((su_i (by omega)).trans (k9_K (rm_k (pc := pc) hs39) hK rfl).t.tl)) ?_
          refine g_iload_n h dX11_sublet_135 rfl rfl ?_
          refine g_iload h dX11_sublet_136 rfl ?_
          refine g_isub h dX11_sublet_138 ?_
          refine g_iadd h dX11_sublet_139 ?_
          refine g_iast h _ _ _ sh_179 (by decide) (by decide) rfl (by omega) dX11_sublet_140 ?_
          refine g_aload_n h dX11_sublet_141 rfl rfl ?_
          refine g_iload_n h dX11_sublet_142 rfl rfl ?_
          refine g_iload h dX11_sublet_143 rfl ?_
          refine g_iload_n h dX11_sublet_145 rfl rfl ?_
          refine g_V h lv_X11_149_X11 sh_178 (by decide) rfl (c_X11_has r hr _ _ _) (fitR hR (by first | decide | omega) (by decide) (by omega)) rfl rfl (Nat.le_of_ble_eq_true rfl) dX11_sublet_146 ?_
          refine g_aload_n h dX11_sublet_149 rfl rfl ?_
          refine g_iload_n h dX11_sublet_150 rfl rfl ?_
          refine g_iload_n h dX11_sublet_151 rfl rfl ?_
          refine g_iconst (v := nI 1) h dX11_sublet_152 (by decide) ?_
          refine g_V h lv_X11_298_X11 sh_178 (by decide) rfl (c_X11_writes _ _ _ _) (fitR hR (by first | decide | omega) (by decide) (by omega)) rfl rfl (Nat.le_of_ble_eq_true rfl) dX11_sublet_153 ?_
          refine g_iload h dX11_sublet_156 rfl ?_
          exact g_iretP h hrt dX11_sublet_158 (by omega) (pa_k (by rw [sblR, if_pos n2, ir, if_pos n10, ia, if_pos n25, if_pos n39]) eo (by rw [eo, ix_nI (by omega)]; have h9 := J_sb hJ0 hW0 hwk hr ha ho (by rw [rmS_c (by decide) (by omega)]; exact n39.2.2.2.1) (by rw [rmS_c (by decide) (by omega)]; exact eo) hne z _ rfl; rw [rmS_c (u := v) (k := 7) (by decide) (by omega), rmS_c (u := v) (k := 3) (by decide) (by omega)] at h9; exact h9) (fun j hj => by rw [wr_g hj, hs_g hr hj, up_g (by decide) hj, up_g (tn_t (by omega)) hj, up_g (tn_t (by omega)) hj]) (k9_wr (k9_has (k9_su (k9_su (k9_su (rm_k hs39) _ _) _ _) _ _) _ _ _) _ _ _))
        · refine g_top (b2_f n39) ?_
          refine g_if_ne (tgt := 49) h dX11_sublet_42 (by decide) (fun q => absurd q (by decide)) (fun _ => ?_)
          refine g_iconst (v := nI 3) h dX11_sublet_45 (by decide) ?_
          refine g_goto (tgt := 50) h dX11_sublet_46 (by decide) ?_
          refine g_putI h pfl_X11_69_10 sh_178 (by decide) rfl dX11_sublet_50 ?_
          refine g_aload_n h dX11_sublet_53 rfl rfl ?_
          refine g_getI h fl_X11_69_10 sh_178 (by decide) rfl dX11_sublet_54 ?_
          refine g_top su_k ?_
          refine g_if_le (tgt := 62) h dX11_sublet_57 (by decide) (fun q => absurd q (by decide)) (fun _ => ?_)
          refine g_iconst (v := nI 0) h dX11_sublet_60 (by decide) ?_
          exact g_iretP h hrt dX11_sublet_61 (by omega) (by first | exact pa_x (Ex := ioob) (by rw [sblR, if_pos n2, ir, if_pos n10, ia, if_pos n25, if_neg n39]) (by decide) (sim.refl _) | exact pa_x (Ex := ioob) (by rw [sblR, if_pos n2, ir, if_pos n10, ia, if_pos n25, if_neg n39]) (by decide) (sim_su hs39 _ _ _) | exact pa_x (Ex := iae) (by rw [sblR, if_pos n2, ir, if_pos n10, ia, if_pos n25, if_neg n39]) (by decide) (sim.refl _) | exact pa_x (Ex := iae) (by rw [sblR, if_pos n2, ir, if_pos n10, ia, if_pos n25, if_neg n39]) (by decide) (sim_su hs39 _ _ _) | exact pa_x (Ex := ise) (by rw [sblR, if_pos n2, ir, if_pos n10, ia, if_pos n25, if_neg n39]) (by decide) (sim.refl _) | exact pa_x (Ex := ise) (by rw [sblR, if_pos n2, ir, if_pos n10, ia, if_pos n25, if_neg n39]) (by decide) (sim_su hs39 _ _ _))
      · refine g_top (b2_f n25) ?_
        refine g_if_ne (tgt := 35) h dX11_sublet_28 (by decide) (fun q => absurd q (by decide)) (fun _ => ?_)
        refine g_iconst (v := nI 2) h dX11_sublet_31 (by decide) ?_
        refine g_goto (tgt := 50) h dX11_sublet_32 (by decide) ?_
        refine g_putI h pfl_X11_69_10 sh_178 (by decide) rfl dX11_sublet_50 ?_
        refine g_aload_n h dX11_sublet_53 rfl rfl ?_
        refine g_getI h fl_X11_69_10 sh_178 (by decide) rfl dX11_sublet_54 ?_
        refine g_top su_k ?_
        refine g_if_le (tgt := 62) h dX11_sublet_57 (by decide) (fun q => absurd q (by decide)) (fun _ => ?_)
        refine g_iconst (v := nI 0) h dX11_sublet_60 (by decide) ?_
        exact g_iretP h hrt dX11_sublet_61 (by omega) (by first | exact pa_x (Ex := ioob) (by rw [sblR, if_pos n2, ir, if_pos n10, ia, if_neg n25]) (by decide) (sim.refl _) | exact pa_x (Ex := ioob) (by rw [sblR, if_pos n2, ir, if_pos n10, ia, if_neg n25]) (by decide) (sim_su hs39 _ _ _) | exact pa_x (Ex := iae) (by rw [sblR, if_pos n2, ir, if_pos n10, ia, if_neg n25]) (by decide) (sim.refl _) | exact pa_x (Ex := iae) (by rw [sblR, if_pos n2, ir, if_pos n10, ia, if_neg n25]) (by decide) (sim_su hs39 _ _ _) | exact pa_x (Ex := ise) (by rw [sblR, if_pos n2, ir, if_pos n10, ia, if_neg n25]) (by decide) (sim.refl _) | exact pa_x (Ex := ise) (by rw [sblR, if_pos n2, ir, if_pos n10, ia, if_neg n25]) (by decide) (sim_su hs39 _ _ _))
    · refine g_top (b2_f n10) ?_
      refine g_if_ne (tgt := 20) h dX11_sublet_13 (by decide) (fun q => absurd q (by decide)) (fun _ => ?_)
      refine g_iconst (v := nI 1) h dX11_sublet_16 (by decide) ?_
      refine g_goto (tgt := 50) h dX11_sublet_17 (by decide) ?_
      refine g_putI h pfl_X11_69_10 sh_178 (by decide) rfl dX11_sublet_50 ?_
      refine g_aload_n h dX11_sublet_53 rfl rfl ?_
      refine g_getI h fl_X11_69_10 sh_178 (by decide) rfl dX11_sublet_54 ?_
      refine g_top su_k ?_
      refine g_if_le (tgt := 62) h dX11_sublet_57 (by decide) (fun q => absurd q (by decide)) (fun _ => ?_)
      refine g_iconst (v := nI 0) h dX11_sublet_60 (by decide) ?_
      exact g_iretP h hrt dX11_sublet_61 (by omega) (by first | exact pa_x (Ex := ioob) (by rw [sblR, if_pos n2, ir, if_neg n10]) (by decide) (sim.refl _) | exact pa_x (Ex := ioob) (by rw [sblR, if_pos n2, ir, if_neg n10]) (by decide) (sim_su hs39 _ _ _) | exact pa_x (Ex := iae) (by rw [sblR, if_pos n2, ir, if_neg n10]) (by decide) (sim.refl _) | exact pa_x (Ex := iae) (by rw [sblR, if_pos n2, ir, if_neg n10]) (by decide) (sim_su hs39 _ _ _) | exact pa_x (Ex := ise) (by rw [sblR, if_pos n2, ir, if_neg n10]) (by decide) (sim.refl _) | exact pa_x (Ex := ise) (by rw [sblR, if_pos n2, ir, if_neg n10]) (by decide) (sim_su hs39 _ _ _))
  · refine g_top (b2_f n2) ?_
    refine g_if_eq (tgt := 16) h dX11_sublet_5 (by decide) (fun _ => ?_) (fun q => absurd q (by decide))
    refine g_iconst (v := nI 1) h dX11_sublet_16 (by decide) ?_
    refine g_goto (tgt := 50) h dX11_sublet_17 (by decide) ?_
    refine g_putI h pfl_X11_69_10 sh_178 (by decide) rfl dX11_sublet_50 ?_
    refine g_aload_n h dX11_sublet_53 rfl rfl ?_
    refine g_getI h fl_X11_69_10 sh_178 (by decide) rfl dX11_sublet_54 ?_
    refine g_top su_k ?_
    refine g_if_le (tgt := 62) h dX11_sublet_57 (by decide) (fun q => absurd q (by decide)) (fun _ => ?_)
    refine g_iconst (v := nI 0) h dX11_sublet_60 (by decide) ?_
    exact g_iretP h hrt dX11_sublet_61 (by omega) (by first | exact pa_x (Ex := ioob) (by rw [sblR, if_neg n2]) (by decide) (sim.refl _) | exact pa_x (Ex := ioob) (by rw [sblR, if_neg n2]) (by decide) (sim_su hs39 _ _ _) | exact pa_x (Ex := iae) (by rw [sblR, if_neg n2]) (by decide) (sim.refl _) | exact pa_x (Ex := iae) (by rw [sblR, if_neg n2]) (by decide) (sim_su hs39 _ _ _) | exact pa_x (Ex := ise) (by rw [sblR, if_neg n2]) (by decide) (sim.refl _) | exact pa_x (Ex := ise) (by rw [sblR, if_neg n2]) (by decide) (sim_su hs39 _ _ _))
set_option maxHeartbeats 1000000 in
theorem c_X11_evict {E : EE} (v : Sto) (T W pf pc wk : Nat) (hpc : pc ≤ 12) (hwk : wk < 2 ^ 17) (y : Int32) (u : Sto) (hJ : J v (u 179) T W) (hA : u 178 6 = nI pc) (hW : v 3 9 = nI wk) : CtP E 35 0 yX11_evict cX11_evict 4 (some .int) [.ref (E.ad 178), .int y] u (PMa (cdL [ioob, ise]) (eviR v pf pc y) u pc T W) := by
  have hK : LK v u T W := hJ.k
  have hT := hK.hT
  have hJ0 : J (rmS v pf pc) (u 179) T W := J_v hJ vim_rm
  have hW0 : rmS v pf pc 3 9 = nI wk := by rw [rmS_c (by decide) (by omega)]; exact hW
  refine ctp_of (by decide) (Nat.le_of_ble_eq_true rfl) (fun X h hR hrt htab hargs => ?_)
  refine g_aload_n h dX11_evict_0 rfl rfl ?_
  refine g_iload_n h dX11_evict_1 rfl rfl ?_
  refine g_S h ls_X11_289 (c_X11_isRoom y u) (fitR hR (by first | decide | omega) (by decide) (by omega)) rfl rfl (Nat.le_of_ble_eq_true rfl) dX11_evict_2 ?_
  by_cases n2 : okR y
  · refine g_top (b2_t n2) ?_
    obtain ⟨r, hr, ir, rfl⟩ := okR_n n2
    refine g_if_ne (tgt := 12) h dX11_evict_5 (by decide) (fun _ => ?_) (fun q => absurd q (by decide))
    refine g_aload_n h dX11_evict_12 rfl rfl ?_
    refine g_iload_n h dX11_evict_13 rfl rfl ?_
    refine g_iconst (v := nI 1) h dX11_evict_14 (by decide) ?_
    refine g_V h lv_X11_84_X11 sh_178 (by decide) rfl (c_X11_ofRoom r 1 hr (by decide) u) (fitR hR (by first | decide | omega) (by decide) (by omega)) rfl rfl (Nat.le_of_ble_eq_true rfl) dX11_evict_15 ?_
    refine g_top (hK.liv hr) ?_
    refine g_iconst (v := -1) h dX11_evict_18 (by decide) ?_
    refine g_icmp_ne (tgt := 26) h dX11_evict_19 (by decide) (fun c19 => ?_) (fun c19 => ?_)
    · refine g_iconst (v := nI 0) h dX11_evict_26 (by decide) ?_
      refine g_putI h pfl_X11_69_10 sh_178 (by decide) rfl dX11_evict_27 ?_
      refine g_aload_n h dX11_evict_30 rfl rfl ?_
      refine g_getI h fl_X11_69_10 sh_178 (by decide) rfl dX11_evict_31 ?_
      refine g_top su_k ?_
      refine g_if_le (tgt := 39) h dX11_evict_34 (by decide) (fun _ => ?_) (fun q => absurd q (by decide))
      refine g_aload_n h dX11_evict_39 rfl rfl ?_
      refine g_V h lv_X11_305_X11 sh_178 (by decide) rfl (c_X11_remembers pc hpc _ (rm_6 (sim.refl u) hA)) (fitR hR (by first | decide | omega) (by decide) (by omega)) rfl rfl (Nat.le_of_ble_eq_true rfl) dX11_evict_40 ?_
      refine g_aload_n h dX11_evict_43 rfl rfl ?_
      refine g_iload_n h dX11_evict_44 rfl rfl ?_
      refine g_iconst (v := nI 0) h dX11_evict_45 (by decide) ?_
      refine g_V h lv_X11_84_X11 sh_178 (by decide) rfl (c_X11_ofRoom r 0 hr (by decide) _) (fitR hR (by first | decide | omega) (by decide) (by omega)) rfl rfl (Nat.le_of_ble_eq_true rfl) dX11_evict_46 ?_
      refine g_top ((k9_K (rm_k (pc := pc) (sim.refl u)) hK rfl).own hr) ?_
      refine g_istore_n (ls' := [(0, _), (1, _), (2, _)]) h dX11_evict_49 rfl (by decide) rfl rfl ?_
      refine g_aload_n h dX11_evict_50 rfl rfl ?_
      refine g_iload_n h dX11_evict_51 rfl rfl ?_
      refine g_V h lv_X11_311_X11 sh_178 (by decide) rfl (c_X11_isSublet r hr v T W _ (k9_K (rm_k (pc := pc) (sim.refl u)) hK rfl).t) (fitR hR (by first | decide | omega) (by decide) (by omega)) rfl rfl (Nat.le_of_ble_eq_true rfl) dX11_evict_52 ?_
      by_cases n52 : v 5 r = -1
      · refine g_top (b2_f (fun q => q ((hJ.ti.sbl hr).mpr n52))) ?_
        obtain ⟨o, ho, eo, eo2⟩ := (hJ.ti.own r hr).resolve_left (fun q => c19 ((hJ.ti.lvn hr).mpr q))
        have eo : v 4 r = nI o := eo
        have hot := ot_lt hr
        refine g_if_eq (tgt := 67) h dX11_evict_55 (by decide) (fun _ => ?_) (fun q => absurd q (by decide))
        refine g_aload_n h dX11_evict_67 rfl rfl ?_
        refine g_iload_n h dX11_evict_68 rfl rfl ?_
        refine g_iconst (v := -1) h dX11_evict_69 (by decide) ?_
        refine g_iconst (v := -1) h dX11_evict_70 (by decide) ?_
        refine g_V h lv_X11_149_X11 sh_178 (by decide) rfl (c_X11_has r hr _ _ _) (fitR hR (by first | decide | omega) (by decide) (by omega)) rfl rfl (Nat.le_of_ble_eq_true rfl) dX11_evict_71 ?_
        refine g_iload_n h dX11_evict_74 rfl rfl ?_
        refine g_iload_n h dX11_evict_75 rfl rfl ?_
        refine g_bipush (v := nI 24) h dX11_evict_76 (by decide) ?_
        refine g_irem h dX11_evict_78 (by decide) ?_
        refine g_top (y := nI (r % 24)) (pk_rem (by omega) (by omega) (by omega)) ?_
        refine g_isub h dX11_evict_79 ?_
        refine g_top (y := nI (r - r % 24)) (pk_sub (by omega)) ?_
        refine g_iconst (v := nI 3) h dX11_evict_80 (by decide) ?_
        refine g_iadd h dX11_evict_81 ?_
        refine g_top (y := nI (otR r)) (nI_add _ _) ?_
        refine g_istore_n (ls' := [(0, _), (1, _), (2, _), (3, _)]) h dX11_evict_82 rfl (by decide) rfl rfl ?_
        refine g_iload_n h dX11_evict_83 rfl rfl ?_
        refine g_iload_n h dX11_evict_84 rfl rfl ?_
        refine g_icmp_eq (tgt := 108) h dX11_evict_85 (by decide) (fun c85 => ?_) (fun c85 => ?_)
        · have hpo : ¬ poP (rmS v pf pc) r := by rw [poP, rmS_c (by decide) (by omega), rmS_c (by decide) (by omega)]; exact fun q => q.1 (eq_n (by omega) (by omega) c85)
          refine g_iconst (v := -1) h dX11_evict_108 (by decide) ?_
          exact g_iretP h hrt dX11_evict_109 (by omega) (pa_k (by rw [eviR, if_pos n2, ir, if_pos c19, if_pos n52, poS, if_neg hpo, poV, if_neg hpo]) rfl (J_free hJ0 hr) (fun j hj => hs_g hr hj) (k9_has (rm_k (pc := pc) (sim.refl u)) r (-1) (-1)))
        · have no85 : ¬ otR r = r := fun q => c85 (by rw [q])
          refine g_aload_n h dX11_evict_88 rfl rfl ?_
          refine g_iload_n h dX11_evict_89 rfl rfl ?_
          refine g_iconst (v := nI 0) h dX11_evict_90 (by decide) ?_
          refine g_V h lv_X11_84_X11 sh_178 (by decide) rfl (c_X11_ofRoom (otR r) 0 hot (by decide) _) (fitR hR (by first | decide | omega) (by decide) (by omega)) rfl rfl (Nat.le_of_ble_eq_true rfl) dX11_evict_91 ?_
          refine g_top (y := v 4 (otR r)) ((congrFun (k9_has (rm_k (pc := pc) (sim.refl u)) r (-1) (-1)).2 _).trans ((hs_n (by omega) (by omega)).trans (hK.own hot))) ?_
          refine g_iconst (v := -1) h dX11_evict_94 (by decide) ?_
          refine g_icmp_ne (tgt := 108) h dX11_evict_95 (by decide) (fun c95 => ?_) (fun c95 => ?_)
          · have hpo : ¬ poP (rmS v pf pc) r := by rw [poP, rmS_c (by decide) (by omega), rmS_c (by decide) (by omega)]; exact fun q => c95 q.2.1
            refine g_iconst (v := -1) h dX11_evict_108 (by decide) ?_
            exact g_iretP h hrt dX11_evict_109 (by omega) (pa_k (by rw [eviR, if_pos n2, ir, if_pos c19, if_pos n52, poS, if_neg hpo, poV, if_neg hpo]) rfl (J_free hJ0 hr) (fun j hj => hs_g hr hj) (k9_has (rm_k (pc := pc) (sim.refl u)) r (-1) (-1)))
          · refine g_aload_n h dX11_evict_98 rfl rfl ?_
            refine g_iload_n h dX11_evict_99 rfl rfl ?_
            refine g_iconst (v := nI 3) h dX11_evict_100 (by decide) ?_
            refine g_V h lv_X11_84_X11 sh_178 (by decide) rfl (c_X11_ofRoom (otR r) 3 hot (by decide) _) (fitR hR (by first | decide | omega) (by decide) (by omega)) rfl rfl (Nat.le_of_ble_eq_true rfl) dX11_evict_101 ?_
            refine g_top (y := v 14 (otR r)) ((congrFun (k9_has (rm_k (pc := pc) (sim.refl u)) r (-1) (-1)).2 _).trans ((hs_n (by omega) (by omega)).trans (hK.sht hot))) ?_
            refine g_iconst (v := nI 1) h dX11_evict_104 (by decide) ?_
            refine g_icmp_ne (tgt := 110) h dX11_evict_105 (by decide) (fun c105 => ?_) (fun c105 => ?_)
            · have hpo : poP (rmS v pf pc) r := by rw [poP, rmS_c (by decide) (by omega), rmS_c (by decide) (by omega)]; exact ⟨no85, c95, (hJ.ri.sht _ hot).resolve_right c105⟩
              refine g_cv (ls2 := [(0, .ref (E.ad 178)), (1, .int (nI r)), (2, .int (nI o)), (3, .int (nI (otR r)))]) (by rw [eo]) rfl ?_
              refine g_aload_n h dX11_evict_110 rfl rfl ?_
              refine g_iload_n h dX11_evict_111 rfl rfl ?_
              refine g_iload_n h dX11_evict_112 rfl rfl ?_
              refine g_iload_n h dX11_evict_113 rfl rfl ?_
              refine g_V h lv_X11_149_X11 sh_178 (by decide) rfl (c_X11_has (otR r) hot _ _ _) (fitR hR (by first | decide | omega) (by decide) (by omega)) rfl rfl (Nat.le_of_ble_eq_true rfl) dX11_evict_114 ?_
              refine g_aload_n h dX11_evict_117 rfl rfl ?_
              refine g_iload_n h dX11_evict_118 rfl rfl ?_
              refine g_iload_n h dX11_evict_119 rfl rfl ?_
              refine g_iconst (v := nI 2) h dX11_evict_120 (by decide) ?_
              refine g_V h lv_X11_298_X11 sh_178 (by decide) rfl (c_X11_writes _ _ _ _) (fitR hR (by first | decide | omega) (by decide) (by omega)) rfl rfl (Nat.le_of_ble_eq_true rfl) dX11_evict_121 ?_
              refine g_iload_n h dX11_evict_124 rfl rfl ?_
              exact g_iretP h hrt dX11_evict_125 (by omega) (pa_k (by rw [eviR, if_pos n2, ir, if_pos c19, if_pos n52, poS, if_pos hpo, poV, if_pos hpo]) rfl (by rw [eo, ix_nI (by omega)]; exact J_ct (J_free hJ0 hr) (by rw [fr_cc (by decide) (by decide) (by decide)]; exact hW0) hwk hot ho (by rw [fr_cc (by decide) (by decide) (by decide), rmS_c (by decide) (by omega)]; exact eo2) (by decide)) (fun j hj => by rw [wr_g hj, hs_g hot hj, hs_g hr hj]) (k9_wr (k9_has (k9_has (rm_k (pc := pc) (sim.refl u)) r (-1) (-1)) _ _ _) _ _ _))
            · have hpo : ¬ poP (rmS v pf pc) r := by rw [poP, rmS_c (by decide) (by omega), rmS_c (by decide) (by omega)]; exact fun q => absurd (c105.symm.trans q.2.2) (by decide)
              refine g_iconst (v := -1) h dX11_evict_108 (by decide) ?_
              exact g_iretP h hrt dX11_evict_109 (by omega) (pa_k (by rw [eviR, if_pos n2, ir, if_pos c19, if_pos n52, poS, if_neg hpo, poV, if_neg hpo]) rfl (J_free hJ0 hr) (fun j hj => hs_g hr hj) (k9_has (rm_k (pc := pc) (sim.refl u)) r (-1) (-1)))
      · refine g_top (b2_t (fun q => n52 ((hJ.ti.sbl hr).mp q))) ?_
        refine g_if_eq (tgt := 67) h dX11_evict_55 (by decide) (fun q => absurd q (by decide)) (fun _ => ?_)
        refine g_aload_n h dX11_evict_58 rfl rfl ?_
        refine g_iload_n h dX11_evict_59 rfl rfl ?_
        refine g_iload_n h dX11_evict_60 rfl rfl ?_
        refine g_iload_n h dX11_evict_61 rfl rfl ?_
        refine g_V h lv_X11_149_X11 sh_178 (by decide) rfl (c_X11_has r hr _ _ _) (fitR hR (by first | decide | omega) (by decide) (by omega)) rfl rfl (Nat.le_of_ble_eq_true rfl) dX11_evict_62 ?_
        refine g_iconst (v := -1) h dX11_evict_65 (by decide) ?_
        exact g_iretP h hrt dX11_evict_66 (by omega) (pa_k (by rw [eviR, if_pos n2, ir, if_pos c19, if_neg n52]) rfl (J_end hJ0 hr) (fun j hj => hs_g hr hj) (by rw [rmS_c (by decide) (by omega)]; exact k9_has (rm_k (sim.refl u)) _ _ _))
    · refine g_iconst (v := nI 2) h dX11_evict_22 (by decide) ?_
      refine g_goto (tgt := 27) h dX11_evict_23 (by decide) ?_
      refine g_putI h pfl_X11_69_10 sh_178 (by decide) rfl dX11_evict_27 ?_
      refine g_aload_n h dX11_evict_30 rfl rfl ?_
      refine g_getI h fl_X11_69_10 sh_178 (by decide) rfl dX11_evict_31 ?_
      refine g_top su_k ?_
      refine g_if_le (tgt := 39) h dX11_evict_34 (by decide) (fun q => absurd q (by decide)) (fun _ => ?_)
      refine g_iconst (v := nI 0) h dX11_evict_37 (by decide) ?_
      exact g_iretP h hrt dX11_evict_38 (by omega) (by first | exact pa_x (Ex := ioob) (by rw [eviR, if_pos n2, ir, if_neg (fun q => q c19)]) (by decide) (sim.refl _) | exact pa_x (Ex := ise) (by rw [eviR, if_pos n2, ir, if_neg (fun q => q c19)]) (by decide) (sim.refl _))
  · refine g_top (b2_f n2) ?_
    refine g_if_ne (tgt := 12) h dX11_evict_5 (by decide) (fun q => absurd q (by decide)) (fun _ => ?_)
    refine g_iconst (v := nI 1) h dX11_evict_8 (by decide) ?_
    refine g_goto (tgt := 27) h dX11_evict_9 (by decide) ?_
    refine g_putI h pfl_X11_69_10 sh_178 (by decide) rfl dX11_evict_27 ?_
    refine g_aload_n h dX11_evict_30 rfl rfl ?_
    refine g_getI h fl_X11_69_10 sh_178 (by decide) rfl dX11_evict_31 ?_
    refine g_top su_k ?_
    refine g_if_le (tgt := 39) h dX11_evict_34 (by decide) (fun q => absurd q (by decide)) (fun _ => ?_)
    refine g_iconst (v := nI 0) h dX11_evict_37 (by decide) ?_
    exact g_iretP h hrt dX11_evict_38 (by omega) (by first | exact pa_x (Ex := ioob) (by rw [eviR, if_neg n2]) (by decide) (sim.refl _) | exact pa_x (Ex := ise) (by rw [eviR, if_neg n2]) (by decide) (sim.refl _))
theorem en_cc {v : Sto} {r a h : Int32} {k : Nat} (h1 : k ≠ 3) (h2 : k ≠ 9) : enT v 3 r a h k = v k := by
  unfold enT
  show su (su (su v 9 _ _) 3 6 _) 3 7 _ k = _
  rw [su_cell _ _ h1, su_cell _ _ h1, su_cell _ _ h2]
theorem en_39 {v : Sto} {r a h : Int32} {j : Nat} (h1 : j ≠ 6) (h2 : j ≠ 7) : enT v 3 r a h 3 j = v 3 j := by
  unfold enT
  show su (su (su v 9 _ _) 3 6 _) 3 7 _ 3 j = _
  rw [su_i h2, su_i h1, su_cell _ _ (by decide)]
theorem ct_39 {v : Sto} {r a : Nat} {h : Int32} : ctT v 3 r a h 3 9 = v 3 9 := by unfold ctT; rw [en_39 (by decide) (by decide), so_cc (by decide) (by decide) (by decide)]
theorem ct_13 {v : Sto} {r a : Nat} {h : Int32} : ctT v 3 r a h 13 = v 13 := by unfold ctT; rw [en_cc (by decide) (by decide), so_cc (by decide) (by decide) (by decide)]
set_option maxHeartbeats 1000000 in
theorem c_X11_swap {E : EE} (v : Sto) (T W pf pc wk : Nat) (hpc : pc ≤ 12) (hwk : wk < 2 ^ 17) (y z : Int32) (u : Sto) (hJ : J v (u 179) T W) (hA : u 178 6 = nI pc) (hW : v 3 9 = nI wk) : CtP E 35 0 yX11_swap cX11_swap 5 (some .int) [.ref (E.ad 178), .int y, .int z] u (PMa (cdL [ioob, iae, ise]) (swaR v pf pc y z) u pc T W) := by
  have hK : LK v u T W := hJ.k
  have hT := hK.hT
  have hJ0 : J (rmS v pf pc) (u 179) T W := J_v hJ vim_rm
  have hW0 : rmS v pf pc 3 9 = nI wk := by rw [rmS_c (by decide) (by omega)]; exact hW
  refine ctp_of (by decide) (Nat.le_of_ble_eq_true rfl) (fun X h hR hrt htab hargs => ?_)
  refine g_aload_n h dX11_swap_0 rfl rfl ?_
  refine g_iload_n h dX11_swap_1 rfl rfl ?_
  refine g_S h ls_X11_289 (c_X11_isRoom y u) (fitR hR (by first | decide | omega) (by decide) (by omega)) rfl rfl (Nat.le_of_ble_eq_true rfl) dX11_swap_2 ?_
  by_cases n2 : okR y
  · refine g_top (b2_t n2) ?_
    obtain ⟨r, hr, ir, rfl⟩ := okR_n n2
    refine g_if_eq (tgt := 15) h dX11_swap_5 (by decide) (fun q => absurd q (by decide)) (fun _ => ?_)
    refine g_iload_n h dX11_swap_8 rfl rfl ?_
    refine g_S h ls_X11_289 (c_X11_isRoom z u) (fitR hR (by first | decide | omega) (by decide) (by omega)) rfl rfl (Nat.le_of_ble_eq_true rfl) dX11_swap_9 ?_
    by_cases n9 : okR z
    · refine g_top (b2_t n9) ?_
      obtain ⟨q, hq, iq, rfl⟩ := okR_n n9
      refine g_if_ne (tgt := 19) h dX11_swap_12 (by decide) (fun _ => ?_) (fun q => absurd q (by decide))
      refine g_iload_n h dX11_swap_19 rfl rfl ?_
      refine g_iload_n h dX11_swap_20 rfl rfl ?_
      refine g_icmp_ne (tgt := 28) h dX11_swap_21 (by decide) (fun c21 => ?_) (fun c21 => ?_)
      · refine g_aload_n h dX11_swap_28 rfl rfl ?_
        refine g_iload_n h dX11_swap_29 rfl rfl ?_
        refine g_iload_n h dX11_swap_30 rfl rfl ?_
        refine g_VP h lv_X11_320_X11 sh_178 (by decide) rfl (c_X11_maySwap v T W r q hr hq u hK hJ.ti) ps_nx (fitR hR (by first | decide | omega) (by decide) (by omega)) rfl rfl (Nat.le_of_ble_eq_true rfl) dX11_swap_31 (fun v31 u31 hs31 => ?_)
        obtain ⟨hv31, hs31⟩ := hs31
        cases hv31
        by_cases n31 : mwQ v r q
        · refine g_top (b2_t n31) ?_
          refine g_if_ne (tgt := 41) h dX11_swap_34 (by decide) (fun _ => ?_) (fun q => absurd q (by decide))
          refine g_iconst (v := nI 0) h dX11_swap_41 (by decide) ?_
          refine g_putI h pfl_X11_69_10 sh_178 (by decide) rfl dX11_swap_42 ?_
          refine g_aload_n h dX11_swap_45 rfl rfl ?_
          refine g_getI h fl_X11_69_10 sh_178 (by decide) rfl dX11_swap_46 ?_
          refine g_top su_k ?_
          refine g_if_le (tgt := 54) h dX11_swap_49 (by decide) (fun _ => ?_) (fun q => absurd q (by decide))
          refine g_aload_n h dX11_swap_54 rfl rfl ?_
          refine g_V h lv_X11_305_X11 sh_178 (by decide) rfl (c_X11_remembers pc hpc _ (rm_6 hs31 hA)) (fitR hR (by first | decide | omega) (by decide) (by omega)) rfl rfl (Nat.le_of_ble_eq_true rfl) dX11_swap_55 ?_
          refine g_aload_n h dX11_swap_58 rfl rfl ?_
          refine g_iload_n h dX11_swap_59 rfl rfl ?_
          refine g_iconst (v := nI 0) h dX11_swap_60 (by decide) ?_
          refine g_V h lv_X11_84_X11 sh_178 (by decide) rfl (c_X11_ofRoom r 0 hr (by decide) _) (fitR hR (by first | decide | omega) (by decide) (by omega)) rfl rfl (Nat.le_of_ble_eq_true rfl) dX11_swap_61 ?_
          obtain ⟨a, ha, ea, ea2⟩ := (hJ.ti.own r hr).resolve_left n31.1
          obtain ⟨b, hb, eb, eb2⟩ := (hJ.ti.own q hq).resolve_left n31.2.1
          have ea : v 4 r = nI a := ea
          have eb : v 4 q = nI b := eb
          refine g_top (y := nI a) (((k9_K (rm_k (pc := pc) hs31) hK rfl).own hr).trans ea) ?_
          refine g_istore_n (ls' := [(0, _), (1, _), (2, _), (3, _)]) h dX11_swap_64 rfl (by decide) rfl rfl ?_
          refine g_aload_n h dX11_swap_65 rfl rfl ?_
          refine g_iload_n h dX11_swap_66 rfl rfl ?_
          refine g_iconst (v := nI 0) h dX11_swap_67 (by decide) ?_
          refine g_V h lv_X11_84_X11 sh_178 (by decide) rfl (c_X11_ofRoom q 0 hq (by decide) _) (fitR hR (by first | decide | omega) (by decide) (by omega)) rfl rfl (Nat.le_of_ble_eq_true rfl) dX11_swap_68 ?_
          refine g_top (y := nI b) (((k9_K (rm_k (pc := pc) hs31) hK rfl).own hq).trans eb) ?_
          refine g_istore (ls' := [(0, _), (1, _), (2, _), (3, _), (4, _)]) h dX11_swap_71 (by decide) rfl rfl ?_
          refine g_aload_n h dX11_swap_73 rfl rfl ?_
          refine g_iload_n h dX11_swap_74 rfl rfl ?_
          refine g_iload h dX11_swap_75 rfl ?_
          refine g_iload h dX11_swap_77 rfl ?_
          refine g_V h lv_X11_149_X11 sh_178 (by decide) rfl (c_X11_has r hr _ _ _) (fitR hR (by first | decide | omega) (by decide) (by omega)) rfl rfl (Nat.le_of_ble_eq_true rfl) dX11_swap_79 ?_
          refine g_aload_n h dX11_swap_82 rfl rfl ?_
          refine g_iload_n h dX11_swap_83 rfl rfl ?_
          refine g_iload_n h dX11_swap_84 rfl rfl ?_
          refine g_iload_n h dX11_swap_85 rfl rfl ?_
          refine g_V h lv_X11_149_X11 sh_178 (by decide) rfl (c_X11_has q hq _ _ _) (fitR hR (by first | decide | omega) (by decide) (by omega)) rfl rfl (Nat.le_of_ble_eq_true rfl) dX11_swap_86 ?_
          refine g_aload_n h dX11_swap_89 rfl rfl ?_
          refine g_iload_n h dX11_swap_90 rfl rfl ?_
          refine g_iload h dX11_swap_91 rfl ?_
          refine g_iconst (v := nI 3) h dX11_swap_93 (by decide) ?_
          refine g_V h lv_X11_298_X11 sh_178 (by decide) rfl (c_X11_writes _ _ _ _) (fitR hR (by first | decide | omega) (by decide) (by omega)) rfl rfl (Nat.le_of_ble_eq_true rfl) dX11_swap_94 ?_
          refine g_aload_n h dX11_swap_97 rfl rfl ?_
          refine g_iload_n h dX11_swap_98 rfl rfl ?_
          refine g_iload_n h dX11_swap_99 rfl rfl ?_
          refine g_iconst (v := nI 3) h dX11_swap_100 (by decide) ?_
          refine g_V h lv_X11_298_X11 sh_178 (by decide) rfl (c_X11_writes _ _ _ _) (fitR hR (by first | decide | omega) (by decide) (by omega)) rfl rfl (Nat.le_of_ble_eq_true rfl) dX11_swap_101 ?_
          refine g_iload h dX11_swap_104 rfl ?_
          exact g_iretP h hrt dX11_swap_106 (by omega) (pa_k (g := ctG (ctG (u 179) r b (nI 3)) q a (nI 3)) (by rw [swaR, if_pos n2, ir, if_pos n9, iq, if_pos c21, if_pos n31]) eb (by rw [ea, eb, ix_nI (by omega), ix_nI (by omega)]; exact J_ct (J_ct hJ0 hW0 hwk hr hb (by rw [rmS_c (by decide) (by omega)]; exact eb2) (by decide)) (by rw [ct_39]; exact hW0) hwk hq ha (by rw [ct_13, rmS_c (by decide) (by omega)]; exact ea2) (by decide)) (fun j hj => by rw [ct_g hq hj, ct_g hr hj]) (by unfold ctG; rw [hs_wr hq]; exact k9_wr (k9_wr (k9_has (k9_has (rm_k hs31) _ _ _) _ _ _) _ _ _) _ _ _))
        · refine g_top (b2_f n31) ?_
          refine g_if_ne (tgt := 41) h dX11_swap_34 (by decide) (fun q => absurd q (by decide)) (fun _ => ?_)
          refine g_iconst (v := nI 3) h dX11_swap_37 (by decide) ?_
          refine g_goto (tgt := 42) h dX11_swap_38 (by decide) ?_
          refine g_putI h pfl_X11_69_10 sh_178 (by decide) rfl dX11_swap_42 ?_
          refine g_aload_n h dX11_swap_45 rfl rfl ?_
          refine g_getI h fl_X11_69_10 sh_178 (by decide) rfl dX11_swap_46 ?_
          refine g_top su_k ?_
          refine g_if_le (tgt := 54) h dX11_swap_49 (by decide) (fun q => absurd q (by decide)) (fun _ => ?_)
          refine g_iconst (v := nI 0) h dX11_swap_52 (by decide) ?_
          exact g_iretP h hrt dX11_swap_53 (by omega) (by first | exact pa_x (Ex := ioob) (by rw [swaR, if_pos n2, ir, if_pos n9, iq, if_pos c21, if_neg n31]) (by decide) (sim.refl _) | exact pa_x (Ex := ioob) (by rw [swaR, if_pos n2, ir, if_pos n9, iq, if_pos c21, if_neg n31]) (by decide) (sim_su hs31 _ _ _) | exact pa_x (Ex := iae) (by rw [swaR, if_pos n2, ir, if_pos n9, iq, if_pos c21, if_neg n31]) (by decide) (sim.refl _) | exact pa_x (Ex := iae) (by rw [swaR, if_pos n2, ir, if_pos n9, iq, if_pos c21, if_neg n31]) (by decide) (sim_su hs31 _ _ _) | exact pa_x (Ex := ise) (by rw [swaR, if_pos n2, ir, if_pos n9, iq, if_pos c21, if_neg n31]) (by decide) (sim.refl _) | exact pa_x (Ex := ise) (by rw [swaR, if_pos n2, ir, if_pos n9, iq, if_pos c21, if_neg n31]) (by decide) (sim_su hs31 _ _ _))
      · refine g_iconst (v := nI 2) h dX11_swap_24 (by decide) ?_
        refine g_goto (tgt := 42) h dX11_swap_25 (by decide) ?_
        refine g_putI h pfl_X11_69_10 sh_178 (by decide) rfl dX11_swap_42 ?_
        refine g_aload_n h dX11_swap_45 rfl rfl ?_
        refine g_getI h fl_X11_69_10 sh_178 (by decide) rfl dX11_swap_46 ?_
        refine g_top su_k ?_
        refine g_if_le (tgt := 54) h dX11_swap_49 (by decide) (fun q => absurd q (by decide)) (fun _ => ?_)
        refine g_iconst (v := nI 0) h dX11_swap_52 (by decide) ?_
        exact g_iretP h hrt dX11_swap_53 (by omega) (by first | exact pa_x (Ex := ioob) (by rw [swaR, if_pos n2, ir, if_pos n9, iq, if_neg (fun q => q c21)]) (by decide) (sim.refl _) | exact pa_x (Ex := ioob) (by rw [swaR, if_pos n2, ir, if_pos n9, iq, if_neg (fun q => q c21)]) (by decide) (sim_su hs31 _ _ _) | exact pa_x (Ex := iae) (by rw [swaR, if_pos n2, ir, if_pos n9, iq, if_neg (fun q => q c21)]) (by decide) (sim.refl _) | exact pa_x (Ex := iae) (by rw [swaR, if_pos n2, ir, if_pos n9, iq, if_neg (fun q => q c21)]) (by decide) (sim_su hs31 _ _ _) | exact pa_x (Ex := ise) (by rw [swaR, if_pos n2, ir, if_pos n9, iq, if_neg (fun q => q c21)]) (by decide) (sim.refl _) | exact pa_x (Ex := ise) (by rw [swaR, if_pos n2, ir, if_pos n9, iq, if_neg (fun q => q c21)]) (by decide) (sim_su hs31 _ _ _))
    · refine g_top (b2_f n9) ?_
      refine g_if_ne (tgt := 19) h dX11_swap_12 (by decide) (fun q => absurd q (by decide)) (fun _ => ?_)
      refine g_iconst (v := nI 1) h dX11_swap_15 (by decide) ?_
      refine g_goto (tgt := 42) h dX11_swap_16 (by decide) ?_
      refine g_putI h pfl_X11_69_10 sh_178 (by decide) rfl dX11_swap_42 ?_
      refine g_aload_n h dX11_swap_45 rfl rfl ?_
      refine g_getI h fl_X11_69_10 sh_178 (by decide) rfl dX11_swap_46 ?_
      refine g_top su_k ?_
      refine g_if_le (tgt := 54) h dX11_swap_49 (by decide) (fun q => absurd q (by decide)) (fun _ => ?_)
      refine g_iconst (v := nI 0) h dX11_swap_52 (by decide) ?_
      exact g_iretP h hrt dX11_swap_53 (by omega) (by first | exact pa_x (Ex := ioob) (by rw [swaR, if_pos n2, ir, if_neg n9]) (by decide) (sim.refl _) | exact pa_x (Ex := ioob) (by rw [swaR, if_pos n2, ir, if_neg n9]) (by decide) (sim_su hs31 _ _ _) | exact pa_x (Ex := iae) (by rw [swaR, if_pos n2, ir, if_neg n9]) (by decide) (sim.refl _) | exact pa_x (Ex := iae) (by rw [swaR, if_pos n2, ir, if_neg n9]) (by decide) (sim_su hs31 _ _ _) | exact pa_x (Ex := ise) (by rw [swaR, if_pos n2, ir, if_neg n9]) (by decide) (sim.refl _) | exact pa_x (Ex := ise) (by rw [swaR, if_pos n2, ir, if_neg n9]) (by decide) (sim_su hs31 _ _ _))
  · refine g_top (b2_f n2) ?_
    refine g_if_eq (tgt := 15) h dX11_swap_5 (by decide) (fun _ => ?_) (fun q => absurd q (by decide))
    refine g_iconst (v := nI 1) h dX11_swap_15 (by decide) ?_
    refine g_goto (tgt := 42) h dX11_swap_16 (by decide) ?_
    refine g_putI h pfl_X11_69_10 sh_178 (by decide) rfl dX11_swap_42 ?_
    refine g_aload_n h dX11_swap_45 rfl rfl ?_
    refine g_getI h fl_X11_69_10 sh_178 (by decide) rfl dX11_swap_46 ?_
    refine g_top su_k ?_
    refine g_if_le (tgt := 54) h dX11_swap_49 (by decide) (fun q => absurd q (by decide)) (fun _ => ?_)
    refine g_iconst (v := nI 0) h dX11_swap_52 (by decide) ?_
    exact g_iretP h hrt dX11_swap_53 (by omega) (by first | exact pa_x (Ex := ioob) (by rw [swaR, if_neg n2]) (by decide) (sim.refl _) | exact pa_x (Ex := ioob) (by rw [swaR, if_neg n2]) (by decide) (sim_su hs31 _ _ _) | exact pa_x (Ex := iae) (by rw [swaR, if_neg n2]) (by decide) (sim.refl _) | exact pa_x (Ex := iae) (by rw [swaR, if_neg n2]) (by decide) (sim_su hs31 _ _ _) | exact pa_x (Ex := ise) (by rw [swaR, if_neg n2]) (by decide) (sim.refl _) | exact pa_x (Ex := ise) (by rw [swaR, if_neg n2]) (by decide) (sim_su hs31 _ _ _))
