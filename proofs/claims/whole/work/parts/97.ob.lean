-- after: 96.oa
abbrev snP (v : Sto) (T tl k : Nat) : Prop := tl % 2 = 0 ∧ allB (okB v 2) k = true ∧ allB (tnB v T) k = true
theorem sen_x {v : Sto} {T tl : Nat} (h : ¬ snP v T tl (tl / 2)) : (senR v T tl).1 = .inr iae := by
  unfold senR
  split
  · rename_i c
    split
    · rename_i c2
      rw [if_neg (fun q => h ⟨c, c2, q⟩)]
    · rfl
  · rfl
theorem sen_k {v : Sto} {T tl : Nat} (h : snP v T tl (tl / 2)) : (senR v T tl).1 = .inl (some (.int (frs (seB v) nI (tl / 2) 0))) := by rw [senR, if_pos h.1, if_pos h.2.1, if_pos h.2.2]
theorem okB_2 {v : Sto} {k : Nat} : okB v 2 k = true ↔ okR (v 1 (2 * k)) := decide_eq_true_iff
theorem tnB_t {v : Sto} {T k : Nat} (hT : T ≤ 10) (h : v 10 8 = nI T) : tnB v T k = true ↔ okT v (v 1 (2 * k + 1) - nI 97) := by
  rw [tnB, decide_eq_true_iff, okT_m hT, okT, h]
set_option maxHeartbeats 1000000 in
theorem c_X11_seen {E : EE} (v : Sto) (T W tl : Nat) (u : Sto) (hK : LK v u T W) (hTl : u 178 8 = nI tl) (ht4 : tl ≤ 400) (hTp : ∀ j, j < tl → u 183 j = v 1 j) : CtP E 35 0 yX11_seen cX11_seen 4 (some .int) [.ref (E.ad 178)] u (PMr (cdL [iae]) (senR v T tl).1 (su u 178 8 (nI 0))) := by
  refine ctp_of (by decide) (Nat.le_of_ble_eq_true rfl) (fun X h hR hrt htab hargs => ?_)
  have LP : ∀ j k : Nat, (tl / 2) < k + j → k ≤ (tl / 2) → G E X (QMP E X (PMr (cdL [iae]) (senR v T tl).1 (su u 178 8 (nI 0))) 0) 4 0 24 [(0, .ref (E.ad 178)), (1, .int (nI tl)), (2, .int (b2 (snP v T tl k))), (3, .int (nI (2 * k)))] [] ((su u 178 8 (nI 0))) := by
    intro j
    induction j with
    | zero => intro k h1 h2; omega
    | succ j ih =>
      intro k h1 h2
      refine g_iload_n h dX11_seen_24 rfl rfl ?_
      refine g_iconst (v := nI 1) h dX11_seen_25 (by decide) ?_
      refine g_iadd h dX11_seen_26 ?_
      refine g_top (nI_1 _) ?_
      refine g_iload_n h dX11_seen_27 rfl rfl ?_
      refine g_icmp_ge (tgt := 77) h dX11_seen_28 (by decide) (fun c28 => ?_) (fun c28 => ?_)
      · have n28 := le_n (by omega) (by omega) (show nI (tl) ≤ nI (2 * k + 1) from c28)
        have ek : k = tl / 2 := by omega
        refine g_aload_n h dX11_seen_77 rfl rfl ?_
        refine g_iload_n h dX11_seen_78 rfl rfl ?_
        refine g_if_eq (tgt := 86) h dX11_seen_79 (by decide) (fun c79 => ?_) (fun c79 => ?_)
        · have hsn : ¬ snP v T tl (tl / 2) := by rw [← ek]; exact b2_0.mp c79
          refine g_iconst (v := nI 1) h dX11_seen_86 (by decide) ?_
          refine g_putI h pfl_X11_69_10 sh_178 (by decide) rfl dX11_seen_87 ?_
          refine g_aload_n h dX11_seen_90 rfl rfl ?_
          refine g_getI h fl_X11_69_10 sh_178 (by decide) rfl dX11_seen_91 ?_
          refine g_top su_k ?_
          refine g_if_le (tgt := 99) h dX11_seen_94 (by decide) (fun q => absurd q (by decide)) (fun _ => ?_)
          refine g_iconst (v := nI 0) h dX11_seen_97 (by decide) ?_
          exact g_iretP h hrt dX11_seen_98 (by omega) (pm_x (Ex := iae) (sen_x hsn) (by decide) (sim.refl _))
        · have hsn : snP v T tl (tl / 2) := by rw [← ek]; exact b2_n0.mp c79
          refine g_iconst (v := nI 0) h dX11_seen_82 (by decide) ?_
          refine g_goto (tgt := 87) h dX11_seen_83 (by decide) ?_
          refine g_putI h pfl_X11_69_10 sh_178 (by decide) rfl dX11_seen_87 ?_
          refine g_aload_n h dX11_seen_90 rfl rfl ?_
          refine g_getI h fl_X11_69_10 sh_178 (by decide) rfl dX11_seen_91 ?_
          refine g_top su_k ?_
          refine g_if_le (tgt := 99) h dX11_seen_94 (by decide) (fun _ => ?_) (fun q => absurd q (by decide))
          refine g_iconst (v := nI 0) h dX11_seen_99 (by decide) ?_
          refine g_istore_n (ls' := [(0, _), (1, _), (2, _), (3, _)]) h dX11_seen_100 rfl (by decide) rfl rfl ?_
          have LP2 : ∀ j2 n : Nat, frs (seB v) nI (tl / 2) 0 = frs (seB v) nI (tl / 2 - n) n → (tl / 2) < n + j2 → n ≤ (tl / 2) → G E X (QMP E X (PMr (cdL [iae]) (senR v T tl).1 (su u 178 8 (nI 0))) 0) 4 0 101 [(0, .ref (E.ad 178)), (1, .int (nI tl)), (2, .int (b2 (snP v T tl k))), (3, .int (nI (2 * n)))] [] ((su (su u 178 8 (nI 0)) 178 0 (nI 0))) := by
            intro j2
            induction j2 with
            | zero => intro n hf h1 h2; omega
            | succ j2 ih2 =>
              intro n hf h1 h2
              refine g_iload_n h dX11_seen_101 rfl rfl ?_
              refine g_iload_n h dX11_seen_102 rfl rfl ?_
              refine g_icmp_ge (tgt := 144) h dX11_seen_103 (by decide) (fun c103 => ?_) (fun c103 => ?_)
              · have n103 := le_n (by omega) (by omega) (show nI (tl) ≤ nI (2 * n) from c103)
                have en : n = tl / 2 := by omega
                rw [en, frs_e] at hf
                refine g_iconst (v := -1) h dX11_seen_144 (by decide) ?_
                exact g_iretP h hrt dX11_seen_145 (by omega) (pm_v (sen_k hsn) hf (sim.refl _))
              · have n103 := nle_n (by omega) (by omega) (show ¬ nI (tl) ≤ nI (2 * n) from c103)
                rw [frs_s (by omega)] at hf
                have hx := okR_ix (okB_2.mp (allB_i.mp hsn.2.1 n (by omega)))
                have hy := tn_97 hK.hT (of_decide_eq_true (allB_i.mp hsn.2.2 n (by omega)))
                refine g_aload_n h dX11_seen_106 rfl rfl ?_
                refine g_aload_n h dX11_seen_107 rfl rfl ?_
                refine g_getR h fl_X11_22_10 sh_178 (by decide) rfl dX11_seen_108 ?_
                refine g_iload_n h dX11_seen_111 rfl rfl ?_
                refine g_iald h _ _ _ sh_183 (by decide) (by decide) rfl (by omega) dX11_seen_112 ?_
                refine g_top (((congrFun (su_cell _ _ (by decide)) _).trans ((congrFun (su_cell _ _ (by decide)) _).trans (hTp (2 * n) (by omega)))).trans hx.1) ?_
                refine g_V h lv_X11_264_X11 sh_178 (by decide) rfl (c_X11_livesIn (nI (ix (v 1 (2 * n)))) (ix (v 1 (2 * n)) + 168) (nI_add _ _) (by have := hx.2; omega) v T W _ ((hK.th (j := 8) (x := nI 0)).th (j := 0) (x := nI 0)).t) (fitR hR (by first | decide | omega) (by decide) (by omega)) rfl rfl (Nat.le_of_ble_eq_true rfl) dX11_seen_113 ?_
                refine g_top (congrArg (lvT v 3) (m168 hx.2)) ?_
                refine g_aload_n h dX11_seen_116 rfl rfl ?_
                refine g_aload_n h dX11_seen_117 rfl rfl ?_
                refine g_getR h fl_X11_22_10 sh_178 (by decide) rfl dX11_seen_118 ?_
                refine g_iload_n h dX11_seen_121 rfl rfl ?_
                refine g_iconst (v := nI 1) h dX11_seen_122 (by decide) ?_
                refine g_iadd h dX11_seen_123 ?_
                refine g_top (nI_1 _) ?_
                refine g_iald h _ _ _ sh_183 (by decide) (by decide) rfl (by omega) dX11_seen_124 ?_
                refine g_top (y := v 1 (2 * n + 1)) ((congrFun (su_cell _ _ (by decide)) _).trans ((congrFun (su_cell _ _ (by decide)) _).trans (hTp (2 * n + 1) (by omega)))) ?_
                refine g_bipush (v := nI 97) h dX11_seen_125 (by decide) ?_
                refine g_isub h dX11_seen_127 ?_
                refine g_top hy.1 ?_
                refine g_V h lv_X11_87_X11 sh_178 (by decide) rfl (c_X11_adult (ix (v 1 (2 * n + 1) - nI 97)) v T W hy.2 _ ((hK.th (j := 8) (x := nI 0)).th (j := 0) (x := nI 0)).r) (fitR hR (by first | decide | omega) (by decide) (by omega)) rfl rfl (Nat.le_of_ble_eq_true rfl) dX11_seen_128 ?_
                refine g_icmp_eq (tgt := 138) h dX11_seen_131 (by decide) (fun c131 => ?_) (fun c131 => ?_)
                · rw [if_neg (show ¬ seB v n = true from fun q => of_decide_eq_true q c131)] at hf
                  refine g_iinc (v := nI (2 * (n + 1))) (ls' := [(0, _), (1, _), (2, _), (3, _)]) h dX11_seen_138 rfl ((nI_add (2 * n) 2).trans (congrArg nI (by omega))) (by decide) rfl rfl ?_
                  refine g_goto (tgt := 101) h dX11_seen_141 (by decide) ?_
                  exact ih2 (n + 1) hf (by omega) (by omega)
                · rw [if_pos (show seB v n = true from decide_eq_true c131)] at hf
                  refine g_iload_n h dX11_seen_134 rfl rfl ?_
                  refine g_iconst (v := nI 2) h dX11_seen_135 (by decide) ?_
                  refine g_idiv h dX11_seen_136 (by decide) ?_
                  refine g_top (y := nI n) ((pk_div (by omega) (by omega) (by omega)).trans (congrArg nI (by omega))) ?_
                  exact g_iretP h hrt dX11_seen_137 (by omega) (pm_v (sen_k hsn) hf (sim.refl _))
          exact LP2 ((tl / 2) + 1) (0) rfl (by omega) (by omega)
          
      · have n28 := nle_n (by omega) (by omega) (show ¬ nI (tl) ≤ nI (2 * k + 1) from c28)
        refine g_iload_n h dX11_seen_31 rfl rfl ?_
        refine g_if_eq (tgt := 69) h dX11_seen_32 (by decide) (fun c32 => ?_) (fun c32 => ?_)
        · refine g_iconst (v := nI 0) h dX11_seen_69 (by decide) ?_
          refine g_istore_n (ls' := [(0, _), (1, _), (2, _), (3, _)]) h dX11_seen_70 rfl (by decide) rfl rfl ?_
          refine g_iinc (v := nI (2 * (k + 1))) (ls' := [(0, _), (1, _), (2, _), (3, _)]) h dX11_seen_71 rfl ((nI_add (2 * k) 2).trans (congrArg nI (by omega))) (by decide) rfl rfl ?_
          refine g_goto (tgt := 24) h dX11_seen_74 (by decide) ?_
          exact g_cv (by rw [b2_f (p := snP v T tl (k + 1)) (fun q => b2_0.mp c32 ⟨q.1, (allB_s.mp q.2.1).1, (allB_s.mp q.2.2).1⟩)]) rfl (ih (k + 1) (by omega) (by omega))
        · refine g_aload_n h dX11_seen_35 rfl rfl ?_
          refine g_getR h fl_X11_22_10 sh_178 (by decide) rfl dX11_seen_36 ?_
          refine g_iload_n h dX11_seen_39 rfl rfl ?_
          refine g_iald h _ _ _ sh_183 (by decide) (by decide) rfl (by omega) dX11_seen_40 ?_
          refine g_top (y := v 1 (2 * k)) ((congrFun (su_cell _ _ (by decide)) _).trans (hTp (2 * k) (by omega))) ?_
          refine g_S h ls_X11_289 (c_X11_isRoom (v 1 (2 * k)) _) (fitR hR (by first | decide | omega) (by decide) (by omega)) rfl rfl (Nat.le_of_ble_eq_true rfl) dX11_seen_41 ?_
          refine g_if_eq (tgt := 69) h dX11_seen_44 (by decide) (fun c44 => ?_) (fun c44 => ?_)
          · refine g_iconst (v := nI 0) h dX11_seen_69 (by decide) ?_
            refine g_istore_n (ls' := [(0, _), (1, _), (2, _), (3, _)]) h dX11_seen_70 rfl (by decide) rfl rfl ?_
            refine g_iinc (v := nI (2 * (k + 1))) (ls' := [(0, _), (1, _), (2, _), (3, _)]) h dX11_seen_71 rfl ((nI_add (2 * k) 2).trans (congrArg nI (by omega))) (by decide) rfl rfl ?_
            refine g_goto (tgt := 24) h dX11_seen_74 (by decide) ?_
            exact g_cv (by rw [b2_f (p := snP v T tl (k + 1)) (fun q => b2_0.mp c44 (okB_2.mp (allB_s.mp q.2.1).2))]) rfl (ih (k + 1) (by omega) (by omega))
          · refine g_aload_n h dX11_seen_47 rfl rfl ?_
            refine g_aload_n h dX11_seen_48 rfl rfl ?_
            refine g_getR h fl_X11_22_10 sh_178 (by decide) rfl dX11_seen_49 ?_
            refine g_iload_n h dX11_seen_52 rfl rfl ?_
            refine g_iconst (v := nI 1) h dX11_seen_53 (by decide) ?_
            refine g_iadd h dX11_seen_54 ?_
            refine g_top (nI_1 _) ?_
            refine g_iald h _ _ _ sh_183 (by decide) (by decide) rfl (by omega) dX11_seen_55 ?_
            refine g_top (y := v 1 (2 * k + 1)) ((congrFun (su_cell _ _ (by decide)) _).trans (hTp (2 * k + 1) (by omega))) ?_
            refine g_bipush (v := nI 97) h dX11_seen_56 (by decide) ?_
            refine g_isub h dX11_seen_58 ?_
            refine g_V h lv_X11_277_X11 sh_178 (by decide) rfl (c_X11_isTenant (v 1 (2 * k + 1) - nI 97) v T W _ (hK.th (j := 8) (x := nI 0)).r) (fitR hR (by first | decide | omega) (by decide) (by omega)) rfl rfl (Nat.le_of_ble_eq_true rfl) dX11_seen_59 ?_
            refine g_if_eq (tgt := 69) h dX11_seen_62 (by decide) (fun c62 => ?_) (fun c62 => ?_)
            · refine g_iconst (v := nI 0) h dX11_seen_69 (by decide) ?_
              refine g_istore_n (ls' := [(0, _), (1, _), (2, _), (3, _)]) h dX11_seen_70 rfl (by decide) rfl rfl ?_
              refine g_iinc (v := nI (2 * (k + 1))) (ls' := [(0, _), (1, _), (2, _), (3, _)]) h dX11_seen_71 rfl ((nI_add (2 * k) 2).trans (congrArg nI (by omega))) (by decide) rfl rfl ?_
              refine g_goto (tgt := 24) h dX11_seen_74 (by decide) ?_
              exact g_cv (by rw [b2_f (p := snP v T tl (k + 1)) (fun q => b2_0.mp c62 ((tnB_t hK.hT hK.r.vt).mp (allB_s.mp q.2.2).2))]) rfl (ih (k + 1) (by omega) (by omega))
            · refine g_iconst (v := nI 1) h dX11_seen_65 (by decide) ?_
              refine g_goto (tgt := 70) h dX11_seen_66 (by decide) ?_
              refine g_istore_n (ls' := [(0, _), (1, _), (2, _), (3, _)]) h dX11_seen_70 rfl (by decide) rfl rfl ?_
              refine g_iinc (v := nI (2 * (k + 1))) (ls' := [(0, _), (1, _), (2, _), (3, _)]) h dX11_seen_71 rfl ((nI_add (2 * k) 2).trans (congrArg nI (by omega))) (by decide) rfl rfl ?_
              refine g_goto (tgt := 24) h dX11_seen_74 (by decide) ?_
              exact g_cv (by rw [b2_t (p := snP v T tl (k + 1)) ⟨(b2_n0.mp c32).1, allB_s.mpr ⟨(b2_n0.mp c32).2.1, okB_2.mpr (b2_n0.mp c44)⟩, allB_s.mpr ⟨(b2_n0.mp c32).2.2, (tnB_t hK.hT hK.r.vt).mpr (b2_n0.mp c62)⟩⟩]) rfl (ih (k + 1) (by omega) (by omega))
  refine g_aload_n h dX11_seen_0 rfl rfl ?_
  refine g_getI h fl_X11_91_10 sh_178 (by decide) rfl dX11_seen_1 ?_
  refine g_top hTl ?_
  refine g_istore_n (ls' := [(0, _), (1, _)]) h dX11_seen_4 rfl (by decide) rfl rfl ?_
  refine g_aload_n h dX11_seen_5 rfl rfl ?_
  refine g_iconst (v := nI 0) h dX11_seen_6 (by decide) ?_
  refine g_putI h pfl_X11_91_10 sh_178 (by decide) rfl dX11_seen_7 ?_
  refine g_iload_n h dX11_seen_10 rfl rfl ?_
  refine g_iconst (v := nI 2) h dX11_seen_11 (by decide) ?_
  refine g_irem h dX11_seen_12 (by decide) ?_
  refine g_top (y := nI (tl % 2)) (pk_rem (by omega) (by omega) (by omega)) ?_
  refine g_if_ne (tgt := 20) h dX11_seen_13 (by decide) (fun c13 => ?_) (fun c13 => ?_)
  · have ht0 : ¬ tl % 2 = 0 := fun q => c13 (by rw [q]; rfl)
    refine g_iconst (v := nI 0) h dX11_seen_20 (by decide) ?_
    refine g_istore_n (ls' := [(0, _), (1, _), (2, _)]) h dX11_seen_21 rfl (by decide) rfl rfl ?_
    refine g_iconst (v := nI 0) h dX11_seen_22 (by decide) ?_
    refine g_istore_n (ls' := [(0, _), (1, _), (2, _), (3, _)]) h dX11_seen_23 rfl (by decide) rfl rfl ?_
    exact g_cv (by rw [b2_f (p := snP v T tl 0) (fun q => ht0 q.1)]) rfl (LP (tl / 2 + 1) 0 (by omega) (by omega))
  · have ht0 : tl % 2 = 0 := eq_n (by omega) (by omega) (show nI (tl % 2) = nI 0 from c13)
    refine g_iconst (v := nI 1) h dX11_seen_16 (by decide) ?_
    refine g_goto (tgt := 21) h dX11_seen_17 (by decide) ?_
    refine g_istore_n (ls' := [(0, _), (1, _), (2, _)]) h dX11_seen_21 rfl (by decide) rfl rfl ?_
    refine g_iconst (v := nI 0) h dX11_seen_22 (by decide) ?_
    refine g_istore_n (ls' := [(0, _), (1, _), (2, _), (3, _)]) h dX11_seen_23 rfl (by decide) rfl rfl ?_
    exact g_cv (by rw [b2_t (p := snP v T tl 0) ⟨ht0, rfl, rfl⟩]) rfl (LP (tl / 2 + 1) 0 (by omega) (by omega))
theorem cN_up {p : Nat → Bool} {q : Nat → Bool} {a : Nat} (hp : p a = true) (hq : q a = false) (h : ∀ b, b ≠ a → q b = p b) : ∀ n, cN q n + (if a < n then 1 else 0) = cN p n
  | 0 => by rw [if_neg (by omega)]; rfl
  | n + 1 => by
    have ih := cN_up hp hq h n
    rw [cN, cN]
    by_cases e : n = a
    · subst e
      rw [if_neg (by rw [hq]; decide), if_pos hp, if_pos (by omega)]
      rw [if_neg (by omega)] at ih
      omega
    · rw [h n e]
      by_cases c : p n = true
      · rw [if_pos c, if_pos c]
        by_cases z : a < n
        · rw [if_pos z] at ih; rw [if_pos (by omega)]; omega
        · rw [if_neg z] at ih; rw [if_neg (by omega)]; omega
      · rw [if_neg c, if_neg c]
        by_cases z : a < n
        · rw [if_pos z] at ih; rw [if_pos (by omega)]; omega
        · rw [if_neg z] at ih; rw [if_neg (by omega)]; omega
theorem cN_pos {p : Nat → Bool} {a : Nat} (hp : p a = true) : ∀ n, a < n → 0 < cN p n
  | 0, h => by omega
  | n + 1, h => by
    rw [cN]
    by_cases e : a = n
    · subst e; rw [if_pos hp]; omega
    · have := cN_pos hp n (by omega)
      split <;> omega
def crQ (v : Sto) (T : Nat) (ρ : Nat → Int32) (left : Int32) (n : Nat) : Prop := (∀ a, a < 10 → ρ a = nI 0 ∨ ρ a = nI 1) ∧ (∀ a, a < T → v 13 a = -1 → (ρ a = nI 1 ↔ btB left a = true)) ∧ cN (fun a => decide (ρ a = nI 1)) 10 + n ≤ 10
theorem crQ_s {v : Sto} {T : Nat} {ρ : Nat → Int32} {left : Int32} {n a : Nat} (hT : T ≤ 10) (h : crQ v T ρ left n) (ha : a < 10) (h1 : ρ a = nI 1) : crQ v T (upd ρ a (nI 0)) (left &&& (oneJ (nI a) ^^^ -1)) (n + 1) := by
  obtain ⟨q1, q2, q3⟩ := h
  refine ⟨fun b hb => ?_, fun b hb hm => ?_, ?_⟩
  · by_cases e : b = a
    · subst e; rw [pk_us]; exact Or.inl rfl
    · rw [pk_un e]; exact q1 b hb
  · rw [bt_and, bt_xor, oneJ_n, bt_one (by omega) (by omega), bt_m1 (by omega)]
    by_cases e : b = a
    · subst e
      rw [pk_us]
      simp
      decide
    · rw [pk_un e, q2 b hb hm]
      simp [e]
  · have := cN_up (p := fun b => decide (ρ b = nI 1)) (q := fun b => decide (upd ρ a (nI 0) b = nI 1)) (a := a) (decide_eq_true h1) (by rw [pk_us]; decide) (fun b hb => by rw [pk_un hb]) 10
    rw [if_pos ha] at this
    omega
def crG (T : Nat) (x : Int32) (i : Nat) : Int32 := b2 (i < T ∧ ¬ bitJ x (nI i) = 0)
theorem crQ_0 {v : Sto} {T : Nat} {x : Int32} {ρ : Nat → Int32} (hT : T ≤ 10) : crQ v T (mvF ρ (crG T x) 10) (guI v x T) 0 := by
  refine ⟨fun a ha => ?_, fun a ha hm => ?_, ?_⟩
  · rw [mv_lo ha, crG]
    by_cases c : a < T ∧ ¬ bitJ x (nI a) = 0
    · rw [b2_t c]; exact Or.inr rfl
    · rw [b2_f c]; exact Or.inl rfl
  · rw [mv_lo (by omega), crG, gu_bt T hT a (by omega)]
    constructor
    · intro h
      have h2 : a < T ∧ ¬ bitJ x (nI a) = 0 := b2_n0.mp (by rw [h]; decide)
      exact ⟨ha, (bt_J (by omega)).mp h2.2, hm⟩
    · intro h
      exact b2_t ⟨ha, (bt_J (by omega)).mpr h.2.1⟩
  · have := cN_lq (p := fun a => decide (mvF ρ (crG T x) 10 a = nI 1)) 10
    omega
set_option maxHeartbeats 1000000 in
theorem c_X11_court {E : EE} (v : Sto) (T W : Nat) (x z : Int32) (u : Sto) (hK : LK v u T W) (hI : TI v 3 10 T) : CtP E 3 0 yX11_court cX11_court 9 (some .int) [.ref (E.ad 178), .int x, .int z] u (PMr (cdL []) (.inl (some (.int (couV v (guI v x T) z)))) u) := by
  refine ctp_of (by decide) (Nat.le_of_ble_eq_true rfl) (fun X h hR hrt htab hargs => ?_)
  have LP : ∀ j k : Nat, ∀ ρ : Nat → Int32, 168 < k + j → k ≤ 168 → G E X (QMP E X (PMr (cdL []) (.inl (some (.int (couV v (guI v x T) z)))) u) 0) 9 0 13 [(0, .ref (E.ad 178)), (1, .int x), (2, .int z), (3, .int (mrF (fun r => dfF (lvT v 3) 10 0 (guI v x T) r) k).1), (4, .int (mrF (fun r => dfF (lvT v 3) 10 0 (guI v x T) r) k).2), (5, .int (nI k))] [] (sc (su u 178 0 (nI 0)) 191 ρ) := by
    intro j
    induction j with
    | zero => intro k ρ h1 h2; omega
    | succ j ih =>
      intro k ρ h1 h2
      refine g_iload h dX11_court_13 rfl ?_
      refine g_sipush (v := nI 168) h dX11_court_15 (by decide) ?_
      refine g_icmp_ge (tgt := 173) h dX11_court_18 (by decide) (fun c18 => ?_) (fun c18 => ?_)
      · have n18 := le_n (by omega) (by omega) (show nI (168) ≤ nI (k) from c18)
        refine g_iload_n h dX11_court_173 rfl rfl ?_
        refine g_if_eq (tgt := 182) h dX11_court_174 (by decide) (fun c174 => ?_) (fun c174 => ?_)
        · refine g_iload_n h dX11_court_182 rfl rfl ?_
          exact g_iretP h hrt dX11_court_183 (by omega) (pm_v rfl (by rw [couV, if_pos c174, show k = 168 by omega]) (fun c9 j9 hs9 => by rw [sc_ne _ _ (fun q => by rw [q] at hs9; exact absurd hs9 (by simp [scrB]))]))
        · refine g_iload h dX11_court_177 rfl ?_
          refine g_goto (tgt := 183) h dX11_court_179 (by decide) ?_
          exact g_iretP h hrt dX11_court_183 (by omega) (pm_v rfl (by rw [couV, if_neg c174, show k = 168 by omega]) (fun c9 j9 hs9 => by rw [sc_ne _ _ (fun q => by rw [q] at hs9; exact absurd hs9 (by simp [scrB]))]))
      · have n18 := nle_n (by omega) (by omega) (show ¬ nI (168) ≤ nI (k) from c18)
        refine g_iconst (v := nI 0) h dX11_court_21 (by decide) ?_
        refine g_istore (ls' := [(0, _), (1, _), (2, _), (3, _), (4, _), (5, _), (6, _)]) h dX11_court_22 (by decide) rfl rfl ?_
        have LP2 : ∀ j2 i : Nat, 10 < i + j2 → i ≤ 10 → G E X (QMP E X (PMr (cdL []) (.inl (some (.int (couV v (guI v x T) z)))) u) 0) 9 0 24 [(0, .ref (E.ad 178)), (1, .int x), (2, .int z), (3, .int (mrF (fun r => dfF (lvT v 3) 10 0 (guI v x T) r) k).1), (4, .int (mrF (fun r => dfF (lvT v 3) 10 0 (guI v x T) r) k).2), (5, .int (nI k)), (6, .int (nI i))] [] (sc (su u 178 0 (nI 0)) 191 (mvF ρ (crG T x) i)) := by
          intro j2
          induction j2 with
          | zero => intro i h1 h2; omega
          | succ j2 ih2 =>
            intro i h1 h2
            refine g_iload h dX11_court_24 rfl ?_
            refine g_bipush (v := nI 10) h dX11_court_26 (by decide) ?_
            refine g_icmp_ge (tgt := 69) h dX11_court_28 (by decide) (fun c28 => ?_) (fun c28 => ?_)
            · have n28 := le_n (by omega) (by omega) (show nI (10) ≤ nI (i) from c28)
              obtain rfl : i = 10 := by omega
              refine g_iconst (v := nI 0) h dX11_court_69 (by decide) ?_
              refine g_istore (ls' := [(0, _), (1, _), (2, _), (3, _), (4, _), (5, _), (6, _)]) h dX11_court_70 (by decide) rfl rfl ?_
              refine g_iconst (v := nI 1) h dX11_court_72 (by decide) ?_
              refine g_istore (ls' := [(0, _), (1, _), (2, _), (3, _), (4, _), (5, _), (6, _), (7, _)]) h dX11_court_73 (by decide) rfl rfl ?_
              have LP3 : ∀ (j3 n : Nat) (c : Int32) (σ : Nat → Int32), ((c = nI 1 ∧ ∃ lf, n ≤ 10 ∧ dfF (lvT v 3) 10 0 (guI v x T) k = dfF (lvT v 3) (10 - n) n lf ((k + n) % 168) ∧ crQ v T σ lf n) ∨ (c = nI 0 ∧ dfF (lvT v 3) 10 0 (guI v x T) k = nI n)) → n ≤ 10 → 11 + (if c = nI 1 then 1 else 0) < n + j3 → G E X (QMP E X (PMr (cdL []) (.inl (some (.int (couV v (guI v x T) z)))) u) 0) 9 0 75 [(0, .ref (E.ad 178)), (1, .int x), (2, .int z), (3, .int (mrF (fun r => dfF (lvT v 3) 10 0 (guI v x T) r) k).1), (4, .int (mrF (fun r => dfF (lvT v 3) 10 0 (guI v x T) r) k).2), (5, .int (nI k)), (6, .int (nI n)), (7, .int c)] [] (sc (su u 178 0 (nI 0)) 191 σ) := by
                intro j3
                induction j3 with
                | zero => intro n c σ hc h1 h2; exfalso; revert h2; split <;> intro h2 <;> omega
                | succ j3 ih3 =>
                  intro n c σ hc h1 h2
                  refine g_iload h dX11_court_75 rfl ?_
                  refine g_if_eq (tgt := 151) h dX11_court_77 (by decide) (fun c77 => ?_) (fun c77 => ?_)
                  · have hd := hc.resolve_left (fun q => absurd (q.1.symm.trans c77) (by decide))
                    refine g_iload h dX11_court_151 rfl ?_
                    refine g_iload_n h dX11_court_153 rfl rfl ?_
                    refine g_icmp_gt (tgt := 160) h dX11_court_154 (by decide) (fun c154 => ?_) (fun c154 => ?_)
                    · refine g_iload h dX11_court_160 rfl ?_
                      refine g_istore_n (ls' := [(0, _), (1, _), (2, _), (3, _), (4, _), (5, _), (6, _), (7, _)]) h dX11_court_162 rfl (by decide) rfl rfl ?_
                      refine g_iload h dX11_court_163 rfl ?_
                      refine g_istore (ls' := [(0, _), (1, _), (2, _), (3, _), (4, _), (5, _), (6, _), (7, _)]) h dX11_court_165 (by decide) rfl rfl ?_
                      refine g_iinc (v := nI (k + 1)) (ls' := [(0, _), (1, _), (2, _), (3, _), (4, _), (5, _), (6, _), (7, _)]) h dX11_court_167 rfl (nI_1 k) (by decide) rfl rfl ?_
                      refine g_goto (tgt := 13) h dX11_court_170 (by decide) ?_
                      refine g_del 6 (ls' := [(0, _), (1, _), (2, _), (3, _), (4, _), (5, _), (7, _)]) rfl ?_
                      refine g_del 7 (ls' := [(0, _), (1, _), (2, _), (3, _), (4, _), (5, _)]) rfl ?_
                      exact g_cv (by rw [mr_1 (f := (fun r => dfF (lvT v 3) 10 0 (guI v x T) r)) (show (fun r => dfF (lvT v 3) 10 0 (guI v x T) r) k = nI n from hd.2) c154]) rfl (ih (k + 1) _ (by omega) (by omega))
                    · refine g_goto (tgt := 167) h dX11_court_157 (by decide) ?_
                      refine g_iinc (v := nI (k + 1)) (ls' := [(0, _), (1, _), (2, _), (3, _), (4, _), (5, _), (6, _), (7, _)]) h dX11_court_167 rfl (nI_1 k) (by decide) rfl rfl ?_
                      refine g_goto (tgt := 13) h dX11_court_170 (by decide) ?_
                      refine g_del 6 (ls' := [(0, _), (1, _), (2, _), (3, _), (4, _), (5, _), (7, _)]) rfl ?_
                      refine g_del 7 (ls' := [(0, _), (1, _), (2, _), (3, _), (4, _), (5, _)]) rfl ?_
                      exact g_cv (by rw [mr_0 (f := (fun r => dfF (lvT v 3) 10 0 (guI v x T) r)) (show (fun r => dfF (lvT v 3) 10 0 (guI v x T) r) k = nI n from hd.2) (by first | exact c154 | exact Int32.not_lt.mpr c154)]) rfl (ih (k + 1) _ (by omega) (by omega))
                  · obtain ⟨ec, lf, hn10, hD, hQ⟩ := hc.resolve_right (fun q => c77 q.1)
                    rw [if_pos ec] at h2
                    have hrm := rt_mod k n
                    refine g_iload h dX11_court_80 rfl ?_
                    refine g_sipush (v := nI 168) h dX11_court_82 (by decide) ?_
                    refine g_icmp_ge (tgt := 151) h dX11_court_85 (by decide) (fun c85 => ?_) (fun c85 => ?_)
                    · have n85 := le_n (by omega) (by omega) (show nI (168) ≤ nI (n) from c85)
                      omega
                    · have n85 := nle_n (by omega) (by omega) (show ¬ nI (168) ≤ nI (n) from c85)
                      refine g_aload_n h dX11_court_88 rfl rfl ?_
                      refine g_iload h dX11_court_89 rfl ?_
                      refine g_iload h dX11_court_91 rfl ?_
                      refine g_iadd h dX11_court_93 ?_
                      refine g_top (nI_add _ _) ?_
                      refine g_sipush (v := nI 168) h dX11_court_94 (by decide) ?_
                      refine g_irem h dX11_court_97 (by decide) ?_
                      refine g_top (y := nI ((k + n) % 168)) (pk_rem (by omega) (by omega) (by omega)) ?_
                      refine g_V h lv_X11_264_X11 sh_178 (by decide) rfl (c_X11_livesIn (nI ((k + n) % 168)) ((k + n) % 168 + 168) (nI_add _ _) (by have := hrm; omega) v T W _ (hK.c (w := sc (su u 178 0 (nI 0)) 191 σ) ((sc_ne _ _ (by decide)).trans (su_cell _ _ (by decide)))).t) (fitR hR (by first | decide | omega) (by decide) (by omega)) rfl rfl (Nat.le_of_ble_eq_true rfl) dX11_court_98 ?_
                      refine g_top (congrArg (lvT v 3) (m168 hrm)) ?_
                      refine g_istore (ls' := [(0, _), (1, _), (2, _), (3, _), (4, _), (5, _), (6, _), (7, _), (8, _)]) h dX11_court_101 (by decide) rfl rfl ?_
                      refine g_iload h dX11_court_103 rfl ?_
                      refine g_iconst (v := -1) h dX11_court_105 (by decide) ?_
                      refine g_icmp_eq (tgt := 123) h dX11_court_106 (by decide) (fun c106 => ?_) (fun c106 => ?_)
                      · have hE : dfF (lvT v 3) 10 0 (guI v x T) k = nI n := by
                          by_cases q : n < 10
                          · rw [hD, df_s q, if_pos (Or.inl c106)]
                          · rw [hD, show n = 10 by omega]; rfl
                        refine g_iconst (v := nI 0) h dX11_court_123 (by decide) ?_
                        refine g_istore (ls' := [(0, _), (1, _), (2, _), (3, _), (4, _), (5, _), (6, _), (7, _), (8, _)]) h dX11_court_124 (by decide) rfl rfl ?_
                        refine g_iload h dX11_court_126 rfl ?_
                        refine g_if_ne (tgt := 134) h dX11_court_128 (by decide) (fun q => absurd q (by decide)) (fun _ => ?_)
                        refine g_goto (tgt := 75) h dX11_court_131 (by decide) ?_
                        refine g_del 8 (ls' := [(0, _), (1, _), (2, _), (3, _), (4, _), (5, _), (6, _), (7, _)]) rfl ?_
                        exact ih3 n (nI 0) σ (Or.inr ⟨rfl, hE⟩) (by omega) (by rw [if_neg (by decide)]; omega)
                      · obtain ⟨a, ha, ea, ea2⟩ := (hI.liv hrm).resolve_left c106
                        have ea2 : v 13 a = -1 := ea2
                        have hT9 := hK.hT
                        refine g_aload_n h dX11_court_109 rfl rfl ?_
                        refine g_getR h fl_X11_51_10 sh_178 (by decide) rfl dX11_court_110 ?_
                        refine g_iload h dX11_court_113 rfl ?_
                        refine g_top ea ?_
                        refine g_iald h _ _ _ sh_191 (by decide) (by decide) rfl (by omega) dX11_court_115 ?_
                        refine g_top (y := σ a) (congrFun (sc_at _ _ _) a) ?_
                        refine g_if_le (tgt := 123) h dX11_court_116 (by decide) (fun c116 => ?_) (fun c116 => ?_)
                        · have h0 : ¬ σ a = nI 1 := fun q => absurd (q ▸ c116) (by decide)
                          have hE : dfF (lvT v 3) 10 0 (guI v x T) k = nI n := by
                            by_cases q : n < 10
                            · rw [hD, df_s q, if_pos (Or.inr (by rw [ea]; exact Decidable.byContradiction (fun z => h0 ((hQ.2.1 a ha ea2).mpr ((bt_J (by omega)).mp z)))))]
                            · rw [hD, show n = 10 by omega]; rfl
                          refine g_iconst (v := nI 0) h dX11_court_123 (by decide) ?_
                          refine g_istore (ls' := [(0, _), (1, _), (2, _), (3, _), (4, _), (5, _), (6, _), (7, _), (8, _)]) h dX11_court_124 (by decide) rfl rfl ?_
                          refine g_iload h dX11_court_126 rfl ?_
                          refine g_if_ne (tgt := 134) h dX11_court_128 (by decide) (fun q => absurd q (by decide)) (fun _ => ?_)
                          refine g_goto (tgt := 75) h dX11_court_131 (by decide) ?_
                          refine g_del 8 (ls' := [(0, _), (1, _), (2, _), (3, _), (4, _), (5, _), (6, _), (7, _)]) rfl ?_
                          exact ih3 n (nI 0) σ (Or.inr ⟨rfl, hE⟩) (by omega) (by rw [if_neg (by decide)]; omega)
                        · have h1 : σ a = nI 1 := (hQ.1 a (by omega)).resolve_left (fun q => c116 (by rw [q]; decide))
                          have hn9 : n < 10 := by
                            have := cN_pos (p := fun b => decide (σ b = nI 1)) (a := a) (decide_eq_true h1) 10 (by omega)
                            have := hQ.2.2
                            omega
                          refine g_iconst (v := nI 1) h dX11_court_119 (by decide) ?_
                          refine g_goto (tgt := 124) h dX11_court_120 (by decide) ?_
                          refine g_istore (ls' := [(0, _), (1, _), (2, _), (3, _), (4, _), (5, _), (6, _), (7, _), (8, _)]) h dX11_court_124 (by decide) rfl rfl ?_
                          refine g_iload h dX11_court_126 rfl ?_
                          refine g_if_ne (tgt := 134) h dX11_court_128 (by decide) (fun _ => ?_) (fun q => absurd q (by decide))
                          refine g_aload_n h dX11_court_134 rfl rfl ?_
                          refine g_getR h fl_X11_51_10 sh_178 (by decide) rfl dX11_court_135 ?_
                          refine g_iload h dX11_court_138 rfl ?_
                          refine g_top ea ?_
                          refine g_dup2 h dX11_court_140 rfl rfl ?_
                          refine g_iald h _ _ _ sh_191 (by decide) (by decide) rfl (by omega) dX11_court_141 ?_
                          refine g_iconst (v := nI 1) h dX11_court_142 (by decide) ?_
                          refine g_isub h dX11_court_143 ?_
                          refine g_top (y := nI 0) ((congrArg (fun z => z - nI 1) ((congrFun (sc_at _ _ _) a).trans h1)).trans (pk_sub (by omega))) ?_
                          refine g_iast h _ _ _ sh_191 (by decide) (by decide) rfl (by omega) dX11_court_144 ?_
                          refine g_iinc (v := nI (n + 1)) (ls' := [(0, _), (1, _), (2, _), (3, _), (4, _), (5, _), (6, _), (7, _), (8, _)]) h dX11_court_145 rfl (nI_1 n) (by decide) rfl rfl ?_
                          refine g_goto (tgt := 75) h dX11_court_148 (by decide) ?_
                          refine g_del 8 (ls' := [(0, _), (1, _), (2, _), (3, _), (4, _), (5, _), (6, _), (7, _)]) rfl ?_
                          exact g_cv rfl (su_sc _ _ _ _ _) (ih3 (n + 1) (nI 1) (upd σ a (nI 0)) (Or.inl ⟨rfl, lf &&& (oneJ (nI a) ^^^ -1), by omega, by rw [hD, df_s hn9, if_neg (by rw [ea]; exact not_or.mpr ⟨nI_m1 (by omega), (bt_J (by omega)).mpr ((hQ.2.1 a ha ea2).mp h1)⟩), ea, aft_rk], crQ_s hT9 hQ (by omega) h1⟩) (by omega) (by rw [if_pos rfl]; omega))
              exact LP3 13 0 (nI 1) _ (Or.inl ⟨rfl, guI v x T, by omega, by rw [show (k + 0) % 168 = k by omega], crQ_0 hK.hT⟩) (by omega) (by rw [if_pos rfl]; omega)
              
            · have n28 := nle_n (by omega) (by omega) (show ¬ nI (10) ≤ nI (i) from c28)
              refine g_aload_n h dX11_court_31 rfl rfl ?_
              refine g_getR h fl_X11_51_10 sh_178 (by decide) rfl dX11_court_32 ?_
              refine g_iload h dX11_court_35 rfl ?_
              refine g_iload h dX11_court_37 rfl ?_
              refine g_aload_n h dX11_court_39 rfl rfl ?_
              refine g_getR h fl_X11_7_10 sh_178 (by decide) rfl dX11_court_40 ?_
              refine g_iconst (v := nI 1) h dX11_court_43 (by decide) ?_
              refine g_iald h _ _ _ sh_179 (by decide) (by decide) rfl (by omega) dX11_court_44 ?_
              refine g_top (y := nI T) ((congrFun (sc_ne _ _ (by decide)) _).trans ((congrFun (su_cell _ _ (by decide)) _).trans hK.r.ten)) ?_
              refine g_icmp_ge (tgt := 61) h dX11_court_45 (by decide) (fun c45 => ?_) (fun c45 => ?_)
              · have n45 := le_n (by omega) (by omega) (show nI (T) ≤ nI (i) from c45)
                refine g_iconst (v := nI 0) h dX11_court_61 (by decide) ?_
                refine g_top (y := crG T x i) ((b2_f (fun q => by omega)).symm) ?_
                refine g_iast h _ _ _ sh_191 (by decide) (by decide) rfl (by omega) dX11_court_62 ?_
                refine g_iinc (v := nI (i + 1)) (ls' := [(0, _), (1, _), (2, _), (3, _), (4, _), (5, _), (6, _)]) h dX11_court_63 rfl (nI_1 i) (by decide) rfl rfl ?_
                refine g_goto (tgt := 24) h dX11_court_66 (by decide) ?_
                exact g_cv rfl (by rw [su_sc]; exact congrArg _ mv_s) (ih2 (i + 1) (by omega) (by omega))
              · have n45 := nle_n (by omega) (by omega) (show ¬ nI (T) ≤ nI (i) from c45)
                refine g_iload_n h dX11_court_48 rfl rfl ?_
                refine g_iload h dX11_court_49 rfl ?_
                refine g_S h ls_X11_340 (c_X11_isOf x (nI i) _) (fitR hR (by first | decide | omega) (by decide) (by omega)) rfl rfl (Nat.le_of_ble_eq_true rfl) dX11_court_51 ?_
                refine g_if_eq (tgt := 61) h dX11_court_54 (by decide) (fun c54 => ?_) (fun c54 => ?_)
                · refine g_iconst (v := nI 0) h dX11_court_61 (by decide) ?_
                  refine g_top (y := crG T x i) ((b2_f (fun q => b2_0.mp c54 q.2)).symm) ?_
                  refine g_iast h _ _ _ sh_191 (by decide) (by decide) rfl (by omega) dX11_court_62 ?_
                  refine g_iinc (v := nI (i + 1)) (ls' := [(0, _), (1, _), (2, _), (3, _), (4, _), (5, _), (6, _)]) h dX11_court_63 rfl (nI_1 i) (by decide) rfl rfl ?_
                  refine g_goto (tgt := 24) h dX11_court_66 (by decide) ?_
                  exact g_cv rfl (by rw [su_sc]; exact congrArg _ mv_s) (ih2 (i + 1) (by omega) (by omega))
                · refine g_iconst (v := nI 1) h dX11_court_57 (by decide) ?_
                  refine g_goto (tgt := 62) h dX11_court_58 (by decide) ?_
                  refine g_top (y := crG T x i) ((b2_t ⟨n45, b2_n0.mp c54⟩).symm) ?_
                  refine g_iast h _ _ _ sh_191 (by decide) (by decide) rfl (by omega) dX11_court_62 ?_
                  refine g_iinc (v := nI (i + 1)) (ls' := [(0, _), (1, _), (2, _), (3, _), (4, _), (5, _), (6, _)]) h dX11_court_63 rfl (nI_1 i) (by decide) rfl rfl ?_
                  refine g_goto (tgt := 24) h dX11_court_66 (by decide) ?_
                  exact g_cv rfl (by rw [su_sc]; exact congrArg _ mv_s) (ih2 (i + 1) (by omega) (by omega))
        refine g_cv rfl (show sc (su u 178 0 (nI 0)) 191 ρ = sc (su u 178 0 (nI 0)) 191 (mvF ρ (crG T x) 0) by rw [mv_0]) ?_
        exact LP2 (10 + 1) 0 (by omega) (by omega)
        
  refine g_aload_n h dX11_court_0 rfl rfl ?_
  refine g_iconst (v := nI 0) h dX11_court_1 (by decide) ?_
  refine g_putI h pfl_X11_69_10 sh_178 (by decide) rfl dX11_court_2 ?_
  refine g_iconst (v := nI 0) h dX11_court_5 (by decide) ?_
  refine g_istore_n (ls' := [(0, _), (1, _), (2, _), (3, _)]) h dX11_court_6 rfl (by decide) rfl rfl ?_
  refine g_iconst (v := -1) h dX11_court_7 (by decide) ?_
  refine g_istore (ls' := [(0, _), (1, _), (2, _), (3, _), (4, _)]) h dX11_court_8 (by decide) rfl rfl ?_
  refine g_iconst (v := nI 0) h dX11_court_10 (by decide) ?_
  refine g_istore (ls' := [(0, _), (1, _), (2, _), (3, _), (4, _), (5, _)]) h dX11_court_11 (by decide) rfl rfl ?_
  refine g_cv rfl (show _ = sc (su u 178 0 (nI 0)) 191 ((su u 178 0 (nI 0)) 191) from (sc_self _ _).symm) ?_
  exact LP (168 + 1) 0 _ (by omega) (by omega)
