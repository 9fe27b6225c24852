theorem g_aretP {E : EE} {X : XX} {own : String} {cc : ByteArray} {nL n pc : Nat} {ls : List (Nat × Value)} {u : Sto} {P : Res → Sto → Prop} (h : CX E X own cc nL) {mc a : Nat} {rt : FieldType} (hr : X.meth.sig.returnType = some rt) (hrt : (∃ n, rt = .object n) ∨ ∃ t, rt = .array t) (hd : decode cc pc = .ok (.areturn, 1)) (hn : n ≤ mc) (ho : P (.inl (some (.ref a))) u) : G E X (QMP E X P mc) nL n pc ls [.ref a] u := fun H locs ar hP hS hl =>
  W.widen hn (Nat.mul_le_mul_left 6 hn) (vx_ret (W.aret (v := .ref a) h.1 h.2.1 hr hrt (Or.inr ⟨a, rfl⟩) (fun t ht hW => ⟨some (.ref a), u, ho, rfl, wok_end h.2.2.2.2.2 hP hS ht hW, hS.F ht⟩) hS.2.2 hd h.2.2.2.2.1))
abbrev lkP (u : Sto) (a r : Nat) : Prop := ¬ nI (r % 24) < u 11 a ∧ ¬ u 12 a < nI (r % 24)
/-- what the law looks at, of a tenant and a room -/
def fct (u : Sto) (a r : Nat) : Nat → Int32
  | 0 => nI (r / 24)
  | 1 => nI (r % 24)
  | 2 => u 7 a
  | 3 => u 8 a
  | 4 => u 6 r
  | 5 => u 3 9
  | 6 => b2 (lkP u a r)
  | _ => b2 (lvT u 3 (bef r) = nI a ∨ lvT u 3 (aft r) = nI a)
theorem lvT_sc {u : Sto} {k : Nat} {f : Nat → Int32} (r : Nat) (h4 : 4 ≠ k) (h5 : 5 ≠ k) : lvT (sc u k f) 3 r = lvT u 3 r := by
  unfold lvT
  rw [sc_ne u f h4, sc_ne u f h5]
theorem sim_sc {u : Sto} {k : Nat} {f : Nat → Int32} (h : ∀ j, scrB k j = true) : sim (sc u k f) u := fun a b q => by
  by_cases e : a = k
  · subst e; rw [h b] at q; cases q
  · rw [sc_ne _ _ e]
abbrev PL (E : EE) (u : Sto) (a r : Nat) : Res → Sto → Prop := fun o u' => o = .inl (some (.ref (E.ad 25))) ∧ ∃ f, u' = sc u 25 f ∧ ∀ i, i < 8 → f i = fct u a r i
theorem pl_nx {E : EE} {u : Sto} {a r : Nat} : ∀ Ex u', ¬ PL E u a r (.inr Ex) u' := fun _ _ h => nomatch h.1
set_option maxHeartbeats 1000000 in
theorem c_X9_lookAt {E : EE} (a : Nat) (ha : a < 10) (r : Nat) (hr : r < 168) (u : Sto) : CtP E 3 0 yX9_lookAt cX9_lookAt 4 (some (.array .int)) [.ref (E.ad 2), .int (nI a), .int (nI r)] u (PL E u a r) := by
  refine ctp_of (by decide) (Nat.le_of_ble_eq_true rfl) (fun X h hR hrt htab hargs => ?_)
  refine g_sto (sc_self u 25).symm ?_
  refine g_aload_n h dX9_lookAt_0 rfl rfl ?_
  refine g_getR h fl_X9_32_8 sh_2 (by decide) rfl dX9_lookAt_1 ?_
  refine g_iconst (v := nI 0) h dX9_lookAt_4 (by decide) ?_
  refine g_iload_n h dX9_lookAt_5 rfl rfl ?_
  refine g_bipush (v := nI 24) h dX9_lookAt_6 (by decide) ?_
  refine g_idiv h dX9_lookAt_8 (by decide) ?_
  refine g_top (pk_div (a := r) (d := 24) (by omega) (by omega) (by omega)) ?_
  refine g_iast h _ _ _ sh_25 (by decide) (by decide) rfl (by omega) dX9_lookAt_9 ?_
  refine g_sto (su_sc _ _ _ _ _) ?_
  refine g_aload_n h dX9_lookAt_10 rfl rfl ?_
  refine g_getR h fl_X9_32_8 sh_2 (by decide) rfl dX9_lookAt_11 ?_
  refine g_iconst (v := nI 1) h dX9_lookAt_14 (by decide) ?_
  refine g_iload_n h dX9_lookAt_15 rfl rfl ?_
  refine g_bipush (v := nI 24) h dX9_lookAt_16 (by decide) ?_
  refine g_irem h dX9_lookAt_18 (by decide) ?_
  refine g_top (pk_rem (a := r) (d := 24) (by omega) (by omega) (by omega)) ?_
  refine g_iast h _ _ _ sh_25 (by decide) (by decide) rfl (by omega) dX9_lookAt_19 ?_
  refine g_sto (su_sc _ _ _ _ _) ?_
  refine g_aload_n h dX9_lookAt_20 rfl rfl ?_
  refine g_getR h fl_X9_32_8 sh_2 (by decide) rfl dX9_lookAt_21 ?_
  refine g_iconst (v := nI 2) h dX9_lookAt_24 (by decide) ?_
  refine g_aload_n h dX9_lookAt_25 rfl rfl ?_
  refine g_getR h fl_X9_12_8 sh_2 (by decide) rfl dX9_lookAt_26 ?_
  refine g_getR h fl_X9_74_6 sh_3 (by decide) rfl dX9_lookAt_29 ?_
  refine g_iload_n h dX9_lookAt_32 rfl rfl ?_
  refine g_iald h _ _ _ sh_7 (by decide) (by decide) rfl (by omega) dX9_lookAt_33 ?_
  refine g_top (y := u 7 a) (by rw [sc_ne _ _ (by decide)]) ?_
  refine g_iast h _ _ _ sh_25 (by decide) (by decide) rfl (by omega) dX9_lookAt_34 ?_
  refine g_sto (su_sc _ _ _ _ _) ?_
  refine g_aload_n h dX9_lookAt_35 rfl rfl ?_
  refine g_getR h fl_X9_32_8 sh_2 (by decide) rfl dX9_lookAt_36 ?_
  refine g_iconst (v := nI 3) h dX9_lookAt_39 (by decide) ?_
  refine g_aload_n h dX9_lookAt_40 rfl rfl ?_
  refine g_getR h fl_X9_12_8 sh_2 (by decide) rfl dX9_lookAt_41 ?_
  refine g_getR h fl_X9_77_6 sh_3 (by decide) rfl dX9_lookAt_44 ?_
  refine g_iload_n h dX9_lookAt_47 rfl rfl ?_
  refine g_iald h _ _ _ sh_8 (by decide) (by decide) rfl (by omega) dX9_lookAt_48 ?_
  refine g_top (y := u 8 a) (by rw [sc_ne _ _ (by decide)]) ?_
  refine g_iast h _ _ _ sh_25 (by decide) (by decide) rfl (by omega) dX9_lookAt_49 ?_
  refine g_sto (su_sc _ _ _ _ _) ?_
  refine g_aload_n h dX9_lookAt_50 rfl rfl ?_
  refine g_getR h fl_X9_32_8 sh_2 (by decide) rfl dX9_lookAt_51 ?_
  refine g_iconst (v := nI 4) h dX9_lookAt_54 (by decide) ?_
  refine g_aload_n h dX9_lookAt_55 rfl rfl ?_
  refine g_getR h fl_X9_12_8 sh_2 (by decide) rfl dX9_lookAt_56 ?_
  refine g_getR h fl_X9_71_6 sh_3 (by decide) rfl dX9_lookAt_59 ?_
  refine g_iload_n h dX9_lookAt_62 rfl rfl ?_
  refine g_iald h _ _ _ sh_6 (by decide) (by decide) rfl (by omega) dX9_lookAt_63 ?_
  refine g_top (y := u 6 r) (by rw [sc_ne _ _ (by decide)]) ?_
  refine g_iast h _ _ _ sh_25 (by decide) (by decide) rfl (by omega) dX9_lookAt_64 ?_
  refine g_sto (su_sc _ _ _ _ _) ?_
  refine g_aload_n h dX9_lookAt_65 rfl rfl ?_
  refine g_getR h fl_X9_32_8 sh_2 (by decide) rfl dX9_lookAt_66 ?_
  refine g_iconst (v := nI 5) h dX9_lookAt_69 (by decide) ?_
  refine g_aload_n h dX9_lookAt_70 rfl rfl ?_
  refine g_getR h fl_X9_12_8 sh_2 (by decide) rfl dX9_lookAt_71 ?_
  refine g_getI h fl_X9_80_6 sh_3 (by decide) rfl dX9_lookAt_74 ?_
  refine g_top (y := u 3 9) (by rw [sc_ne _ _ (by decide)]) ?_
  refine g_iast h _ _ _ sh_25 (by decide) (by decide) rfl (by omega) dX9_lookAt_77 ?_
  refine g_sto (su_sc _ _ _ _ _) ?_
  refine g_aload_n h dX9_lookAt_78 rfl rfl ?_
  refine g_getR h fl_X9_32_8 sh_2 (by decide) rfl dX9_lookAt_79 ?_
  refine g_bipush (v := nI 6) h dX9_lookAt_82 (by decide) ?_
  refine g_aload_n h dX9_lookAt_84 rfl rfl ?_
  refine g_getR h fl_X9_21_8 sh_2 (by decide) rfl dX9_lookAt_85 ?_
  refine g_iload_n h dX9_lookAt_88 rfl rfl ?_
  refine g_iload_n h dX9_lookAt_89 rfl rfl ?_
  refine g_bipush (v := nI 24) h dX9_lookAt_90 (by decide) ?_
  refine g_irem h dX9_lookAt_92 (by decide) ?_
  refine g_top (pk_rem (a := r) (d := 24) (by omega) (by omega) (by omega)) ?_
  refine g_V h lv_X9_83_X4 sh_10 (by decide) rfl (c_X4_likesHour _ (by omega) _ _) (fitR hR (by decide) (by decide) (by omega)) rfl rfl (Nat.le_of_ble_eq_true rfl) dX9_lookAt_93 ?_
  refine g_top (y := b2 (lkP u a r)) (by rw [sc_ne _ _ (by decide), sc_ne _ _ (by decide)]) ?_
  refine g_j1 104 (x := b2 (lkP u a r)) ?_ (fun J104 => ?_)
  · refine g_iast h _ _ _ sh_25 (by decide) (by decide) rfl (by omega) dX9_lookAt_104 ?_
    refine g_sto (su_sc _ _ _ _ _) ?_
    refine g_aload_n h dX9_lookAt_105 rfl rfl ?_
    refine g_getR h fl_X9_12_8 sh_2 (by decide) rfl dX9_lookAt_106 ?_
    refine g_iload_n h dX9_lookAt_109 rfl rfl ?_
    refine g_S h ls_X9_87 (c_X10_before _ (by omega) _) (fitR hR (by decide) (by decide) (by omega)) rfl rfl (Nat.le_of_ble_eq_true rfl) dX9_lookAt_110 ?_
    refine g_V h lv_X9_57_X7 sh_3 (by decide) rfl (c_X7_livesIn 3 (by decide) _ (bef_lt hr) _) (fitR hR (by decide) (by decide) (by omega)) rfl rfl (Nat.le_of_ble_eq_true rfl) dX9_lookAt_113 ?_
    refine g_top (y := lvT u 3 (bef r)) (lvT_sc _ (by decide) (by decide)) ?_
    refine g_iload_n h dX9_lookAt_116 rfl rfl ?_
    refine g_j2 140 (x := b2 (lvT u 3 (bef r) = nI a ∨ lvT u 3 (aft r) = nI a)) ?_ (fun J140 => ?_)
    · refine g_istore_n (ls' := [(0, _), (1, _), (2, _), (3, _)]) h dX9_lookAt_140 rfl (by decide) rfl rfl ?_
      refine g_aload_n h dX9_lookAt_141 rfl rfl ?_
      refine g_getR h fl_X9_32_8 sh_2 (by decide) rfl dX9_lookAt_142 ?_
      refine g_bipush (v := nI 7) h dX9_lookAt_145 (by decide) ?_
      refine g_iload_n h dX9_lookAt_147 rfl rfl ?_
      refine g_j1 156 (x := b2 (lvT u 3 (bef r) = nI a ∨ lvT u 3 (aft r) = nI a)) ?_ (fun J156 => ?_)
      · refine g_iast h _ _ _ sh_25 (by decide) (by decide) rfl (by omega) dX9_lookAt_156 ?_
        refine g_sto (su_sc _ _ _ _ _) ?_
        refine g_aload_n h dX9_lookAt_157 rfl rfl ?_
        refine g_getR h fl_X9_32_8 sh_2 (by decide) rfl dX9_lookAt_158 ?_
        refine g_aretP h hrt (Or.inr ⟨_, rfl⟩) dX9_lookAt_161 (by omega) ⟨rfl, _, rfl, fun i hi => ?_⟩
        match i, hi with
        | 0, _ => simp [upd, fct]
        | 1, _ => simp [upd, fct]
        | 2, _ => simp [upd, fct]
        | 3, _ => simp [upd, fct]
        | 4, _ => simp [upd, fct]
        | 5, _ => simp [upd, fct]
        | 6, _ => simp [upd, fct]
        | 7, _ => simp [upd, fct]
      · refine g_if_eq (tgt := 155) h dX9_lookAt_148 (by decide) (fun c148 => ?_) (fun c148 => ?_)
        · refine g_iconst (v := nI 0) h dX9_lookAt_155 (by decide) ?_
          exact g_top (by first | exact (b2_f (b2_0.mp c148)).symm | exact (b2_t (b2_n0.mp c148)).symm) J156
        · refine g_iconst (v := nI 1) h dX9_lookAt_151 (by decide) ?_
          refine g_goto (tgt := 156) h dX9_lookAt_152 (by decide) ?_
          exact g_top (by first | exact (b2_f (b2_0.mp c148)).symm | exact (b2_t (b2_n0.mp c148)).symm) J156
    · refine g_icmp_eq (tgt := 135) h dX9_lookAt_117 (by decide) (fun c117 => ?_) (fun c117 => ?_)
      · refine g_iconst (v := nI 1) h dX9_lookAt_135 (by decide) ?_
        refine g_goto (tgt := 140) h dX9_lookAt_136 (by decide) ?_
        exact g_top (by simp_all [b2]) J140
      · refine g_aload_n h dX9_lookAt_120 rfl rfl ?_
        refine g_getR h fl_X9_12_8 sh_2 (by decide) rfl dX9_lookAt_121 ?_
        refine g_iload_n h dX9_lookAt_124 rfl rfl ?_
        refine g_S h ls_X9_90 (c_X10_after _ (by omega) _) (fitR hR (by decide) (by decide) (by omega)) rfl rfl (Nat.le_of_ble_eq_true rfl) dX9_lookAt_125 ?_
        refine g_V h lv_X9_57_X7 sh_3 (by decide) rfl (c_X7_livesIn 3 (by decide) _ (aft_lt r) _) (fitR hR (by decide) (by decide) (by omega)) rfl rfl (Nat.le_of_ble_eq_true rfl) dX9_lookAt_128 ?_
        refine g_top (y := lvT u 3 (aft r)) (lvT_sc _ (by decide) (by decide)) ?_
        refine g_iload_n h dX9_lookAt_131 rfl rfl ?_
        refine g_icmp_ne (tgt := 139) h dX9_lookAt_132 (by decide) (fun c132 => ?_) (fun c132 => ?_)
        · refine g_iconst (v := nI 0) h dX9_lookAt_139 (by decide) ?_
          exact g_top (by simp_all [b2]) J140
        · refine g_iconst (v := nI 1) h dX9_lookAt_135 (by decide) ?_
          refine g_goto (tgt := 140) h dX9_lookAt_136 (by decide) ?_
          exact g_top (by simp_all [b2]) J140
  · refine g_if_eq (tgt := 103) h dX9_lookAt_96 (by decide) (fun c96 => ?_) (fun c96 => ?_)
    · refine g_iconst (v := nI 0) h dX9_lookAt_103 (by decide) ?_
      exact g_top (by first | exact (b2_f (b2_0.mp c96)).symm | exact (b2_t (b2_n0.mp c96)).symm) J104
    · refine g_iconst (v := nI 1) h dX9_lookAt_99 (by decide) ?_
      refine g_goto (tgt := 104) h dX9_lookAt_100 (by decide) ?_
      exact g_top (by first | exact (b2_f (b2_0.mp c96)).symm | exact (b2_t (b2_n0.mp c96)).symm) J104
