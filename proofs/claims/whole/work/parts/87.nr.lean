-- after: 38.r 39.s 40.t 47.str 48.tx 49.ty 50.tt 51.tu 52.tv 53.lw 54.lx 55.ly 56.lz 57.ma 58.mb 59.mc 60.md 61.me 62.mf 70.na 71.nb 72.nc 73.nd 74.ne 75.nf 76.ng 77.nh 78.ni 79.nj 80.nk 81.nl 82.nm 84.no 85.np 86.nq
/-- the model's world beside v's: its row 179 alone -/
abbrev LK (v u : Sto) (T W : Nat) : Prop := (LKt v 3 (u 179)) ∧ (LKr v 10 (u 179) T W) ∧ (LKl v (u 179)) ∧ (∀ a, a < 10 → v 8 a = ctI (fun m => decide (v 4 m = nI a)) 168)
theorem LK.t {v u : Sto} {T W : Nat} (h : LK v u T W) : LKt v 3 (u 179) := h.1
theorem LK.r {v u : Sto} {T W : Nat} (h : LK v u T W) : LKr v 10 (u 179) T W := h.2.1
theorem LK.l {v u : Sto} {T W : Nat} (h : LK v u T W) : LKl v (u 179) := h.2.2.1
theorem LK.cnt {v u : Sto} {T W : Nat} (h : LK v u T W) : ∀ a, a < 10 → v 8 a = ctI (fun m => decide (v 4 m = nI a)) 168 := h.2.2.2
theorem LK.c {v u w : Sto} {T W : Nat} (h : LK v u T W) (e : w 179 = u 179) : LK v w T W := ⟨by rw [e]; exact h.t, by rw [e]; exact h.r, by rw [e]; exact h.l, h.cnt⟩
/-- alike but for what a reading writes -/
def simA (t u : Sto) : Prop := (∀ k, k ≠ 178 → k ≠ 184 → t k = u k) ∧ sim t u
theorem simA.refl (u : Sto) : simA u u := ⟨fun _ _ _ => rfl, sim.refl u⟩
theorem simA.trans {a b c : Sto} (h : simA a b) (g : simA b c) : simA a c := ⟨fun k h1 h2 => (h.1 k h1 h2).trans (g.1 k h1 h2), h.2.trans g.2⟩
def QA2 (v u : Sto) (a r : Nat) : Res → Sto → Prop := fun o t => o = .inl none ∧ simA t u ∧ t 178 17 = b2 (brP v a r = true) ∧ t 178 18 = rtI v a r ∧ t 178 19 = vlI v a r
theorem qa2_nx {v u : Sto} {a r : Nat} : ∀ Ex s, ¬ QA2 v u a r (.inr Ex) s := fun _ _ h => nomatch h.1
def QA (v u : Sto) (a r : Nat) : Res → Sto → Prop := fun o t => o = .inl none ∧ sim t u ∧ t 178 17 = b2 (brP v a r = true) ∧ t 178 18 = rtI v a r ∧ t 178 19 = vlI v a r
theorem qa_nx {v u : Sto} {a r : Nat} : ∀ Ex s, ¬ QA v u a r (.inr Ex) s := fun _ _ h => nomatch h.1
theorem bef_k {r : Nat} (h : r < 168) : (r + 167) % 168 = bef r := by unfold bef; split <;> omega
theorem aft_k {r : Nat} (h : r < 168) : (r + 169) % 168 = aft r := by unfold aft; split <;> omega
theorem lwx {r : Nat} (h : r < 168) : nI r - nI 1 + nI 168 = nI (r + 167) := by
  have h1 : (nI r - nI 1).toInt = (r : Int) - 1 := by
    rw [Int32.toInt_sub, nI_toInt (by omega), nI_toInt (by omega), Int.bmod_eq_of_le (by omega) (by omega)]; omega
  refine Int32.toInt_inj.mp ?_
  rw [Int32.toInt_add, h1, nI_toInt (by omega), nI_toInt (by omega), Int.bmod_eq_of_le (by omega) (by omega)]
  omega
theorem lwy {r : Nat} (h : r < 168) : nI r + nI 1 + nI 168 = nI (r + 169) := by
  rw [nI_add, nI_add]
theorem sim_of_mr {x u : Sto} {B l p w : Int32} (hb : ∀ k, k ≠ 178 → k ≠ 184 → x k = u k) (h : ∀ j, scrB 178 j = false → j ≠ 12 → x 178 j = u 178 j) (hw : w = u 178 12) : sim (mrS x B l p w) u := by
  intro k j q
  by_cases e : k = 178
  · subst e
    by_cases e9 : j = 12
    · subst e9; rw [mr_r12, hw]
    · by_cases e1 : j = 9
      · subst e1; exact absurd q (by decide)
      · by_cases e2 : j = 10
        · subst e2; exact absurd q (by decide)
        · by_cases e3 : j = 11
          · subst e3; exact absurd q (by decide)
          · have : mrS x B l p w 178 j = x 178 j := by simp [mrS, e1, e2, e3, e9]
            rw [this]; exact h j q e9
  · rw [mr_o e]
    by_cases e4 : k = 184
    · subst e4; exact absurd q (by simp [scrB])
    · rw [hb k e e4]
theorem scr_n {j : Nat} (h : scrB 178 j = false) : j ≠ 13 ∧ j ≠ 15 ∧ j ≠ 16 ∧ j ≠ 17 ∧ j ≠ 18 ∧ j ≠ 19 := by
  refine ⟨?_, ?_, ?_, ?_, ?_, ?_⟩ <;> (intro e; subst e; exact absurd h (by decide))
theorem ask_F {v X : Sto} {a r : Nat} (h0 : X 184 0 = nI (r / 24)) (h1 : X 184 1 = nI (r % 24)) (h2 : X 184 2 = v 7 a) (h3 : X 184 3 = v 8 a) (h4 : X 184 4 = v 6 r) (h5 : X 184 5 = v 3 9) (h6 : X 178 15 = b2 (lkP v a r)) (h7 : X 178 16 = b2 (lvT v 3 (bef r) = nI a ∨ lvT v 3 (aft r) = nI a)) : FA X (fct v a r) := by
  refine ⟨fun i hi => ?_, by rw [h6]; exact b2_and, by rw [h7]; exact b2_and, b2_01 _, b2_01 _⟩
  match i, hi with
  | 0, _ => exact h0
  | 1, _ => exact h1
  | 2, _ => exact h2
  | 3, _ => exact h3
  | 4, _ => exact h4
  | 5, _ => exact h5
theorem ask_q {v u X : Sto} {a r L q : Nat} {t : List LN} (hv5 : v 19 5 = nI t.length) (hl : t.length ≤ 12) (hs : lenS t ≤ L) (hL : L ≤ 400) (hW : LWp v 19 0 0 t) (hk : knd t) (hb : ∀ k, k ≠ 178 → k ≠ 184 → X k = u k) (h : ∀ j, scrB 178 j = false → j ≠ 12 → X 178 j = u 178 j) (h17 : X 178 17 = nI 0) (h18 : X 178 18 = nI 0) (h19 : X 178 19 = nI 0) : QA2 v u a r (.inl none) (mrS (lvA X (fct v a r) t) (nI 1080) (nI L) (nI q) (u 178 12)) := by
  have hn : ¬ v 19 5 = -1 := by rw [hv5]; exact nI_m4 (by omega)
  have hx : ix (v 19 5) = t.length := by rw [hv5]; exact ix_nI (by omega)
  have B := ask_b (fa := fct v a r) (by omega : lenS t ≤ 400) hW
  have V := lvA_brv (fa := fct v a r) t X
  have S := lvA_s (fa := fct v a r) t X hk
  refine ⟨rfl, ⟨fun k h1 h2 => (mr_oc h1).trans ((V.1 k h1).trans (hb k h1 h2)), sim_of_mr (fun k h1 h2 => (V.1 k h1).trans (hb k h1 h2)) (fun j hj h12 => (V.2 j (by have := scr_n hj; omega)).trans (h j hj h12)) rfl⟩, (mr_s (by decide)).trans ?_, (mr_s (by decide)).trans ?_, (mr_s (by decide)).trans ?_⟩
  · rw [lvA_17, h17, brP, if_neg hn, hx, B.1]; rfl
  · rw [S.1, h18, rtI, if_neg hn, hx, B.2.1]; rfl
  · rw [S.2, h19, vlI, if_neg hn, hx, B.2.2]; rfl
set_option maxHeartbeats 1000000 in
theorem c_X11_asksA {E : EE} (v : Sto) (T W a r : Nat) (ha : a < T) (hr : r < 168) (u : Sto) (hK : LK v u T W) : CtP E 32 0 yX11_asks cX11_asks 5 none [.ref (E.ad 178), .int (nI a), .int (nI r)] u (QA2 v u a r) := by
  have hT := hK.r.hT
  refine Eq.mp (congrArg (fun z => CtP E 32 0 yX11_asks cX11_asks 5 none [.ref (E.ad 178), .int (nI a), .int (nI r)] z (QA2 v u a r)) (mr_eta (u := u))) ?_
  refine ctp_of (by decide) (Nat.le_of_ble_eq_true rfl) (fun X h hR hrt htab hargs => ?_)
  refine g_iload_n h dX11_asks_0 rfl rfl ?_
  refine g_bipush (v := nI 24) h dX11_asks_1 (by decide) ?_
  refine g_irem h dX11_asks_3 (by decide) ?_
  refine g_top (pk_rem (a := r) (d := 24) (by omega) (by omega) (by omega)) ?_
  refine g_istore_n (ls' := [(0, _), (1, _), (2, _), (3, _)]) h dX11_asks_4 rfl (by decide) rfl rfl ?_
  refine g_aload_n h dX11_asks_5 rfl rfl ?_
  refine g_iload_n h dX11_asks_6 rfl rfl ?_
  refine g_aload_n h dX11_asks_7 rfl rfl ?_
  refine g_iload_n h dX11_asks_8 rfl rfl ?_
  refine g_iconst (v := nI 1) h dX11_asks_9 (by decide) ?_
  refine g_V h lv_X11_76_X11 sh_178 (by decide) rfl (c_X11_of a 1 (by omega) (by decide) _) (fitR hR (by first | decide | omega) (by decide) (by omega)) rfl rfl (Nat.le_of_ble_eq_true rfl) dX11_asks_10 ?_
  refine g_top (y := v 11 a) ((congrFun (show _ = u 179 by rw [mr_oc (by decide)]; repeat rw [su_cell _ _ (by decide)]) _).trans ((congrArg (u 179) (show 16 + 4 * a + 1 = 17 + 4 * a by omega)).trans (hK.r.lfr a ha))) ?_
  refine g_j2 31 (x := (b2 (lkP v a r))) ?_ (fun J31 => ?_)
  · refine g_putZ h pfl_X11_218_10 sh_178 (by decide) rfl (b2_01 _) dX11_asks_31 ?_
    refine g_sto (mr_ss (by decide)) ?_
    refine g_aload_n h dX11_asks_34 rfl rfl ?_
    refine g_iconst (v := nI 0) h dX11_asks_35 (by decide) ?_
    refine g_putZ h pfl_X11_257_10 sh_178 (by decide) rfl (Or.inl rfl) dX11_asks_36 ?_
    refine g_sto (mr_ss (by decide)) ?_
    refine g_aload_n h dX11_asks_39 rfl rfl ?_
    refine g_aload_n h dX11_asks_40 rfl rfl ?_
    refine g_getR h fl_X11_7_10 sh_178 (by decide) rfl dX11_asks_41 ?_
    refine g_iconst (v := nI 2) h dX11_asks_44 (by decide) ?_
    refine g_iald h _ _ _ sh_179 (by decide) (by decide) rfl (by omega) dX11_asks_45 ?_
    refine g_top (mr_o (by decide)) ?_
    refine g_top (y := u 179 2) (by repeat rw [su_cell _ _ (by decide)]) ?_
    refine g_iconst (v := -1) h dX11_asks_46 (by decide) ?_
    refine g_j2 55 (x := (if u 179 2 = -1 then nI 5 else nI 0)) ?_ (fun J55 => ?_)
    · refine g_putI h pfl_X11_260_10 sh_178 (by decide) rfl dX11_asks_55 ?_
      refine g_sto (mr_ss (by decide)) ?_
      refine g_aload_n h dX11_asks_58 rfl rfl ?_
      refine g_aload_n h dX11_asks_59 rfl rfl ?_
      refine g_getR h fl_X11_7_10 sh_178 (by decide) rfl dX11_asks_60 ?_
      refine g_iconst (v := nI 2) h dX11_asks_63 (by decide) ?_
      refine g_iald h _ _ _ sh_179 (by decide) (by decide) rfl (by omega) dX11_asks_64 ?_
      refine g_top (mr_o (by decide)) ?_
      refine g_top (y := u 179 2) (by repeat rw [su_cell _ _ (by decide)]) ?_
      refine g_iconst (v := -1) h dX11_asks_65 (by decide) ?_
      refine g_j2 81 (x := (if u 179 2 = -1 then b2 (lkP v a r) else nI 0)) ?_ (fun J81 => ?_)
      · refine g_putI h pfl_X11_262_10 sh_178 (by decide) rfl dX11_asks_81 ?_
        refine g_sto (mr_ss (by decide)) ?_
        refine g_aload_n h dX11_asks_84 rfl rfl ?_
        refine g_getR h fl_X11_7_10 sh_178 (by decide) rfl dX11_asks_85 ?_
        refine g_iconst (v := nI 2) h dX11_asks_88 (by decide) ?_
        refine g_iald h _ _ _ sh_179 (by decide) (by decide) rfl (by omega) dX11_asks_89 ?_
        refine g_top (mr_o (by decide)) ?_
        refine g_top (y := u 179 2) (by repeat rw [su_cell _ _ (by decide)]) ?_
        refine g_iconst (v := -1) h dX11_asks_90 (by decide) ?_
        refine g_icmp_ne (tgt := 95) h dX11_asks_91 (by decide) (fun c91 => ?_) (fun c91 => ?_)
        · obtain ⟨t, L, hL, hv5, hg2, hg3, hP, hW⟩ := hK.l.resolve_left (fun z => c91 z.2)
          have hw := law_w hP
          refine g_aload_n h dX11_asks_95 rfl rfl ?_
          refine g_aload_n h dX11_asks_96 rfl rfl ?_
          refine g_iload_n h dX11_asks_97 rfl rfl ?_
          refine g_iconst (v := nI 1) h dX11_asks_98 (by decide) ?_
          refine g_isub h dX11_asks_99 ?_
          refine g_V h lv_X11_264_X11 sh_178 (by decide) rfl (c_X11_livesIn (nI r - nI 1) (r + 167) (lwx hr) (by omega) v T W _ (hK.c (show _ = u 179 by rw [mr_oc (by decide)]; repeat rw [su_cell _ _ (by decide)])).t) (fitR hR (by first | decide | omega) (by decide) (by omega)) rfl rfl (Nat.le_of_ble_eq_true rfl) dX11_asks_100 ?_
          refine g_top (congrArg (lvT v 3) (bef_k hr)) ?_
          refine g_iload_n h dX11_asks_103 rfl rfl ?_
          refine g_j2 123 (x := (b2 (lvT v 3 (bef r) = nI a ∨ lvT v 3 (aft r) = nI a))) ?_ (fun J123 => ?_)
          · refine g_putZ h pfl_X11_224_10 sh_178 (by decide) rfl (b2_01 _) dX11_asks_123 ?_
            refine g_sto (mr_ss (by decide)) ?_
            refine g_aload_n h dX11_asks_126 rfl rfl ?_
            refine g_getR h fl_X11_29_10 sh_178 (by decide) rfl dX11_asks_127 ?_
            refine g_iconst (v := nI 0) h dX11_asks_130 (by decide) ?_
            refine g_iload_n h dX11_asks_131 rfl rfl ?_
            refine g_bipush (v := nI 24) h dX11_asks_132 (by decide) ?_
            refine g_idiv h dX11_asks_134 (by decide) ?_
            refine g_top (pk_div (a := r) (d := 24) (by omega) (by omega) (by omega)) ?_
            refine g_iast h _ _ _ sh_184 (by decide) (by decide) rfl (by omega) dX11_asks_135 ?_
            refine g_sto (mr_su (by decide)) ?_
            refine g_aload_n h dX11_asks_136 rfl rfl ?_
            refine g_getR h fl_X11_29_10 sh_178 (by decide) rfl dX11_asks_137 ?_
            refine g_iconst (v := nI 1) h dX11_asks_140 (by decide) ?_
            refine g_iload_n h dX11_asks_141 rfl rfl ?_
            refine g_iast h _ _ _ sh_184 (by decide) (by decide) rfl (by omega) dX11_asks_142 ?_
            refine g_sto (mr_su (by decide)) ?_
            refine g_aload_n h dX11_asks_143 rfl rfl ?_
            refine g_getR h fl_X11_29_10 sh_178 (by decide) rfl dX11_asks_144 ?_
            refine g_iconst (v := nI 2) h dX11_asks_147 (by decide) ?_
            refine g_aload_n h dX11_asks_148 rfl rfl ?_
            refine g_iload_n h dX11_asks_149 rfl rfl ?_
            refine g_iconst (v := nI 0) h dX11_asks_150 (by decide) ?_
            refine g_V h lv_X11_76_X11 sh_178 (by decide) rfl (c_X11_of a 0 (by omega) (by decide) _) (fitR hR (by first | decide | omega) (by decide) (by omega)) rfl rfl (Nat.le_of_ble_eq_true rfl) dX11_asks_151 ?_
            refine g_top (y := v 7 a) ((congrFun (show _ = u 179 by rw [mr_oc (by decide)]; repeat rw [su_cell _ _ (by decide)]) _).trans (hK.t.con a (by omega))) ?_
            refine g_iast h _ _ _ sh_184 (by decide) (by decide) rfl (by omega) dX11_asks_154 ?_
            refine g_sto (mr_su (by decide)) ?_
            refine g_aload_n h dX11_asks_155 rfl rfl ?_
            refine g_getR h fl_X11_29_10 sh_178 (by decide) rfl dX11_asks_156 ?_
            refine g_iconst (v := nI 3) h dX11_asks_159 (by decide) ?_
            refine g_aload_n h dX11_asks_160 rfl rfl ?_
            refine g_iload_n h dX11_asks_161 rfl rfl ?_
            refine g_V h lv_X11_267_X11 sh_178 (by decide) rfl (c_X11_ownsOf (nI a) v T W _ (hK.c (show _ = u 179 by rw [mr_oc (by decide)]; repeat rw [su_cell _ _ (by decide)])).t) (fitR hR (by first | decide | omega) (by decide) (by omega)) rfl rfl (Nat.le_of_ble_eq_true rfl) dX11_asks_162 ?_
            refine g_top (hK.cnt a (by omega)).symm ?_
            refine g_iast h _ _ _ sh_184 (by decide) (by decide) rfl (by omega) dX11_asks_165 ?_
            refine g_sto (mr_su (by decide)) ?_
            refine g_aload_n h dX11_asks_166 rfl rfl ?_
            refine g_getR h fl_X11_29_10 sh_178 (by decide) rfl dX11_asks_167 ?_
            refine g_iconst (v := nI 4) h dX11_asks_170 (by decide) ?_
            refine g_aload_n h dX11_asks_171 rfl rfl ?_
            refine g_iload_n h dX11_asks_172 rfl rfl ?_
            refine g_iconst (v := nI 2) h dX11_asks_173 (by decide) ?_
            refine g_V h lv_X11_84_X11 sh_178 (by decide) rfl (c_X11_ofRoom r 2 hr (by decide) _) (fitR hR (by first | decide | omega) (by decide) (by omega)) rfl rfl (Nat.le_of_ble_eq_true rfl) dX11_asks_174 ?_
            refine g_top (y := v 6 r) ((congrFun (show _ = u 179 by rw [mr_oc (by decide)]; repeat rw [su_cell _ _ (by decide)]) _).trans ((congrArg (u 179) (show 88 + 4 * r + 2 = 90 + 4 * r by omega)).trans (hK.t.gds r hr))) ?_
            refine g_iast h _ _ _ sh_184 (by decide) (by decide) rfl (by omega) dX11_asks_177 ?_
            refine g_sto (mr_su (by decide)) ?_
            refine g_aload_n h dX11_asks_178 rfl rfl ?_
            refine g_getR h fl_X11_29_10 sh_178 (by decide) rfl dX11_asks_179 ?_
            refine g_iconst (v := nI 5) h dX11_asks_182 (by decide) ?_
            refine g_aload_n h dX11_asks_183 rfl rfl ?_
            refine g_getR h fl_X11_7_10 sh_178 (by decide) rfl dX11_asks_184 ?_
            refine g_iconst (v := nI 4) h dX11_asks_187 (by decide) ?_
            refine g_iald h _ _ _ sh_179 (by decide) (by decide) rfl (by omega) dX11_asks_188 ?_
            refine g_top (mr_o (by decide)) ?_
            refine g_top (y := v 3 9) (by (repeat rw [su_cell _ _ (by decide)]); exact hK.t.wk) ?_
            refine g_iast h _ _ _ sh_184 (by decide) (by decide) rfl (by omega) dX11_asks_189 ?_
            refine g_sto (mr_su (by decide)) ?_
            refine g_aload_n h dX11_asks_190 rfl rfl ?_
            refine g_getI h fl_X11_25_10 sh_178 (by decide) rfl dX11_asks_191 ?_
            refine g_top mr_r12 ?_
            refine g_istore (ls' := [(0, _), (1, _), (2, _), (3, _), (4, _)]) h dX11_asks_194 (by decide) rfl rfl ?_
            refine g_aload_n h dX11_asks_196 rfl rfl ?_
            refine g_iconst (v := -1) h dX11_asks_197 (by decide) ?_
            refine g_putI h pfl_X11_25_10 sh_178 (by decide) rfl dX11_asks_198 ?_
            refine g_sto mr_w12 ?_
            refine g_aload_n h dX11_asks_201 rfl rfl ?_
            refine g_sipush (v := nI 1080) h dX11_asks_202 (by decide) ?_
            refine g_putI h pfl_X11_94_10 sh_178 (by decide) rfl dX11_asks_205 ?_
            refine g_sto mr_w9 ?_
            refine g_aload_n h dX11_asks_208 rfl rfl ?_
            refine g_aload_n h dX11_asks_209 rfl rfl ?_
            refine g_getR h fl_X11_7_10 sh_178 (by decide) rfl dX11_asks_210 ?_
            refine g_iconst (v := nI 3) h dX11_asks_213 (by decide) ?_
            refine g_iald h _ _ _ sh_179 (by decide) (by decide) rfl (by omega) dX11_asks_214 ?_
            refine g_top (mr_o (by decide)) ?_
            refine g_top (y := nI L) (by (repeat rw [su_cell _ _ (by decide)]); exact hg3) ?_
            refine g_putI h pfl_X11_100_10 sh_178 (by decide) rfl dX11_asks_215 ?_
            refine g_sto mr_w10 ?_
            refine g_aload_n h dX11_asks_218 rfl rfl ?_
            refine g_iconst (v := nI 0) h dX11_asks_219 (by decide) ?_
            refine g_putI h pfl_X11_97_10 sh_178 (by decide) rfl dX11_asks_220 ?_
            refine g_sto mr_w11 ?_
            refine g_aload_n h dX11_asks_223 rfl rfl ?_
            refine g_iconst (v := nI 0) h dX11_asks_224 (by decide) ?_
            refine g_putI h pfl_X11_184_10 sh_178 (by decide) rfl dX11_asks_225 ?_
            refine g_sto (mr_ss (by decide)) ?_
            refine g_aload_n h dX11_asks_228 rfl rfl ?_
            refine g_iconst (v := nI 1) h dX11_asks_229 (by decide) ?_
            refine g_VP h lv_X11_199_X11 sh_178 (by decide) rfl (c_X11_read_t (nI 1080) (fun k => u 179 (1080 + k)) L (fct v a r) _ (Or.inr ⟨rfl, fun k hk => by repeat rw [su_cell _ _ (by decide)]⟩) hL (ask_F (by (repeat first | rw [su_i (by decide)] | rw [su_cell _ _ (by decide)]); exact su_k) (by (repeat first | rw [su_i (by decide)] | rw [su_cell _ _ (by decide)]); exact su_k) (by (repeat first | rw [su_i (by decide)] | rw [su_cell _ _ (by decide)]); exact su_k) (by (repeat first | rw [su_i (by decide)] | rw [su_cell _ _ (by decide)]); exact su_k) (by (repeat first | rw [su_i (by decide)] | rw [su_cell _ _ (by decide)]); exact su_k) (by (repeat first | rw [su_i (by decide)] | rw [su_cell _ _ (by decide)]); exact su_k) (by (repeat first | rw [su_i (by decide)] | rw [su_cell _ _ (by decide)]); exact su_k) (by (repeat first | rw [su_i (by decide)] | rw [su_cell _ _ (by decide)]); exact su_k)) su_k) qrl_nx (fitR hR (by first | decide | omega) (by decide) (by omega)) rfl rfl (Nat.le_of_ble_eq_true rfl) dX11_asks_230 (fun v230 u230 hs230 => ?_)
            rw [hP] at hs230
            obtain ⟨q9, hq9, hv230, rfl⟩ := hs230
            · cases hv230
              refine g_pop h dX11_asks_233 rfl ?_
              refine g_aload_n h dX11_asks_234 rfl rfl ?_
              refine g_iload h dX11_asks_235 rfl ?_
              refine g_putI h pfl_X11_25_10 sh_178 (by decide) rfl dX11_asks_237 ?_
              refine g_sto mr_w12 ?_
              exact g_vretP h hrt dX11_asks_240 (by omega) (ask_q hv5 hw.2 hw.1 hL hW (law_k2 hP) (fun k h1 h2 => by repeat first | rw [su_cell _ _ h1] | rw [su_cell _ _ h2]) (fun j hj h12 => by have := scr_n hj; repeat first | rw [su_i (by omega)] | rw [su_cell _ _ (by decide)]) (by (repeat first | rw [su_i (by decide)] | rw [su_cell _ _ (by decide)]); exact su_k) (by (repeat first | rw [su_i (by decide)] | rw [su_cell _ _ (by decide)]); exact (su_k.trans (if_neg c91))) (by (repeat first | rw [su_i (by decide)] | rw [su_cell _ _ (by decide)]); exact (su_k.trans (if_neg c91))))
          · refine g_icmp_eq (tgt := 118) h dX11_asks_104 (by decide) (fun c104 => ?_) (fun c104 => ?_)
            · refine g_iconst (v := nI 1) h dX11_asks_118 (by decide) ?_
              refine g_goto (tgt := 123) h dX11_asks_119 (by decide) ?_
              exact g_top (by first | exact (b2_t (p := (lvT v 3 (bef r) = nI a ∨ lvT v 3 (aft r) = nI a)) (Or.inl c104)).symm | exact (b2_f (p := (lvT v 3 (bef r) = nI a ∨ lvT v 3 (aft r) = nI a)) (fun q => q.elim c104 c115)).symm | exact (b2_t (p := (lvT v 3 (bef r) = nI a ∨ lvT v 3 (aft r) = nI a)) (Or.inr c115)).symm) J123
            · refine g_aload_n h dX11_asks_107 rfl rfl ?_
              refine g_iload_n h dX11_asks_108 rfl rfl ?_
              refine g_iconst (v := nI 1) h dX11_asks_109 (by decide) ?_
              refine g_iadd h dX11_asks_110 ?_
              refine g_V h lv_X11_264_X11 sh_178 (by decide) rfl (c_X11_livesIn (nI r + nI 1) (r + 169) (lwy hr) (by omega) v T W _ (hK.c (show _ = u 179 by rw [mr_oc (by decide)]; repeat rw [su_cell _ _ (by decide)])).t) (fitR hR (by first | decide | omega) (by decide) (by omega)) rfl rfl (Nat.le_of_ble_eq_true rfl) dX11_asks_111 ?_
              refine g_top (congrArg (lvT v 3) (aft_k hr)) ?_
              refine g_iload_n h dX11_asks_114 rfl rfl ?_
              refine g_icmp_ne (tgt := 122) h dX11_asks_115 (by decide) (fun c115 => ?_) (fun c115 => ?_)
              · refine g_iconst (v := nI 0) h dX11_asks_122 (by decide) ?_
                exact g_top (by first | exact (b2_t (p := (lvT v 3 (bef r) = nI a ∨ lvT v 3 (aft r) = nI a)) (Or.inl c104)).symm | exact (b2_f (p := (lvT v 3 (bef r) = nI a ∨ lvT v 3 (aft r) = nI a)) (fun q => q.elim c104 c115)).symm | exact (b2_t (p := (lvT v 3 (bef r) = nI a ∨ lvT v 3 (aft r) = nI a)) (Or.inr c115)).symm) J123
              · refine g_iconst (v := nI 1) h dX11_asks_118 (by decide) ?_
                refine g_goto (tgt := 123) h dX11_asks_119 (by decide) ?_
                exact g_top (by first | exact (b2_t (p := (lvT v 3 (bef r) = nI a ∨ lvT v 3 (aft r) = nI a)) (Or.inl c104)).symm | exact (b2_f (p := (lvT v 3 (bef r) = nI a ∨ lvT v 3 (aft r) = nI a)) (fun q => q.elim c104 c115)).symm | exact (b2_t (p := (lvT v 3 (bef r) = nI a ∨ lvT v 3 (aft r) = nI a)) (Or.inr c115)).symm) J123
        · have hv5 : v 19 5 = -1 := by
            rcases hK.l with z | ⟨t, L, hL, hv5, hg2, hg3, hP, hW⟩
            · exact z.1
            · exact absurd (hg2.symm.trans c91) (nI_m4 (by have := (law_w hP).2; omega))
          exact g_vretP h hrt dX11_asks_94 (by omega) ⟨rfl, ⟨fun k h1 h2 => (mr_oc h1).trans ((fun k h1 h2 => by repeat first | rw [su_cell _ _ h1] | rw [su_cell _ _ h2]) k h1 h2), sim_of_mr (fun k h1 h2 => by repeat first | rw [su_cell _ _ h1] | rw [su_cell _ _ h2]) (fun j hj h12 => by have := scr_n hj; repeat first | rw [su_i (by omega)] | rw [su_cell _ _ (by decide)]) rfl⟩, (mr_s (by decide)).trans (by (repeat first | rw [su_i (by decide)] | rw [su_cell _ _ (by decide)]); exact (su_k.trans (by rw [brP, if_pos hv5]; rfl))), (mr_s (by decide)).trans (by (repeat first | rw [su_i (by decide)] | rw [su_cell _ _ (by decide)]); exact (su_k.trans (by rw [if_pos c91, rtI, if_pos hv5]))), (mr_s (by decide)).trans (by (repeat first | rw [su_i (by decide)] | rw [su_cell _ _ (by decide)]); exact (su_k.trans (by rw [if_pos c91, vlI, if_pos hv5])))⟩
      · refine g_icmp_ne (tgt := 80) h dX11_asks_66 (by decide) (fun c66 => ?_) (fun c66 => ?_)
        · refine g_iconst (v := nI 0) h dX11_asks_80 (by decide) ?_
          exact g_top (by first | exact (if_neg c66).symm | exact ((if_pos c66).trans (b2_f (b2_0.mp c73))).symm | exact ((if_pos c66).trans (b2_t (b2_n0.mp c73))).symm) J81
        · refine g_aload_n h dX11_asks_69 rfl rfl ?_
          refine g_getI h fl_X11_218_10 sh_178 (by decide) rfl dX11_asks_70 ?_
          refine g_top (mr_s (by decide)) ?_
          refine g_top (y := b2 (lkP v a r)) (by (repeat rw [su_i (by decide)]); exact su_k) ?_
          refine g_if_eq (tgt := 80) h dX11_asks_73 (by decide) (fun c73 => ?_) (fun c73 => ?_)
          · refine g_iconst (v := nI 0) h dX11_asks_80 (by decide) ?_
            exact g_top (by first | exact (if_neg c66).symm | exact ((if_pos c66).trans (b2_f (b2_0.mp c73))).symm | exact ((if_pos c66).trans (b2_t (b2_n0.mp c73))).symm) J81
          · refine g_iconst (v := nI 1) h dX11_asks_76 (by decide) ?_
            refine g_goto (tgt := 81) h dX11_asks_77 (by decide) ?_
            exact g_top (by first | exact (if_neg c66).symm | exact ((if_pos c66).trans (b2_f (b2_0.mp c73))).symm | exact ((if_pos c66).trans (b2_t (b2_n0.mp c73))).symm) J81
    · refine g_icmp_ne (tgt := 54) h dX11_asks_47 (by decide) (fun c47 => ?_) (fun c47 => ?_)
      · refine g_iconst (v := nI 0) h dX11_asks_54 (by decide) ?_
        exact g_top (by first | exact (if_neg c47).symm | exact (if_pos c47).symm) J55
      · refine g_iconst (v := nI 5) h dX11_asks_50 (by decide) ?_
        refine g_goto (tgt := 55) h dX11_asks_51 (by decide) ?_
        exact g_top (by first | exact (if_neg c47).symm | exact (if_pos c47).symm) J55
  · refine g_icmp_lt (tgt := 30) h dX11_asks_13 (by decide) (fun c13 => ?_) (fun c13 => ?_)
    · refine g_iconst (v := nI 0) h dX11_asks_30 (by decide) ?_
      exact g_top (by first | exact (b2_f (p := lkP v a r) (fun q => q.1 c13)).symm | exact (b2_f (p := lkP v a r) (fun q => q.2 c23)).symm | exact (b2_t (p := lkP v a r) ⟨c13, c23⟩).symm) J31
    · refine g_iload_n h dX11_asks_16 rfl rfl ?_
      refine g_aload_n h dX11_asks_17 rfl rfl ?_
      refine g_iload_n h dX11_asks_18 rfl rfl ?_
      refine g_iconst (v := nI 2) h dX11_asks_19 (by decide) ?_
      refine g_V h lv_X11_76_X11 sh_178 (by decide) rfl (c_X11_of a 2 (by omega) (by decide) _) (fitR hR (by first | decide | omega) (by decide) (by omega)) rfl rfl (Nat.le_of_ble_eq_true rfl) dX11_asks_20 ?_
      refine g_top (y := v 12 a) ((congrFun (show _ = u 179 by rw [mr_oc (by decide)]; repeat rw [su_cell _ _ (by decide)]) _).trans ((congrArg (u 179) (show 16 + 4 * a + 2 = 18 + 4 * a by omega)).trans (hK.r.lto a ha))) ?_
      refine g_icmp_gt (tgt := 30) h dX11_asks_23 (by decide) (fun c23 => ?_) (fun c23 => ?_)
      · refine g_iconst (v := nI 0) h dX11_asks_30 (by decide) ?_
        exact g_top (by first | exact (b2_f (p := lkP v a r) (fun q => q.1 c13)).symm | exact (b2_f (p := lkP v a r) (fun q => q.2 c23)).symm | exact (b2_t (p := lkP v a r) ⟨c13, c23⟩).symm) J31
      · refine g_iconst (v := nI 1) h dX11_asks_26 (by decide) ?_
        refine g_goto (tgt := 31) h dX11_asks_27 (by decide) ?_
        exact g_top (by first | exact (b2_f (p := lkP v a r) (fun q => q.1 c13)).symm | exact (b2_f (p := lkP v a r) (fun q => q.2 c23)).symm | exact (b2_t (p := lkP v a r) ⟨c13, c23⟩).symm) J31
theorem c_X11_asks {E : EE} (v : Sto) (T W a r : Nat) (ha : a < T) (hr : r < 168) (u : Sto) (hK : LK v u T W) : CtP E 32 0 yX11_asks cX11_asks 5 none [.ref (E.ad 178), .int (nI a), .int (nI r)] u (QA v u a r) := ctp_mono (c_X11_asksA v T W a r ha hr u hK) (fun o t h => ⟨h.1, h.2.1.2, h.2.2⟩)
