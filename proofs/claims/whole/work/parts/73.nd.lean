-- after: 38.r 39.s 40.t 47.str 48.tx 49.ty 50.tt 53.lw 59.mc 62.mf 70.na 71.nb 72.nc
def cmS (u : Sto) (T : Nat) (c a b m : Int32) : Sto := su (su (su (su (su (su u 179 (16 + 4 * T) c) 179 (17 + 4 * T) a) 179 (18 + 4 * T) b) 179 (19 + 4 * T) m) 179 7 (u 179 7 + c)) 179 1 (nI (T + 1))
def hsS (u : Sto) (r : Nat) (x y : Int32) : Sto := su (su u 179 (88 + 4 * r) x) 179 (89 + 4 * r) y
def ltM (u : Sto) (q m A : Nat) : Nat → Sto
  | 0 => u
  | k + 1 => hsS (ltM u q m A k) (q + (A + k)) (nI m) (nI m)
def wnS (u : Sto) (W : Nat) (m n a b : Int32) : Sto := su (su (su (su (su u 179 (56 + 4 * W) m) 179 (57 + 4 * W) n) 179 (58 + 4 * W) a) 179 (59 + 4 * W) b) 179 9 (nI (W + 1))
def apM (u : Sto) (T W : Nat) : TL → Sto
  | .inl (c, a, b) => cmS u T c a b (-1)
  | .inr (.inl m) => cmS u T (nI 0) (-1) (-1) m
  | .inr (.inr (.inl (q, A, B, m))) => ltM u q m A (B + 1 - A)
  | .inr (.inr (.inr (.inl (r, n)))) => su u 179 (90 + 4 * r) n
  | .inr (.inr (.inr (.inr (.inl r)))) => su u 179 (91 + 4 * r) (nI 1)
  | .inr (.inr (.inr (.inr (.inr (.inl (r, m)))))) => su u 179 (89 + 4 * r) m
  | .inr (.inr (.inr (.inr (.inr (.inr (.inl (m, n, a, b))))))) => wnS u W m n a b
  | .inr (.inr (.inr (.inr (.inr (.inr (.inr (n))))))) => su u 179 8 n
abbrev moV (u : Sto) : Nat → Int32 := fun a => u 179 (19 + 4 * a)
abbrev owV (u : Sto) : Nat → Int32 := fun r => u 179 (88 + 4 * r)
abbrev shV (u : Sto) : Nat → Int32 := fun r => u 179 (91 + 4 * r)
def QV (u : Sto) (T W : Nat) (B : Int32) (f : Nat → Int32) (L : Nat) (r : Except Nat (TL × Nat)) : Res → Sto → Prop := fun o t => o = .inl none ∧ match r with
  | .error e => ∃ q, q ≤ L ∧ t = MR u B L q (nI e)
  | .ok x => ∃ q, q ≤ L ∧ skp f L q = x.2 ∧ t = MR (apM u T W x.1) B L q (-1)
theorem qv_nx {u : Sto} {T W : Nat} {B : Int32} {f : Nat → Int32} {L : Nat} {r : Except Nat (TL × Nat)} : ∀ Ex s, ¬ QV u T W B f L r (.inr Ex) s := fun _ _ h => nomatch h.1
theorem qv_e {u : Sto} {T W : Nat} {B : Int32} {f : Nat → Int32} {L q e : Nat} {r : Except Nat (TL × Nat)} (h : r = .error e) (hq : q ≤ L) : QV u T W B f L r (.inl none) (MR u B L q (nI e)) := ⟨rfl, by rw [h]; exact ⟨q, hq, rfl⟩⟩
theorem qv_k {u v : Sto} {T W : Nat} {B : Int32} {f : Nat → Int32} {L q p : Nat} {x : TL} {r : Except Nat (TL × Nat)} (h : r = .ok (x, p)) (hq : q ≤ L) (hp : skp f L q = p) (hv : v = apM u T W x) : QV u T W B f L r (.inl none) (MR v B L q (-1)) := ⟨rfl, by rw [h]; exact ⟨q, hq, hp, by rw [hv]⟩⟩
theorem nw {e L : Nat} (h : e ≤ L) (hL : L ≤ 400) : ¬ nI e = -1 := nI_m4 (Nat.le_trans h hL)
theorem su_v {u : Sto} {k j i : Nat} {x y : Int32} (h : i ≠ j) (e : u k i = y) : su u k j x k i = y := (su_i h).trans e
set_option maxHeartbeats 1000000 in
theorem c_X11_comes {E : EE} (T : Nat) (hT : T < 10) (c a b m : Int32) (u : Sto) (h1 : u 179 1 = nI T) : Ct E 1 0 yX11_comes cX11_comes 6 none [.ref (E.ad 178), .int c, .int a, .int b, .int m] u (.inl none) ((cmS u T c a b m)) := by
  refine ct_of (by decide) (Nat.le_of_ble_eq_true rfl) (fun X h hR hrt htab hargs hini => ?_)
  refine g_bipush (v := nI 16) h dX11_comes_0 (by decide) ?_
  refine g_iconst (v := nI 4) h dX11_comes_2 (by decide) ?_
  refine g_aload_n h dX11_comes_3 rfl rfl ?_
  refine g_getR h fl_X11_7_10 sh_178 (by decide) rfl dX11_comes_4 ?_
  refine g_iconst (v := nI 1) h dX11_comes_7 (by decide) ?_
  refine g_iald h _ _ _ sh_179 (by decide) (by decide) rfl (by omega) dX11_comes_8 ?_
  refine g_top h1 ?_
  refine g_imul h dX11_comes_9 ?_
  refine g_iadd h dX11_comes_10 ?_
  refine g_top (y := nI (16 + 4 * T)) (by rw [nI_mul]; exact nI_add 16 (4 * T)) ?_
  refine g_istore (ls' := [(0, _), (1, _), (2, _), (3, _), (4, _), (5, _)]) h dX11_comes_11 (by decide) rfl rfl ?_
  refine g_aload_n h dX11_comes_13 rfl rfl ?_
  refine g_getR h fl_X11_7_10 sh_178 (by decide) rfl dX11_comes_14 ?_
  refine g_iload h dX11_comes_17 rfl ?_
  refine g_iconst (v := nI 0) h dX11_comes_19 (by decide) ?_
  refine g_iadd h dX11_comes_20 ?_
  refine g_top (y := nI (16 + 4 * T)) ((nI_add (16 + 4 * T) 0).trans (congrArg nI (by omega))) ?_
  refine g_iload_n h dX11_comes_21 rfl rfl ?_
  refine g_iast h _ _ _ sh_179 (by decide) (by decide) rfl (by omega) dX11_comes_22 ?_
  refine g_aload_n h dX11_comes_23 rfl rfl ?_
  refine g_getR h fl_X11_7_10 sh_178 (by decide) rfl dX11_comes_24 ?_
  refine g_iload h dX11_comes_27 rfl ?_
  refine g_iconst (v := nI 1) h dX11_comes_29 (by decide) ?_
  refine g_iadd h dX11_comes_30 ?_
  refine g_top (y := nI (17 + 4 * T)) ((nI_add (16 + 4 * T) 1).trans (congrArg nI (by omega))) ?_
  refine g_iload_n h dX11_comes_31 rfl rfl ?_
  refine g_iast h _ _ _ sh_179 (by decide) (by decide) rfl (by omega) dX11_comes_32 ?_
  refine g_aload_n h dX11_comes_33 rfl rfl ?_
  refine g_getR h fl_X11_7_10 sh_178 (by decide) rfl dX11_comes_34 ?_
  refine g_iload h dX11_comes_37 rfl ?_
  refine g_iconst (v := nI 2) h dX11_comes_39 (by decide) ?_
  refine g_iadd h dX11_comes_40 ?_
  refine g_top (y := nI (18 + 4 * T)) ((nI_add (16 + 4 * T) 2).trans (congrArg nI (by omega))) ?_
  refine g_iload_n h dX11_comes_41 rfl rfl ?_
  refine g_iast h _ _ _ sh_179 (by decide) (by decide) rfl (by omega) dX11_comes_42 ?_
  refine g_aload_n h dX11_comes_43 rfl rfl ?_
  refine g_getR h fl_X11_7_10 sh_178 (by decide) rfl dX11_comes_44 ?_
  refine g_iload h dX11_comes_47 rfl ?_
  refine g_iconst (v := nI 3) h dX11_comes_49 (by decide) ?_
  refine g_iadd h dX11_comes_50 ?_
  refine g_top (y := nI (19 + 4 * T)) ((nI_add (16 + 4 * T) 3).trans (congrArg nI (by omega))) ?_
  refine g_iload h dX11_comes_51 rfl ?_
  refine g_iast h _ _ _ sh_179 (by decide) (by decide) rfl (by omega) dX11_comes_53 ?_
  refine g_aload_n h dX11_comes_54 rfl rfl ?_
  refine g_getR h fl_X11_7_10 sh_178 (by decide) rfl dX11_comes_55 ?_
  refine g_bipush (v := nI 7) h dX11_comes_58 (by decide) ?_
  refine g_dup2 h dX11_comes_60 rfl rfl ?_
  refine g_iald h _ _ _ sh_179 (by decide) (by decide) rfl (by decide) dX11_comes_61 ?_
  refine g_top (y := u 179 7) (su_v (by omega) (su_v (by omega) (su_v (by omega) (su_v (by omega) rfl)))) ?_
  refine g_iload_n h dX11_comes_62 rfl rfl ?_
  refine g_iadd h dX11_comes_63 ?_
  refine g_iast h _ _ _ sh_179 (by decide) (by decide) rfl (by decide) dX11_comes_64 ?_
  refine g_aload_n h dX11_comes_65 rfl rfl ?_
  refine g_getR h fl_X11_7_10 sh_178 (by decide) rfl dX11_comes_66 ?_
  refine g_iconst (v := nI 1) h dX11_comes_69 (by decide) ?_
  refine g_dup2 h dX11_comes_70 rfl rfl ?_
  refine g_iald h _ _ _ sh_179 (by decide) (by decide) rfl (by decide) dX11_comes_71 ?_
  refine g_top (y := nI T) (su_v (by omega) (su_v (by omega) (su_v (by omega) (su_v (by omega) (su_v (by omega) h1))))) ?_
  refine g_iconst (v := nI 1) h dX11_comes_72 (by decide) ?_
  refine g_iadd h dX11_comes_73 ?_
  refine g_top (nI_1 T) ?_
  refine g_iast h _ _ _ sh_179 (by decide) (by decide) rfl (by decide) dX11_comes_74 ?_
  exact g_vret h hrt dX11_comes_75 (by omega) rfl rfl
theorem c_X11_figs {E : EE} (B : Int32) (f : Nat → Int32) (L p s : Nat) (hs : skp f L p = s) (d : Nat) (hd : d < 100) (lo hi : Int32) (u : Sto) (hf : LF u B f) (hL : L ≤ 400) (hp : p ≤ L) : CtP E 4 0 yX11_figures cX11_figures 6 (some .int) [.ref (E.ad 178), .int lo, .int hi, .int (nI d)] (MR u B L p (-1)) (fun o t => (nuP f L s d lo hi ∧ o = .inl (some (.int (nmI f L s))) ∧ t = MR u B L (enN f L s) (-1)) ∨ (¬ nuP f L s d lo hi ∧ ∃ x q, q ≤ L ∧ o = .inl (some (.int x)) ∧ t = MR u B L q (nI s))) := by
  subst hs
  exact c_X11_figures B f L p d hd lo hi u hf hL hp
theorem LF_su {u : Sto} {B : Int32} {f : Nat → Int32} (h : LF u B f) {k j : Nat} {x : Int32} (h1 : k ≠ 183) (h2 : k ≠ 179 ∨ j < 1080) : LF (su u k j x) B f := by
  rcases h with ⟨a, b⟩ | ⟨a, b⟩
  · exact Or.inl ⟨a, fun i hi => by rw [su_cell _ _ (Ne.symm h1)]; exact b i hi⟩
  · refine Or.inr ⟨a, fun i hi => ?_⟩
    by_cases e : k = 179
    · subst e
      have : j < 1080 := h2.resolve_left (fun z => z rfl)
      rw [su_i (by omega)]; exact b i hi
    · rw [su_cell _ _ (Ne.symm e)]; exact b i hi
set_option maxHeartbeats 1000000 in
theorem c_X11_isChild_r {E : EE} (a : Nat) (ha : a < 10) (u : Sto) : Ct E 2 0 yX11_isChild cX11_isChild 2 (some .boolean) [.ref (E.ad 178), .int (nI a)] u (.inl (some (.int (b2 (¬ u 179 (19 + 4 * a) = -1))))) (u) := by
  have hm : u 179 (16 + 4 * a + 3) = u 179 (19 + 4 * a) := by rw [show 16 + 4 * a + 3 = 19 + 4 * a by omega]
  refine ct_of (by decide) (Nat.le_of_ble_eq_true rfl) (fun X h hR hrt htab hargs hini => ?_)
  refine g_aload_n h dX11_isChild_0 rfl rfl ?_
  refine g_iload_n h dX11_isChild_1 rfl rfl ?_
  refine g_iconst (v := nI 3) h dX11_isChild_2 (by decide) ?_
  refine g_V h lv_X11_76_X11 sh_178 (by decide) rfl (c_X11_of a 3 (by omega) (by omega) u) (fitR hR (by first | decide | omega) (by decide) (by omega)) rfl rfl (Nat.le_of_ble_eq_true rfl) dX11_isChild_3 ?_
  refine g_top hm ?_
  refine g_iconst (v := -1) h dX11_isChild_6 (by decide) ?_
  refine g_icmp_eq (tgt := 14) h dX11_isChild_7 (by decide) (fun c7 => ?_) (fun c7 => ?_)
  · refine g_iconst (v := nI 0) h dX11_isChild_14 (by decide) ?_
    exact g_zret h hrt dX11_isChild_15 (by omega) (by first | exact Or.inl rfl | exact Or.inr rfl | exact b2_01 _ | exact hF.2.2.2.1 | exact hF.2.2.2.2 | exact hy | exact hv | simp) (by rw [b2_f (fun q => q c7)]) rfl
  · refine g_iconst (v := nI 1) h dX11_isChild_10 (by decide) ?_
    refine g_goto (tgt := 15) h dX11_isChild_11 (by decide) ?_
    exact g_zret h hrt dX11_isChild_15 (by omega) (by first | exact Or.inl rfl | exact Or.inr rfl | exact b2_01 _ | exact hF.2.2.2.1 | exact hF.2.2.2.2 | exact hy | exact hv | simp) (by rw [b2_t c7]) rfl
set_option maxHeartbeats 1000000 in
theorem c_X11_tenantHere {E : EE} (B : Int32) (f : Nat → Int32) (L p : Nat) (s : Nat) (hs : skp f L p = s) (T : Nat) (hT : T ≤ 10) (u : Sto) (hf : LF u B f) (hL : L ≤ 400) (hp : p ≤ L) (hT1 : u 179 1 = nI T) : CtP E 5 0 yX11_tenantHere cX11_tenantHere 3 (some .int) [.ref (E.ad 178)] (MR u B L p (-1)) (fun o t => (tnP T (moV u) f L s ∧ o = .inl (some (.int (nmI f L s))) ∧ t = MR u B L (enN f L s) (-1)) ∨ (¬ tnP T (moV u) f L s ∧ ∃ x q, q ≤ L ∧ o = .inl (some (.int x)) ∧ t = MR u B L q (nI s))) := by
  have q0 := (skp_b (f := f) hp).2
  rw [hs] at q0
  refine ctp_of (by decide) (Nat.le_of_ble_eq_true rfl) (fun X h hR hrt htab hargs => ?_)
  refine g_aload_n h dX11_tenantHere_0 rfl rfl ?_
  refine g_V h lv_X11_127_X11 sh_178 (by decide) rfl (c_X11_place B f L p (-1) u hf hL hp) (fitR hR (by first | decide | omega) (by decide) (by omega)) rfl rfl (Nat.le_of_ble_eq_true rfl) dX11_tenantHere_1 ?_
  refine g_top (congrArg nI hs) ?_
  refine g_sto (mr_pv (congrArg nI hs)) ?_
  refine g_istore_n (ls' := [(0, _), (1, _)]) h dX11_tenantHere_4 rfl (by decide) rfl rfl ?_
  refine g_aload_n h dX11_tenantHere_5 rfl rfl ?_
  refine g_iconst (v := nI 0) h dX11_tenantHere_6 (by decide) ?_
  refine g_aload_n h dX11_tenantHere_7 rfl rfl ?_
  refine g_getR h fl_X11_7_10 sh_178 (by decide) rfl dX11_tenantHere_8 ?_
  refine g_iconst (v := nI 1) h dX11_tenantHere_11 (by decide) ?_
  refine g_iald h _ _ _ sh_179 (by decide) (by decide) rfl (by omega) dX11_tenantHere_12 ?_
  refine g_top (mr_o (by decide)) ?_
  refine g_top hT1 ?_
  refine g_iconst (v := nI 1) h dX11_tenantHere_13 (by decide) ?_
  refine g_isub h dX11_tenantHere_14 ?_
  refine g_iconst (v := nI 3) h dX11_tenantHere_15 (by decide) ?_
  refine g_VP h lv_X11_130_X11 sh_178 (by decide) rfl (c_X11_figs B f L s s (by rw [← hs]; exact sk_sk (Nat.le_refl _)) 3 (by decide) (nI 0) (nI T - nI 1) u hf hL q0) (by rintro Ex s (⟨_, h, _⟩ | ⟨_, _, _, _, h, _⟩) <;> exact nomatch h) (fitR hR (by first | decide | omega) (by decide) (by omega)) rfl rfl (Nat.le_of_ble_eq_true rfl) dX11_tenantHere_16 (fun v16 u16 hs16 => ?_)
  rcases hs16 with ⟨n16, hv16, rfl⟩ | ⟨n16, x16, q9, hq9, hv16, rfl⟩
  · cases hv16
    obtain ⟨k, hk, hkT⟩ := nu_T hT n16
    have hkx : ix (nmI f L s) = k := by rw [hk]; exact ix_nI (by omega)
    have en0 := (enN_b (f := f) q0).2
    refine g_istore_n (ls' := [(0, _), (1, _), (2, _)]) h dX11_tenantHere_19 rfl (by decide) rfl rfl ?_
    refine g_aload_n h dX11_tenantHere_20 rfl rfl ?_
    refine g_getI h fl_X11_25_10 sh_178 (by decide) rfl dX11_tenantHere_21 ?_
    refine g_top mr_r12 ?_
    refine g_iconst (v := -1) h dX11_tenantHere_24 (by decide) ?_
    refine g_icmp_ne (tgt := 41) h dX11_tenantHere_25 (by decide) (fun c25 => ?_) (fun c25 => ?_)
    · exact absurd rfl c25
    · refine g_aload_n h dX11_tenantHere_28 rfl rfl ?_
      refine g_iload_n h dX11_tenantHere_29 rfl rfl ?_
      refine g_top hk ?_
      refine g_V h lv_X11_80_X11 sh_178 (by decide) rfl (c_X11_isChild_r k (by omega) _) (fitR hR (by first | decide | omega) (by decide) (by omega)) rfl rfl (Nat.le_of_ble_eq_true rfl) dX11_tenantHere_30 ?_
      by_cases n30 : moV u k = -1
      · refine g_top (b2_f (fun z => z ((congrFun (mr_oc (by decide)) _).trans n30))) ?_
        refine g_if_eq (tgt := 41) h dX11_tenantHere_33 (by decide) (fun _ => ?_) (fun q => absurd q (by decide))
        refine g_iload_n h dX11_tenantHere_41 rfl rfl ?_
        exact g_iretP h hrt dX11_tenantHere_42 (by omega) (Or.inl ⟨⟨n16, by rw [hkx]; exact n30⟩, rfl, rfl⟩)
      · refine g_top (b2_t (fun z => n30 ((congrFun (mr_oc (by decide)) _).symm.trans z))) ?_
        refine g_if_eq (tgt := 41) h dX11_tenantHere_33 (by decide) (fun q => absurd q (by decide)) (fun _ => ?_)
        refine g_aload_n h dX11_tenantHere_36 rfl rfl ?_
        refine g_iload_n h dX11_tenantHere_37 rfl rfl ?_
        refine g_V h lv_X11_123_X11 sh_178 (by decide) rfl (c_X11_wrong B f L (enN f L s) (-1) (nI s) u hf hL en0) (fitR hR (by first | decide | omega) (by decide) (by omega)) rfl rfl (Nat.le_of_ble_eq_true rfl) dX11_tenantHere_38 ?_
        refine g_sto (mr_wv (if_pos rfl)) ?_
        refine g_iload_n h dX11_tenantHere_41 rfl rfl ?_
        exact g_iretP h hrt dX11_tenantHere_42 (by omega) (Or.inr ⟨fun z => n30 (by have := z.2; rw [hkx] at this; exact this), _, _, en0, rfl, rfl⟩)
  · cases hv16
    have hw9 := nw q0 hL
    refine g_istore_n (ls' := [(0, _), (1, _), (2, _)]) h dX11_tenantHere_19 rfl (by decide) rfl rfl ?_
    refine g_aload_n h dX11_tenantHere_20 rfl rfl ?_
    refine g_getI h fl_X11_25_10 sh_178 (by decide) rfl dX11_tenantHere_21 ?_
    refine g_top mr_r12 ?_
    refine g_iconst (v := -1) h dX11_tenantHere_24 (by decide) ?_
    refine g_icmp_ne (tgt := 41) h dX11_tenantHere_25 (by decide) (fun c25 => ?_) (fun c25 => ?_)
    · refine g_iload_n h dX11_tenantHere_41 rfl rfl ?_
      exact g_iretP h hrt dX11_tenantHere_42 (by omega) (Or.inr ⟨fun z => n16 z.1, _, _, hq9, rfl, rfl⟩)
    · exact absurd c25 hw9
set_option maxHeartbeats 1000000 in
theorem c_X11_tenantHere_x {E : EE} (B : Int32) (f : Nat → Int32) (L p : Nat) (w : Int32) (hw : ¬ w = -1) (T : Nat) (u : Sto) (hf : LF u B f) (hL : L ≤ 400) (hp : p ≤ L) (hT1 : u 179 1 = nI T) : Ct E 5 0 yX11_tenantHere cX11_tenantHere 3 (some .int) [.ref (E.ad 178)] (MR u B L p w) (.inl (some (.int (nI 0)))) ((MR u B L (skp f L p) w)) := by
  refine ct_of (by decide) (Nat.le_of_ble_eq_true rfl) (fun X h hR hrt htab hargs hini => ?_)
  refine g_aload_n h dX11_tenantHere_0 rfl rfl ?_
  refine g_V h lv_X11_127_X11 sh_178 (by decide) rfl (c_X11_place B f L p w u hf hL hp) (fitR hR (by first | decide | omega) (by decide) (by omega)) rfl rfl (Nat.le_of_ble_eq_true rfl) dX11_tenantHere_1 ?_
  refine g_istore_n (ls' := [(0, _), (1, _)]) h dX11_tenantHere_4 rfl (by decide) rfl rfl ?_
  refine g_aload_n h dX11_tenantHere_5 rfl rfl ?_
  refine g_iconst (v := nI 0) h dX11_tenantHere_6 (by decide) ?_
  refine g_aload_n h dX11_tenantHere_7 rfl rfl ?_
  refine g_getR h fl_X11_7_10 sh_178 (by decide) rfl dX11_tenantHere_8 ?_
  refine g_iconst (v := nI 1) h dX11_tenantHere_11 (by decide) ?_
  refine g_iald h _ _ _ sh_179 (by decide) (by decide) rfl (by omega) dX11_tenantHere_12 ?_
  refine g_top (mr_o (by decide)) ?_
  refine g_top hT1 ?_
  refine g_iconst (v := nI 1) h dX11_tenantHere_13 (by decide) ?_
  refine g_isub h dX11_tenantHere_14 ?_
  refine g_iconst (v := nI 3) h dX11_tenantHere_15 (by decide) ?_
  refine g_V h lv_X11_130_X11 sh_178 (by decide) rfl (c_X11_figures_x B f L (skp f L p) w _ _ _ hw u hf hL (skp_b (f := f) hp).2) (fitR hR (by first | decide | omega) (by decide) (by omega)) rfl rfl (Nat.le_of_ble_eq_true rfl) dX11_tenantHere_16 ?_
  refine g_istore_n (ls' := [(0, _), (1, _), (2, _)]) h dX11_tenantHere_19 rfl (by decide) rfl rfl ?_
  refine g_aload_n h dX11_tenantHere_20 rfl rfl ?_
  refine g_getI h fl_X11_25_10 sh_178 (by decide) rfl dX11_tenantHere_21 ?_
  refine g_top mr_r12 ?_
  refine g_iconst (v := -1) h dX11_tenantHere_24 (by decide) ?_
  refine g_icmp_ne (tgt := 41) h dX11_tenantHere_25 (by decide) (fun c25 => ?_) (fun c25 => ?_)
  · refine g_iload_n h dX11_tenantHere_41 rfl rfl ?_
    exact g_iret h hrt dX11_tenantHere_42 (by omega) (by rfl) rfl
  · exact absurd c25 hw
theorem cm_MR {u : Sto} {B l p w : Int32} {T : Nat} {c a b m : Int32} : cmS (mrS u B l p w) T c a b m = mrS (cmS u T c a b m) B l p w := by
  unfold cmS
  rw [mr_o (by decide), mr_su (by decide), mr_su (by decide), mr_su (by decide), mr_su (by decide), mr_su (by decide), mr_su (by decide)]
theorem hs_MR {u : Sto} {B l p w : Int32} {r : Nat} {x y : Int32} : hsS (mrS u B l p w) r x y = mrS (hsS u r x y) B l p w := by
  unfold hsS
  rw [mr_su (by decide), mr_su (by decide)]
set_option maxHeartbeats 1000000 in
theorem c_X11_tenantLine {E : EE} (B : Int32) (f : Nat → Int32) (L p : Nat) (T W : Nat) (hT : T ≤ 10) (hW : W ≤ 8) (u : Sto) (hf : LF u B f) (hL : L ≤ 400) (h0 : p ≤ L) (hT1 : u 179 1 = nI T) (hW1 : u 179 9 = nI W) : CtP E 7 0 yX11_tenantLine cX11_tenantLine 5 none [.ref (E.ad 178), .int (nI p)] (MR u B L (enN f L p) (-1)) (QV u T W B f L (tenD T f L p)) := by
  have q1 := (nx_b (f := f) h0).2
  have q2 := (nx_b (f := f) q1).2
  have q3 := (nx_b (f := f) q2).2
  have q4 := (nx_b (f := f) q3).2
  have q5 := (nx_b (f := f) q4).2
  have q6 := (nx_b (f := f) q5).2
  have q7 := (nx_b (f := f) q6).2
  have q8 := (nx_b (f := f) q7).2
  have e0 := (enN_b (f := f) h0).2
  have e1 := (enN_b (f := f) q1).2
  have e2 := (enN_b (f := f) q2).2
  have e3 := (enN_b (f := f) q3).2
  have e4 := (enN_b (f := f) q4).2
  have e5 := (enN_b (f := f) q5).2
  have e6 := (enN_b (f := f) q6).2
  have e7 := (enN_b (f := f) q7).2
  refine ctp_of (by decide) (Nat.le_of_ble_eq_true rfl) (fun X h hR hrt htab hargs => ?_)
  refine g_aload_n h dX11_tenantLine_0 rfl rfl ?_
  refine g_getR h fl_X11_7_10 sh_178 (by decide) rfl dX11_tenantLine_1 ?_
  refine g_iconst (v := nI 1) h dX11_tenantLine_4 (by decide) ?_
  refine g_iald h _ _ _ sh_179 (by decide) (by decide) rfl (by omega) dX11_tenantLine_5 ?_
  refine g_top (mr_o (by decide)) ?_
  refine g_top hT1 ?_
  refine g_bipush (v := nI 10) h dX11_tenantLine_6 (by decide) ?_
  refine g_icmp_ne (tgt := 16) h dX11_tenantLine_8 (by decide) (fun c8 => ?_) (fun c8 => ?_)
  · have n8 := ne_n (show ¬ nI (T) = nI (10) from c8)
    refine g_aload_n h dX11_tenantLine_16 rfl rfl ?_
    refine g_iconst (v := nI 0) h dX11_tenantLine_17 (by decide) ?_
    refine g_sipush (v := nI 9999) h dX11_tenantLine_18 (by decide) ?_
    refine g_iconst (v := nI 4) h dX11_tenantLine_21 (by decide) ?_
    refine g_VP h lv_X11_130_X11 sh_178 (by decide) rfl (c_X11_figs B f L (enN f L p) (nx f L p) rfl 4 (by decide) (nI 0) (nI 9999) u hf hL e0) (by rintro Ex s (⟨_, h, _⟩ | ⟨_, _, _, _, h, _⟩) <;> exact nomatch h) (fitR hR (by first | decide | omega) (by decide) (by omega)) rfl rfl (Nat.le_of_ble_eq_true rfl) dX11_tenantLine_22 (fun v22 u22 hs22 => ?_)
    rcases hs22 with ⟨n22, hv22, rfl⟩ | ⟨n22, x22, q9, hq9, hv22, rfl⟩
    · cases hv22
      refine g_istore_n (ls' := [(0, _), (1, _), (2, _)]) h dX11_tenantLine_25 rfl (by decide) rfl rfl ?_
      refine g_aload_n h dX11_tenantLine_26 rfl rfl ?_
      refine g_ldcS (tx := "likes") (k := 1) h (by decide) dX11_tenantLine_27 ?_
      refine g_V h lv_X11_136_X11 sh_178 (by decide) rfl (c_X11_must B f L (enN f L (nx f L p)) 1 (by decide) (by decide) u hf hL e1) (fitR hR (by first | decide | omega) (by decide) (by omega)) rfl rfl (Nat.le_of_ble_eq_true rfl) dX11_tenantLine_29 ?_
      by_cases n29 : wdB f L (nx f L (nx f L p)) 1 = true
      · refine g_sto (if_pos n29) ?_
        refine g_aload_n h dX11_tenantLine_32 rfl rfl ?_
        refine g_iconst (v := nI 0) h dX11_tenantLine_33 (by decide) ?_
        refine g_bipush (v := nI 23) h dX11_tenantLine_34 (by decide) ?_
        refine g_iconst (v := nI 3) h dX11_tenantLine_36 (by decide) ?_
        refine g_VP h lv_X11_130_X11 sh_178 (by decide) rfl (c_X11_figs B f L (enN f L (nx f L (nx f L p))) (nx f L (nx f L (nx f L p))) rfl 3 (by decide) (nI 0) (nI 23) u hf hL e2) (by rintro Ex s (⟨_, h, _⟩ | ⟨_, _, _, _, h, _⟩) <;> exact nomatch h) (fitR hR (by first | decide | omega) (by decide) (by omega)) rfl rfl (Nat.le_of_ble_eq_true rfl) dX11_tenantLine_37 (fun v37 u37 hs37 => ?_)
        rcases hs37 with ⟨n37, hv37, rfl⟩ | ⟨n37, x37, q9, hq9, hv37, rfl⟩
        · cases hv37
          refine g_istore_n (ls' := [(0, _), (1, _), (2, _), (3, _)]) h dX11_tenantLine_40 rfl (by decide) rfl rfl ?_
          refine g_aload_n h dX11_tenantLine_41 rfl rfl ?_
          refine g_ldcS (tx := "to") (k := 2) h (by decide) dX11_tenantLine_42 ?_
          refine g_V h lv_X11_136_X11 sh_178 (by decide) rfl (c_X11_must B f L (enN f L (nx f L (nx f L (nx f L p)))) 2 (by decide) (by decide) u hf hL e3) (fitR hR (by first | decide | omega) (by decide) (by omega)) rfl rfl (Nat.le_of_ble_eq_true rfl) dX11_tenantLine_44 ?_
          by_cases n44 : wdB f L (nx f L (nx f L (nx f L (nx f L p)))) 2 = true
          · refine g_sto (if_pos n44) ?_
            refine g_aload_n h dX11_tenantLine_47 rfl rfl ?_
            refine g_iload_n h dX11_tenantLine_48 rfl rfl ?_
            refine g_bipush (v := nI 23) h dX11_tenantLine_49 (by decide) ?_
            refine g_iconst (v := nI 3) h dX11_tenantLine_51 (by decide) ?_
            refine g_VP h lv_X11_130_X11 sh_178 (by decide) rfl (c_X11_figs B f L (enN f L (nx f L (nx f L (nx f L (nx f L p))))) (nx f L (nx f L (nx f L (nx f L (nx f L p))))) rfl 3 (by decide) (nmI f L (nx f L (nx f L (nx f L p)))) (nI 23) u hf hL e4) (by rintro Ex s (⟨_, h, _⟩ | ⟨_, _, _, _, h, _⟩) <;> exact nomatch h) (fitR hR (by first | decide | omega) (by decide) (by omega)) rfl rfl (Nat.le_of_ble_eq_true rfl) dX11_tenantLine_52 (fun v52 u52 hs52 => ?_)
            rcases hs52 with ⟨n52, hv52, rfl⟩ | ⟨n52, x52, q9, hq9, hv52, rfl⟩
            · cases hv52
              refine g_istore (ls' := [(0, _), (1, _), (2, _), (3, _), (4, _)]) h dX11_tenantLine_55 (by decide) rfl rfl ?_
              refine g_aload_n h dX11_tenantLine_57 rfl rfl ?_
              refine g_getI h fl_X11_25_10 sh_178 (by decide) rfl dX11_tenantLine_58 ?_
              refine g_top mr_r12 ?_
              refine g_iconst (v := -1) h dX11_tenantLine_61 (by decide) ?_
              refine g_icmp_ne (tgt := 74) h dX11_tenantLine_62 (by decide) (fun c62 => ?_) (fun c62 => ?_)
              · exact absurd rfl c62
              · refine g_aload_n h dX11_tenantLine_65 rfl rfl ?_
                refine g_iload_n h dX11_tenantLine_66 rfl rfl ?_
                refine g_iload_n h dX11_tenantLine_67 rfl rfl ?_
                refine g_iload h dX11_tenantLine_68 rfl ?_
                refine g_iconst (v := -1) h dX11_tenantLine_70 (by decide) ?_
                refine g_V h lv_X11_142_X11 sh_178 (by decide) rfl (c_X11_comes T (by omega) _ _ _ (-1) _ ((congrFun (mr_oc (by decide)) 1).trans hT1)) (fitR hR (by first | decide | omega) (by decide) (by omega)) rfl rfl (Nat.le_of_ble_eq_true rfl) dX11_tenantLine_71 ?_
                refine g_sto cm_MR ?_
                exact g_vretP h hrt dX11_tenantLine_74 (by omega) (qv_k (by rw [tenD, if_pos (show T < 10 by omega), if_pos n22, if_pos n29, if_pos n37, if_pos n44, if_pos n52]; rfl) e5 rfl rfl)
            · cases hv52
              have hw9 := nw q5 hL
              refine g_istore (ls' := [(0, _), (1, _), (2, _), (3, _), (4, _)]) h dX11_tenantLine_55 (by decide) rfl rfl ?_
              refine g_aload_n h dX11_tenantLine_57 rfl rfl ?_
              refine g_getI h fl_X11_25_10 sh_178 (by decide) rfl dX11_tenantLine_58 ?_
              refine g_top mr_r12 ?_
              refine g_iconst (v := -1) h dX11_tenantLine_61 (by decide) ?_
              refine g_icmp_ne (tgt := 74) h dX11_tenantLine_62 (by decide) (fun c62 => ?_) (fun c62 => ?_)
              · exact g_vretP h hrt dX11_tenantLine_74 (by omega) (qv_e (by rw [tenD, if_pos (show T < 10 by omega), if_pos n22, if_pos n29, if_pos n37, if_pos n44, if_neg n52]) (by first | assumption | exact (skp_b (by assumption)).2 | exact (skp_b (skp_b (by assumption)).2).2))
              · exact absurd c62 hw9
          · refine g_sto (if_neg n44) ?_
            have hw9 := nw q4 hL
            have hq9 : skp f L (enN f L (nx f L (nx f L (nx f L p)))) ≤ L := q4
            refine g_aload_n h dX11_tenantLine_47 rfl rfl ?_
            refine g_iload_n h dX11_tenantLine_48 rfl rfl ?_
            refine g_bipush (v := nI 23) h dX11_tenantLine_49 (by decide) ?_
            refine g_iconst (v := nI 3) h dX11_tenantLine_51 (by decide) ?_
            refine g_V h lv_X11_130_X11 sh_178 (by decide) rfl (c_X11_figures_x B f L _ _ _ _ _ hw9 u hf hL (by first | assumption | exact (skp_b (by assumption)).2 | exact (skp_b (skp_b (by assumption)).2).2)) (fitR hR (by first | decide | omega) (by decide) (by omega)) rfl rfl (Nat.le_of_ble_eq_true rfl) dX11_tenantLine_52 ?_
            refine g_istore (ls' := [(0, _), (1, _), (2, _), (3, _), (4, _)]) h dX11_tenantLine_55 (by decide) rfl rfl ?_
            refine g_aload_n h dX11_tenantLine_57 rfl rfl ?_
            refine g_getI h fl_X11_25_10 sh_178 (by decide) rfl dX11_tenantLine_58 ?_
            refine g_top mr_r12 ?_
            refine g_iconst (v := -1) h dX11_tenantLine_61 (by decide) ?_
            refine g_icmp_ne (tgt := 74) h dX11_tenantLine_62 (by decide) (fun c62 => ?_) (fun c62 => ?_)
            · exact g_vretP h hrt dX11_tenantLine_74 (by omega) (qv_e (by rw [tenD, if_pos (show T < 10 by omega), if_pos n22, if_pos n29, if_pos n37, if_neg n44]) (by first | assumption | exact (skp_b (by assumption)).2 | exact (skp_b (skp_b (by assumption)).2).2))
            · exact absurd c62 hw9
        · cases hv37
          have hw9 := nw q3 hL
          refine g_istore_n (ls' := [(0, _), (1, _), (2, _), (3, _)]) h dX11_tenantLine_40 rfl (by decide) rfl rfl ?_
          refine g_aload_n h dX11_tenantLine_41 rfl rfl ?_
          refine g_ldcS (tx := "to") (k := 2) h (by decide) dX11_tenantLine_42 ?_
          refine g_V h lv_X11_136_X11 sh_178 (by decide) rfl (c_X11_must_x B f L _ _ _ hw9 u hf hL (by first | assumption | exact (skp_b (by assumption)).2 | exact (skp_b (skp_b (by assumption)).2).2)) (fitR hR (by first | decide | omega) (by decide) (by omega)) rfl rfl (Nat.le_of_ble_eq_true rfl) dX11_tenantLine_44 ?_
          refine g_aload_n h dX11_tenantLine_47 rfl rfl ?_
          refine g_iload_n h dX11_tenantLine_48 rfl rfl ?_
          refine g_bipush (v := nI 23) h dX11_tenantLine_49 (by decide) ?_
          refine g_iconst (v := nI 3) h dX11_tenantLine_51 (by decide) ?_
          refine g_V h lv_X11_130_X11 sh_178 (by decide) rfl (c_X11_figures_x B f L _ _ _ _ _ hw9 u hf hL (by first | assumption | exact (skp_b (by assumption)).2 | exact (skp_b (skp_b (by assumption)).2).2)) (fitR hR (by first | decide | omega) (by decide) (by omega)) rfl rfl (Nat.le_of_ble_eq_true rfl) dX11_tenantLine_52 ?_
          refine g_istore (ls' := [(0, _), (1, _), (2, _), (3, _), (4, _)]) h dX11_tenantLine_55 (by decide) rfl rfl ?_
          refine g_aload_n h dX11_tenantLine_57 rfl rfl ?_
          refine g_getI h fl_X11_25_10 sh_178 (by decide) rfl dX11_tenantLine_58 ?_
          refine g_top mr_r12 ?_
          refine g_iconst (v := -1) h dX11_tenantLine_61 (by decide) ?_
          refine g_icmp_ne (tgt := 74) h dX11_tenantLine_62 (by decide) (fun c62 => ?_) (fun c62 => ?_)
          · exact g_vretP h hrt dX11_tenantLine_74 (by omega) (qv_e (by rw [tenD, if_pos (show T < 10 by omega), if_pos n22, if_pos n29, if_neg n37]) (by first | assumption | exact (skp_b (by assumption)).2 | exact (skp_b (skp_b (by assumption)).2).2))
          · exact absurd c62 hw9
      · refine g_sto (if_neg n29) ?_
        have hw9 := nw q2 hL
        have hq9 : skp f L (enN f L (nx f L p)) ≤ L := q2
        refine g_aload_n h dX11_tenantLine_32 rfl rfl ?_
        refine g_iconst (v := nI 0) h dX11_tenantLine_33 (by decide) ?_
        refine g_bipush (v := nI 23) h dX11_tenantLine_34 (by decide) ?_
        refine g_iconst (v := nI 3) h dX11_tenantLine_36 (by decide) ?_
        refine g_V h lv_X11_130_X11 sh_178 (by decide) rfl (c_X11_figures_x B f L _ _ _ _ _ hw9 u hf hL (by first | assumption | exact (skp_b (by assumption)).2 | exact (skp_b (skp_b (by assumption)).2).2)) (fitR hR (by first | decide | omega) (by decide) (by omega)) rfl rfl (Nat.le_of_ble_eq_true rfl) dX11_tenantLine_37 ?_
        refine g_istore_n (ls' := [(0, _), (1, _), (2, _), (3, _)]) h dX11_tenantLine_40 rfl (by decide) rfl rfl ?_
        refine g_aload_n h dX11_tenantLine_41 rfl rfl ?_
        refine g_ldcS (tx := "to") (k := 2) h (by decide) dX11_tenantLine_42 ?_
        refine g_V h lv_X11_136_X11 sh_178 (by decide) rfl (c_X11_must_x B f L _ _ _ hw9 u hf hL (by first | assumption | exact (skp_b (by assumption)).2 | exact (skp_b (skp_b (by assumption)).2).2)) (fitR hR (by first | decide | omega) (by decide) (by omega)) rfl rfl (Nat.le_of_ble_eq_true rfl) dX11_tenantLine_44 ?_
        refine g_aload_n h dX11_tenantLine_47 rfl rfl ?_
        refine g_iload_n h dX11_tenantLine_48 rfl rfl ?_
        refine g_bipush (v := nI 23) h dX11_tenantLine_49 (by decide) ?_
        refine g_iconst (v := nI 3) h dX11_tenantLine_51 (by decide) ?_
        refine g_V h lv_X11_130_X11 sh_178 (by decide) rfl (c_X11_figures_x B f L _ _ _ _ _ hw9 u hf hL (by first | assumption | exact (skp_b (by assumption)).2 | exact (skp_b (skp_b (by assumption)).2).2)) (fitR hR (by first | decide | omega) (by decide) (by omega)) rfl rfl (Nat.le_of_ble_eq_true rfl) dX11_tenantLine_52 ?_
        refine g_istore (ls' := [(0, _), (1, _), (2, _), (3, _), (4, _)]) h dX11_tenantLine_55 (by decide) rfl rfl ?_
        refine g_aload_n h dX11_tenantLine_57 rfl rfl ?_
        refine g_getI h fl_X11_25_10 sh_178 (by decide) rfl dX11_tenantLine_58 ?_
        refine g_top mr_r12 ?_
        refine g_iconst (v := -1) h dX11_tenantLine_61 (by decide) ?_
        refine g_icmp_ne (tgt := 74) h dX11_tenantLine_62 (by decide) (fun c62 => ?_) (fun c62 => ?_)
        · exact g_vretP h hrt dX11_tenantLine_74 (by omega) (qv_e (by rw [tenD, if_pos (show T < 10 by omega), if_pos n22, if_neg n29]) (by first | assumption | exact (skp_b (by assumption)).2 | exact (skp_b (skp_b (by assumption)).2).2))
        · exact absurd c62 hw9
    · cases hv22
      have hw9 := nw q1 hL
      refine g_istore_n (ls' := [(0, _), (1, _), (2, _)]) h dX11_tenantLine_25 rfl (by decide) rfl rfl ?_
      refine g_aload_n h dX11_tenantLine_26 rfl rfl ?_
      refine g_ldcS (tx := "likes") (k := 1) h (by decide) dX11_tenantLine_27 ?_
      refine g_V h lv_X11_136_X11 sh_178 (by decide) rfl (c_X11_must_x B f L _ _ _ hw9 u hf hL (by first | assumption | exact (skp_b (by assumption)).2 | exact (skp_b (skp_b (by assumption)).2).2)) (fitR hR (by first | decide | omega) (by decide) (by omega)) rfl rfl (Nat.le_of_ble_eq_true rfl) dX11_tenantLine_29 ?_
      refine g_aload_n h dX11_tenantLine_32 rfl rfl ?_
      refine g_iconst (v := nI 0) h dX11_tenantLine_33 (by decide) ?_
      refine g_bipush (v := nI 23) h dX11_tenantLine_34 (by decide) ?_
      refine g_iconst (v := nI 3) h dX11_tenantLine_36 (by decide) ?_
      refine g_V h lv_X11_130_X11 sh_178 (by decide) rfl (c_X11_figures_x B f L _ _ _ _ _ hw9 u hf hL (by first | assumption | exact (skp_b (by assumption)).2 | exact (skp_b (skp_b (by assumption)).2).2)) (fitR hR (by first | decide | omega) (by decide) (by omega)) rfl rfl (Nat.le_of_ble_eq_true rfl) dX11_tenantLine_37 ?_
      refine g_istore_n (ls' := [(0, _), (1, _), (2, _), (3, _)]) h dX11_tenantLine_40 rfl (by decide) rfl rfl ?_
      refine g_aload_n h dX11_tenantLine_41 rfl rfl ?_
      refine g_ldcS (tx := "to") (k := 2) h (by decide) dX11_tenantLine_42 ?_
      refine g_V h lv_X11_136_X11 sh_178 (by decide) rfl (c_X11_must_x B f L _ _ _ hw9 u hf hL (by first | assumption | exact (skp_b (by assumption)).2 | exact (skp_b (skp_b (by assumption)).2).2)) (fitR hR (by first | decide | omega) (by decide) (by omega)) rfl rfl (Nat.le_of_ble_eq_true rfl) dX11_tenantLine_44 ?_
      refine g_aload_n h dX11_tenantLine_47 rfl rfl ?_
      refine g_iload_n h dX11_tenantLine_48 rfl rfl ?_
      refine g_bipush (v := nI 23) h dX11_tenantLine_49 (by decide) ?_
      refine g_iconst (v := nI 3) h dX11_tenantLine_51 (by decide) ?_
      refine g_V h lv_X11_130_X11 sh_178 (by decide) rfl (c_X11_figures_x B f L _ _ _ _ _ hw9 u hf hL (by first | assumption | exact (skp_b (by assumption)).2 | exact (skp_b (skp_b (by assumption)).2).2)) (fitR hR (by first | decide | omega) (by decide) (by omega)) rfl rfl (Nat.le_of_ble_eq_true rfl) dX11_tenantLine_52 ?_
      refine g_istore (ls' := [(0, _), (1, _), (2, _), (3, _), (4, _)]) h dX11_tenantLine_55 (by decide) rfl rfl ?_
      refine g_aload_n h dX11_tenantLine_57 rfl rfl ?_
      refine g_getI h fl_X11_25_10 sh_178 (by decide) rfl dX11_tenantLine_58 ?_
      refine g_top mr_r12 ?_
      refine g_iconst (v := -1) h dX11_tenantLine_61 (by decide) ?_
      refine g_icmp_ne (tgt := 74) h dX11_tenantLine_62 (by decide) (fun c62 => ?_) (fun c62 => ?_)
      · exact g_vretP h hrt dX11_tenantLine_74 (by omega) (qv_e (by rw [tenD, if_pos (show T < 10 by omega), if_neg n22]) (by first | assumption | exact (skp_b (by assumption)).2 | exact (skp_b (skp_b (by assumption)).2).2))
      · exact absurd c62 hw9
  · have n8 := eq_n (by omega) (by omega) (show nI (T) = nI (10) from c8)
    refine g_aload_n h dX11_tenantLine_11 rfl rfl ?_
    refine g_iload_n h dX11_tenantLine_12 rfl rfl ?_
    refine g_V h lv_X11_123_X11 sh_178 (by decide) rfl (c_X11_wrong B f L (enN f L p) (-1) (nI p) u hf hL e0) (fitR hR (by first | decide | omega) (by decide) (by omega)) rfl rfl (Nat.le_of_ble_eq_true rfl) dX11_tenantLine_13 ?_
    refine g_sto (mr_wv (if_pos rfl)) ?_
    have hw9 := nw h0 hL
    refine g_aload_n h dX11_tenantLine_16 rfl rfl ?_
    refine g_iconst (v := nI 0) h dX11_tenantLine_17 (by decide) ?_
    refine g_sipush (v := nI 9999) h dX11_tenantLine_18 (by decide) ?_
    refine g_iconst (v := nI 4) h dX11_tenantLine_21 (by decide) ?_
    refine g_V h lv_X11_130_X11 sh_178 (by decide) rfl (c_X11_figures_x B f L _ _ _ _ _ hw9 u hf hL (by first | assumption | exact (skp_b (by assumption)).2 | exact (skp_b (skp_b (by assumption)).2).2)) (fitR hR (by first | decide | omega) (by decide) (by omega)) rfl rfl (Nat.le_of_ble_eq_true rfl) dX11_tenantLine_22 ?_
    refine g_istore_n (ls' := [(0, _), (1, _), (2, _)]) h dX11_tenantLine_25 rfl (by decide) rfl rfl ?_
    refine g_aload_n h dX11_tenantLine_26 rfl rfl ?_
    refine g_ldcS (tx := "likes") (k := 1) h (by decide) dX11_tenantLine_27 ?_
    refine g_V h lv_X11_136_X11 sh_178 (by decide) rfl (c_X11_must_x B f L _ _ _ hw9 u hf hL (by first | assumption | exact (skp_b (by assumption)).2 | exact (skp_b (skp_b (by assumption)).2).2)) (fitR hR (by first | decide | omega) (by decide) (by omega)) rfl rfl (Nat.le_of_ble_eq_true rfl) dX11_tenantLine_29 ?_
    refine g_aload_n h dX11_tenantLine_32 rfl rfl ?_
    refine g_iconst (v := nI 0) h dX11_tenantLine_33 (by decide) ?_
    refine g_bipush (v := nI 23) h dX11_tenantLine_34 (by decide) ?_
    refine g_iconst (v := nI 3) h dX11_tenantLine_36 (by decide) ?_
    refine g_V h lv_X11_130_X11 sh_178 (by decide) rfl (c_X11_figures_x B f L _ _ _ _ _ hw9 u hf hL (by first | assumption | exact (skp_b (by assumption)).2 | exact (skp_b (skp_b (by assumption)).2).2)) (fitR hR (by first | decide | omega) (by decide) (by omega)) rfl rfl (Nat.le_of_ble_eq_true rfl) dX11_tenantLine_37 ?_
    refine g_istore_n (ls' := [(0, _), (1, _), (2, _), (3, _)]) h dX11_tenantLine_40 rfl (by decide) rfl rfl ?_
    refine g_aload_n h dX11_tenantLine_41 rfl rfl ?_
    refine g_ldcS (tx := "to") (k := 2) h (by decide) dX11_tenantLine_42 ?_
    refine g_V h lv_X11_136_X11 sh_178 (by decide) rfl (c_X11_must_x B f L _ _ _ hw9 u hf hL (by first | assumption | exact (skp_b (by assumption)).2 | exact (skp_b (skp_b (by assumption)).2).2)) (fitR hR (by first | decide | omega) (by decide) (by omega)) rfl rfl (Nat.le_of_ble_eq_true rfl) dX11_tenantLine_44 ?_
    refine g_aload_n h dX11_tenantLine_47 rfl rfl ?_
    refine g_iload_n h dX11_tenantLine_48 rfl rfl ?_
    refine g_bipush (v := nI 23) h dX11_tenantLine_49 (by decide) ?_
    refine g_iconst (v := nI 3) h dX11_tenantLine_51 (by decide) ?_
    refine g_V h lv_X11_130_X11 sh_178 (by decide) rfl (c_X11_figures_x B f L _ _ _ _ _ hw9 u hf hL (by first | assumption | exact (skp_b (by assumption)).2 | exact (skp_b (skp_b (by assumption)).2).2)) (fitR hR (by first | decide | omega) (by decide) (by omega)) rfl rfl (Nat.le_of_ble_eq_true rfl) dX11_tenantLine_52 ?_
    refine g_istore (ls' := [(0, _), (1, _), (2, _), (3, _), (4, _)]) h dX11_tenantLine_55 (by decide) rfl rfl ?_
    refine g_aload_n h dX11_tenantLine_57 rfl rfl ?_
    refine g_getI h fl_X11_25_10 sh_178 (by decide) rfl dX11_tenantLine_58 ?_
    refine g_top mr_r12 ?_
    refine g_iconst (v := -1) h dX11_tenantLine_61 (by decide) ?_
    refine g_icmp_ne (tgt := 74) h dX11_tenantLine_62 (by decide) (fun c62 => ?_) (fun c62 => ?_)
    · exact g_vretP h hrt dX11_tenantLine_74 (by omega) (qv_e (by rw [tenD, if_neg (show ¬ T < 10 by omega)]) (by first | assumption | exact (skp_b (by assumption)).2 | exact (skp_b (skp_b (by assumption)).2).2))
    · exact absurd c62 hw9
