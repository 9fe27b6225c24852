-- after: 38.r 39.s 40.t 47.str 48.tx 49.ty 50.tt 51.tu 52.tv 53.lw 54.lx 55.ly 56.lz 57.ma 58.mb 59.mc 61.me 62.mf 70.na 71.nb 72.nc 73.nd 74.ne 75.nf 76.ng 77.nh 78.ni 79.nj 80.nk 81.nl 82.nm
def tlsM (f : Nat → Int32) (L : Nat) : Nat → Nat → Nat → Sto → Nat → Except Nat Sto
  | 0, _, _, _, p => .error p
  | k + 1, T, W, u, p => match twD T W (moV u) (owV u) (shV u) f L p with
    | .error e => .error e
    | .ok q => if kdN f L q.2 = 0 then .ok (apM u T W q.1) else if sgP f L q.2 (nI 59) then tlsM f L k (T + tT q.1) (W + tW q.1) (apM u T W q.1) (nx f L q.2) else .error q.2
def twnM (f : Nat → Int32) (L T W : Nat) (u : Sto) : Except Nat Sto := if kdN f L (skp f L 0) = 0 then .ok u else tlsM f L 14 T W u (skp f L 0)
section TLM
variable {f : Nat → Int32} {L k T W p : Nat} {u : Sto}
theorem tm_e {e : Nat} (h : twD T W (moV u) (owV u) (shV u) f L p = .error e) : tlsM f L (k + 1) T W u p = .error e := by rw [tlsM, h]
theorem tm_1 {q : TL × Nat} (h : twD T W (moV u) (owV u) (shV u) f L p = .ok q) (h2 : kdN f L q.2 = 0) : tlsM f L (k + 1) T W u p = .ok (apM u T W q.1) := by rw [tlsM, h]; exact if_pos h2
theorem tm_s {q : TL × Nat} (h : twD T W (moV u) (owV u) (shV u) f L p = .ok q) (h2 : ¬ kdN f L q.2 = 0) (h3 : ¬ sgP f L q.2 (nI 59)) : tlsM f L (k + 1) T W u p = .error q.2 := by rw [tlsM, h]; exact (if_neg h2).trans (if_neg h3)
theorem tm_r {q : TL × Nat} (h : twD T W (moV u) (owV u) (shV u) f L p = .ok q) (h2 : ¬ kdN f L q.2 = 0) (h3 : sgP f L q.2 (nI 59)) : tlsM f L (k + 1) T W u p = tlsM f L k (T + tT q.1) (W + tW q.1) (apM u T W q.1) (nx f L q.2) := by rw [tlsM, h]; exact (if_neg h2).trans (if_pos h3)
end TLM
/-- only the row m below the text -/
def mlo (a b : Sto) : Prop := (∀ k, k ≠ 179 → a k = b k) ∧ ∀ j, 1080 ≤ j → a 179 j = b 179 j
theorem mlo.refl (a : Sto) : mlo a a := ⟨fun _ _ => rfl, fun _ _ => rfl⟩
theorem mlo.trans {a b c : Sto} (h : mlo a b) (h2 : mlo b c) : mlo a c := ⟨fun k hk => (h.1 k hk).trans (h2.1 k hk), fun j hj => (h.2 j hj).trans (h2.2 j hj)⟩
theorem mlo_su {a b : Sto} {j : Nat} {x : Int32} (h : mlo a b) (hj : j < 1080) : mlo (su a 179 j x) b := ⟨fun k hk => (su_cell _ _ hk).trans (h.1 k hk), fun i hi => (su_i (by omega)).trans (h.2 i hi)⟩
theorem mlo_LF {a b : Sto} {B : Int32} {f : Nat → Int32} (h : mlo a b) (hf : LF b B f) : LF a B f := by
  rcases hf with ⟨h1, h2⟩ | ⟨h1, h2⟩
  · exact Or.inl ⟨h1, fun k hk => by rw [h.1 183 (by decide)]; exact h2 k hk⟩
  · exact Or.inr ⟨h1, fun k hk => by rw [h.2 _ (by omega)]; exact h2 k hk⟩
theorem ltM_mlo {u : Sto} {q m A B : Nat} (h : q + B < 168) : ∀ k, A + k ≤ B + 1 → mlo (ltM u q m A k) u
  | 0, _ => mlo.refl _
  | k + 1, hk => mlo_su (mlo_su (ltM_mlo h k (by omega)) (by omega)) (by omega)
theorem mlo_ap {u : Sto} {T W : Nat} {x : TL} (hT : T ≤ 10) (hx : tOK T W x) : mlo (apM u T W x) u := by
  cases x using TL.cs with
  | ten c a b =>
    have hx : T < 10 := hx
    exact mlo_su (mlo_su (mlo_su (mlo_su (mlo_su (mlo_su (mlo.refl _) (by omega)) (by omega)) (by omega)) (by omega)) (by omega)) (by omega)
  | chl m =>
    have hx : T < 10 := hx.1
    exact mlo_su (mlo_su (mlo_su (mlo_su (mlo_su (mlo_su (mlo.refl _) (by omega)) (by omega)) (by omega)) (by omega)) (by omega)) (by omega)
  | lt q A B m => exact ltM_mlo (B := B) hx.2.1 _ (by have := hx.2.2; omega)
  | gds r n => have hx : r < 168 := hx; exact mlo_su (mlo.refl _) (by omega)
  | sht r => have hx : r < 168 := hx; exact mlo_su (mlo.refl _) (by omega)
  | sbt r m => have hx : r < 168 := hx.1; exact mlo_su (mlo.refl _) (by omega)
  | wnt m n a b =>
    have hx : W < 8 := hx.1
    exact mlo_su (mlo_su (mlo_su (mlo_su (mlo_su (mlo.refl _) (by omega)) (by omega)) (by omega)) (by omega)) (by omega)
  | chc n => exact mlo_su (mlo.refl _) (by omega)
def MI (u : Sto) (T W : Nat) : Prop := u 179 1 = nI T ∧ T ≤ 10 ∧ u 179 9 = nI W ∧ W ≤ 8 ∧ ∀ r, r < 168 → shV u r = nI 0 ∨ shV u r = nI 1
theorem ltM_j {u : Sto} {q m A j : Nat} (h : ∀ r, ¬ j = 88 + 4 * r ∧ ¬ j = 89 + 4 * r) : ∀ k, ltM u q m A k 179 j = u 179 j
  | 0 => rfl
  | k + 1 => (su_i (h _).2).trans ((su_i (h _).1).trans (ltM_j h k))
theorem cmS_1 {u : Sto} {T : Nat} {c a b m : Int32} : cmS u T c a b m 179 1 = nI (T + 1) := by unfold cmS; exact su_k
theorem cmS_j {u : Sto} {T j : Nat} {c a b m : Int32} (h : j ≠ 16 + 4 * T ∧ j ≠ 17 + 4 * T ∧ j ≠ 18 + 4 * T ∧ j ≠ 19 + 4 * T ∧ j ≠ 7 ∧ j ≠ 1) : cmS u T c a b m 179 j = u 179 j := by
  unfold cmS
  rw [su_i h.2.2.2.2.2, su_i h.2.2.2.2.1, su_i h.2.2.2.1, su_i h.2.2.1, su_i h.2.1, su_i h.1]
theorem wnS_9 {u : Sto} {W : Nat} {m n a b : Int32} : wnS u W m n a b 179 9 = nI (W + 1) := by unfold wnS; exact su_k
theorem wnS_j {u : Sto} {W j : Nat} {m n a b : Int32} (h : j ≠ 56 + 4 * W ∧ j ≠ 57 + 4 * W ∧ j ≠ 58 + 4 * W ∧ j ≠ 59 + 4 * W ∧ j ≠ 9) : wnS u W m n a b 179 j = u 179 j := by
  unfold wnS
  rw [su_i h.2.2.2.2, su_i h.2.2.2.1, su_i h.2.2.1, su_i h.2.1, su_i h.1]
theorem MI_ap {u : Sto} {T W : Nat} {x : TL} (h : MI u T W) (hx : tOK T W x) : MI (apM u T W x) (T + tT x) (W + tW x) := by
  obtain ⟨h1, h2, h3, h4, h5⟩ := h
  cases x using TL.cs with
  | ten c a b =>
    have hx : T < 10 := hx
    refine ⟨cmS_1, by show T + 1 ≤ 10; omega, (cmS_j (by omega)).trans h3, h4, fun r hr => ?_⟩
    have : shV (apM u T W (.ten c a b)) r = shV u r := cmS_j (by omega)
    rw [this]; exact h5 r hr
  | chl m =>
    have hx : T < 10 := hx.1
    refine ⟨cmS_1, by show T + 1 ≤ 10; omega, (cmS_j (by omega)).trans h3, h4, fun r hr => ?_⟩
    have : shV (apM u T W (.chl m)) r = shV u r := cmS_j (by omega)
    rw [this]; exact h5 r hr
  | lt q A B m =>
    refine ⟨(ltM_j (fun r => by omega) _).trans h1, h2, (ltM_j (fun r => by omega) _).trans h3, h4, fun r hr => ?_⟩
    have : shV (apM u T W (.lt q A B m)) r = shV u r := ltM_j (fun r => by omega) _
    rw [this]; exact h5 r hr
  | gds r n =>
    refine ⟨(su_i (by omega)).trans h1, h2, (su_i (by omega)).trans h3, h4, fun i hi => ?_⟩
    have : shV (apM u T W (.gds r n)) i = shV u i := su_i (by omega)
    rw [this]; exact h5 i hi
  | sht r =>
    refine ⟨(su_i (by omega)).trans h1, h2, (su_i (by omega)).trans h3, h4, fun i hi => ?_⟩
    by_cases e : i = r
    · subst e; exact Or.inr su_k
    · have : shV (apM u T W (.sht r)) i = shV u i := su_i (by omega)
      rw [this]; exact h5 i hi
  | sbt r m =>
    refine ⟨(su_i (by omega)).trans h1, h2, (su_i (by omega)).trans h3, h4, fun i hi => ?_⟩
    have : shV (apM u T W (.sbt r m)) i = shV u i := su_i (by omega)
    rw [this]; exact h5 i hi
  | wnt m n a b =>
    have hx : W < 8 := hx.1
    refine ⟨(wnS_j (by omega)).trans h1, h2, wnS_9, by show W + 1 ≤ 8; omega, fun i hi => ?_⟩
    have : shV (apM u T W (.wnt m n a b)) i = shV u i := wnS_j (by omega)
    rw [this]; exact h5 i hi
  | chc n =>
    refine ⟨(su_i (by omega)).trans h1, h2, (su_i (by omega)).trans h3, h4, fun i hi => ?_⟩
    have : shV (apM u T W (.chc n)) i = shV u i := su_i (by omega)
    rw [this]; exact h5 i hi
def QRt (u : Sto) (B : Int32) (L : Nat) (r : Except Nat Sto) : Res → Sto → Prop := fun o t => ∃ x, o = .inl (some (.int x)) ∧ match r with
  | .error e => ∃ v q, mlo v u ∧ q ≤ L + 7 ∧ t = MR v B L q (nI e)
  | .ok v => ∃ q, q ≤ L ∧ t = MR v B L q (-1)
theorem qrt_nx {u : Sto} {B : Int32} {L : Nat} {r : Except Nat Sto} : ∀ Ex s, ¬ QRt u B L r (.inr Ex) s := by
  intro Ex s h
  obtain ⟨_, h, _⟩ := h
  exact nomatch h
theorem qrt_e {u v : Sto} {B : Int32} {L q e : Nat} {r : Except Nat Sto} {x : Int32} (h : r = .error e) (hb : mlo v u) (hq : q ≤ L + 7) : QRt u B L r (.inl (some (.int x))) (MR v B L q (nI e)) := by rw [h]; exact ⟨x, rfl, v, q, hb, hq, rfl⟩
theorem qrt_k {u v : Sto} {B : Int32} {L q : Nat} {r : Except Nat Sto} {x : Int32} (h : r = .ok v) (hq : q ≤ L) : QRt u B L r (.inl (some (.int x))) (MR v B L q (-1)) := by rw [h]; exact ⟨x, rfl, q, hq, rfl⟩
set_option maxHeartbeats 1000000 in
theorem c_X11_read_f {E : EE} (B : Int32) (f : Nat → Int32) (L T W : Nat) (u : Sto) (hf : LF u B f) (hL : L ≤ 400) (hM0 : MI u T W) : CtP E 31 0 yX11_read cX11_read 4 (some .int) [.ref (E.ad 178), .int (nI 0)] (MR u B L 0 (-1)) (QRt u B L (twnM f L T W u)) := by
  refine ctp_of (by decide) (Nat.le_of_ble_eq_true rfl) (fun X h hR hrt htab hargs => ?_)
  have DN : ∀ (v : Sto) (x : Int32) (q : Nat), q ≤ L → twnM f L T W u = .ok v → G E X (QMP E X (QRt u B L (twnM f L T W u)) 0) 4 0 23 [(0, .ref (E.ad 178)), (1, .int (nI 0)), (2, .int (nI 0)), (3, .int x)] [] (MR v B L q (-1)) := by
    intro v x q hq hr
    refine g_iload_n h dX11_read_23 rfl rfl ?_
    refine g_if_eq (tgt := 144) h dX11_read_24 (by decide) (fun _ => ?_) (fun q => absurd q (by decide))
    refine g_iload_n h dX11_read_144 rfl rfl ?_
    exact g_iretP h hrt dX11_read_145 (by omega) (qrt_k hr hq)
  have XA : ∀ (v : Sto) (x : Int32) (q e9 : Nat), mlo v u → q ≤ L + 7 → ¬ nI e9 = -1 → twnM f L T W u = .error e9 → G E X (QMP E X (QRt u B L (twnM f L T W u)) 0) 4 0 23 [(0, .ref (E.ad 178)), (1, .int (nI 0)), (2, .int (nI 0)), (3, .int x)] [] (MR v B L q (nI e9)) := by
    intro v x q e9 hb hq hw9 hr
    refine g_iload_n h dX11_read_23 rfl rfl ?_
    refine g_if_eq (tgt := 144) h dX11_read_24 (by decide) (fun _ => ?_) (fun q => absurd q (by decide))
    refine g_iload_n h dX11_read_144 rfl rfl ?_
    exact g_iretP h hrt dX11_read_145 (by omega) (qrt_e hr hb hq)
  have XB : ∀ (v : Sto) (x : Int32) (q e9 : Nat), mlo v u → q ≤ L + 7 → ¬ nI e9 = -1 → twnM f L T W u = .error e9 → G E X (QMP E X (QRt u B L (twnM f L T W u)) 0) 4 0 23 [(0, .ref (E.ad 178)), (1, .int (nI 0)), (2, .int (nI 1)), (3, .int x)] [] (MR v B L q (nI e9)) := by
    intro v x q e9 hb hq hw9 hr
    refine g_iload_n h dX11_read_23 rfl rfl ?_
    refine g_if_eq (tgt := 144) h dX11_read_24 (by decide) (fun q => absurd q (by decide)) (fun _ => ?_)
    refine g_aload_n h dX11_read_27 rfl rfl ?_
    refine g_getI h fl_X11_25_10 sh_178 (by decide) rfl dX11_read_28 ?_
    refine g_top mr_r12 ?_
    refine g_iconst (v := -1) h dX11_read_31 (by decide) ?_
    refine g_icmp_ne (tgt := 144) h dX11_read_32 (by decide) (fun c32 => ?_) (fun c32 => ?_)
    · refine g_iload_n h dX11_read_144 rfl rfl ?_
      exact g_iretP h hrt dX11_read_145 (by omega) (qrt_e hr hb hq)
    · exact absurd c32 hw9
  have LP : ∀ (j l a s1 T2 W2 : Nat) (v : Sto), l + j = 14 → a ≤ L → s1 ≤ L → skp f L a = s1 → mlo v u → MI v T2 W2 → twnM f L T W u = tlsM f L j T2 W2 v s1 → G E X (QMP E X (QRt u B L (twnM f L T W u)) 0) 4 0 23 [(0, .ref (E.ad 178)), (1, .int (nI 0)), (2, .int (nI 1)), (3, .int (nI l))] [] (MR v B L a (-1)) := by
    intro j
    induction j with
    | zero =>
      intro l a s1 T2 W2 v hlj ha h1 hsa hb hM hr
      have hss : skp f L s1 = s1 := by rw [← hsa]; exact sk_sk (Nat.le_refl _)
      have hf2 := mlo_LF hb hf
      refine g_iload_n h dX11_read_23 rfl rfl ?_
      refine g_if_eq (tgt := 144) h dX11_read_24 (by decide) (fun q => absurd q (by decide)) (fun _ => ?_)
      refine g_aload_n h dX11_read_27 rfl rfl ?_
      refine g_getI h fl_X11_25_10 sh_178 (by decide) rfl dX11_read_28 ?_
      refine g_top mr_r12 ?_
      refine g_iconst (v := -1) h dX11_read_31 (by decide) ?_
      refine g_icmp_ne (tgt := 144) h dX11_read_32 (by decide) (fun c32 => ?_) (fun c32 => ?_)
      · exact absurd rfl c32
      · refine g_aload_n h dX11_read_35 rfl rfl ?_
        refine g_V h lv_X11_106_X11 sh_178 (by decide) rfl (c_X11_skip B f L a (-1) v hf2 hL ha) (fitR hR (by first | decide | omega) (by decide) (by omega)) rfl rfl (Nat.le_of_ble_eq_true rfl) dX11_read_36 ?_
        refine g_sto (mr_pv (congrArg nI hsa)) ?_
        refine g_iload_n h dX11_read_39 rfl rfl ?_
        refine g_iload_n h dX11_read_40 rfl rfl ?_
        refine g_if_eq (tgt := 49) h dX11_read_41 (by decide) (fun _ => ?_) (fun q => absurd q (by decide))
        refine g_bipush (v := nI 14) h dX11_read_49 (by decide) ?_
        refine g_icmp_ne (tgt := 65) h dX11_read_51 (by decide) (fun c51 => ?_) (fun c51 => ?_)
        · have n51 := ne_n (show ¬ nI (l) = nI (14) from c51)
          omega
        · have n51 := eq_n (by omega) (by omega) (show nI (l) = nI (14) from c51)
          refine g_aload_n h dX11_read_54 rfl rfl ?_
          refine g_aload_n h dX11_read_55 rfl rfl ?_
          refine g_getI h fl_X11_97_10 sh_178 (by decide) rfl dX11_read_56 ?_
          refine g_top mr_r11 ?_
          refine g_V h lv_X11_123_X11 sh_178 (by decide) rfl (c_X11_wrong B f L s1 (-1) (nI s1) v hf2 hL h1) (fitR hR (by first | decide | omega) (by decide) (by omega)) rfl rfl (Nat.le_of_ble_eq_true rfl) dX11_read_59 ?_
          refine g_sto (mr_wv (if_pos rfl)) ?_
          have hw9 := nw h1 hL
          refine g_goto (tgt := 80) h dX11_read_62 (by decide) ?_
          refine g_iinc (v := nI (l + 1)) (ls' := [(0, _), (1, _), (2, _), (3, _)]) h dX11_read_80 rfl (nI_1 l) (by decide) rfl rfl ?_
          refine g_aload_n h dX11_read_83 rfl rfl ?_
          refine g_V h lv_X11_106_X11 sh_178 (by decide) rfl (c_X11_skip_x B f L _ _ v hf2 hL (by omega)) (fitR hR (by first | decide | omega) (by decide) (by omega)) rfl rfl (Nat.le_of_ble_eq_true rfl) dX11_read_84 ?_
          refine g_aload_n h dX11_read_87 rfl rfl ?_
          refine g_getI h fl_X11_25_10 sh_178 (by decide) rfl dX11_read_88 ?_
          refine g_top mr_r12 ?_
          refine g_iconst (v := -1) h dX11_read_91 (by decide) ?_
          refine g_icmp_ne (tgt := 106) h dX11_read_92 (by decide) (fun c92 => ?_) (fun c92 => ?_)
          · refine g_iconst (v := nI 0) h dX11_read_106 (by decide) ?_
            refine g_istore_n (ls' := [(0, _), (1, _), (2, _), (3, _)]) h dX11_read_107 rfl (by decide) rfl rfl ?_
            refine g_goto (tgt := 23) h dX11_read_108 (by decide) ?_
            exact XA v _ _ _ hb (by split <;> first | omega | exact Nat.le_trans (skp_b (by assumption)).2 (by omega)) hw9 hr
          · exact absurd c92 hw9
    | succ j ih =>
      intro l a s1 T2 W2 v hlj ha h1 hsa hb hM hr
      have hss : skp f L s1 = s1 := by rw [← hsa]; exact sk_sk (Nat.le_refl _)
      have hf2 := mlo_LF hb hf
      refine g_iload_n h dX11_read_23 rfl rfl ?_
      refine g_if_eq (tgt := 144) h dX11_read_24 (by decide) (fun q => absurd q (by decide)) (fun _ => ?_)
      refine g_aload_n h dX11_read_27 rfl rfl ?_
      refine g_getI h fl_X11_25_10 sh_178 (by decide) rfl dX11_read_28 ?_
      refine g_top mr_r12 ?_
      refine g_iconst (v := -1) h dX11_read_31 (by decide) ?_
      refine g_icmp_ne (tgt := 144) h dX11_read_32 (by decide) (fun c32 => ?_) (fun c32 => ?_)
      · exact absurd rfl c32
      · refine g_aload_n h dX11_read_35 rfl rfl ?_
        refine g_V h lv_X11_106_X11 sh_178 (by decide) rfl (c_X11_skip B f L a (-1) v hf2 hL ha) (fitR hR (by first | decide | omega) (by decide) (by omega)) rfl rfl (Nat.le_of_ble_eq_true rfl) dX11_read_36 ?_
        refine g_sto (mr_pv (congrArg nI hsa)) ?_
        refine g_iload_n h dX11_read_39 rfl rfl ?_
        refine g_iload_n h dX11_read_40 rfl rfl ?_
        refine g_if_eq (tgt := 49) h dX11_read_41 (by decide) (fun _ => ?_) (fun q => absurd q (by decide))
        refine g_bipush (v := nI 14) h dX11_read_49 (by decide) ?_
        refine g_icmp_ne (tgt := 65) h dX11_read_51 (by decide) (fun c51 => ?_) (fun c51 => ?_)
        · have n51 := ne_n (show ¬ nI (l) = nI (14) from c51)
          refine g_iload_n h dX11_read_65 rfl rfl ?_
          refine g_if_eq (tgt := 76) h dX11_read_66 (by decide) (fun _ => ?_) (fun q => absurd q (by decide))
          refine g_aload_n h dX11_read_76 rfl rfl ?_
          refine g_VP h lv_X11_190_X11 sh_178 (by decide) rfl (c_X11_townLine B f L s1 T2 W2 hM.2.1 hM.2.2.2.1 s1 hss h1 v hf2 hL h1 hM.1 hM.2.2.1 hM.2.2.2.2) qv_nx (fitR hR (by first | decide | omega) (by decide) (by omega)) rfl rfl (Nat.le_of_ble_eq_true rfl) dX11_read_77 (fun v77 u77 hs77 => ?_)
          cases h77 : twD T2 W2 (moV v) (owV v) (shV v) f L s1
          · rename_i e77
            rw [h77] at hs77
            obtain ⟨hv77, q9, hq9, rfl⟩ := hs77
            cases hv77
            have hw9 := nw (tw_er h1 h77) hL
            refine g_iinc (v := nI (l + 1)) (ls' := [(0, _), (1, _), (2, _), (3, _)]) h dX11_read_80 rfl (nI_1 l) (by decide) rfl rfl ?_
            refine g_aload_n h dX11_read_83 rfl rfl ?_
            refine g_V h lv_X11_106_X11 sh_178 (by decide) rfl (c_X11_skip_x B f L _ _ v hf2 hL (by omega)) (fitR hR (by first | decide | omega) (by decide) (by omega)) rfl rfl (Nat.le_of_ble_eq_true rfl) dX11_read_84 ?_
            refine g_aload_n h dX11_read_87 rfl rfl ?_
            refine g_getI h fl_X11_25_10 sh_178 (by decide) rfl dX11_read_88 ?_
            refine g_top mr_r12 ?_
            refine g_iconst (v := -1) h dX11_read_91 (by decide) ?_
            refine g_icmp_ne (tgt := 106) h dX11_read_92 (by decide) (fun c92 => ?_) (fun c92 => ?_)
            · refine g_iconst (v := nI 0) h dX11_read_106 (by decide) ?_
              refine g_istore_n (ls' := [(0, _), (1, _), (2, _), (3, _)]) h dX11_read_107 rfl (by decide) rfl rfl ?_
              refine g_goto (tgt := 23) h dX11_read_108 (by decide) ?_
              exact XA v _ _ _ hb (by split <;> first | omega | exact Nat.le_trans (skp_b (by assumption)).2 (by omega)) hw9 (hr.trans (tm_e h77))
            · exact absurd c92 hw9
          · rename_i y77
            rw [h77] at hs77
            obtain ⟨hv77, q77, hq77, hsq77, rfl⟩ := hs77
            cases hv77
            have hy77 := tw_p h1 h77
            have hok := tw_ok hM.2.1 h77
            have hmA : mlo (apM v T2 W2 y77.1) v := mlo_ap hM.2.1 hok
            have hfA : LF (apM v T2 W2 y77.1) B f := mlo_LF hmA hf2
            have hyy : skp f L y77.2 = y77.2 := by rw [← hsq77]; exact sk_sk (Nat.le_refl _)
            refine g_iinc (v := nI (l + 1)) (ls' := [(0, _), (1, _), (2, _), (3, _)]) h dX11_read_80 rfl (nI_1 l) (by decide) rfl rfl ?_
            refine g_aload_n h dX11_read_83 rfl rfl ?_
            refine g_V h lv_X11_106_X11 sh_178 (by decide) rfl (c_X11_skip B f L q77 (-1) (apM v T2 W2 y77.1) hfA hL hq77) (fitR hR (by first | decide | omega) (by decide) (by omega)) rfl rfl (Nat.le_of_ble_eq_true rfl) dX11_read_84 ?_
            refine g_sto (mr_pv (congrArg nI hsq77)) ?_
            refine g_aload_n h dX11_read_87 rfl rfl ?_
            refine g_getI h fl_X11_25_10 sh_178 (by decide) rfl dX11_read_88 ?_
            refine g_top mr_r12 ?_
            refine g_iconst (v := -1) h dX11_read_91 (by decide) ?_
            refine g_icmp_ne (tgt := 106) h dX11_read_92 (by decide) (fun c92 => ?_) (fun c92 => ?_)
            · exact absurd rfl c92
            · refine g_aload_n h dX11_read_95 rfl rfl ?_
              refine g_getI h fl_X11_97_10 sh_178 (by decide) rfl dX11_read_96 ?_
              refine g_top mr_r11 ?_
              refine g_aload_n h dX11_read_99 rfl rfl ?_
              refine g_getI h fl_X11_100_10 sh_178 (by decide) rfl dX11_read_100 ?_
              refine g_top mr_r10 ?_
              refine g_icmp_ne (tgt := 111) h dX11_read_103 (by decide) (fun c103 => ?_) (fun c103 => ?_)
              · have n103 := ne_n (show ¬ nI (y77.2) = nI (L) from c103)
                refine g_aload_n h dX11_read_111 rfl rfl ?_
                refine g_bipush (v := nI 59) h dX11_read_112 (by decide) ?_
                refine g_V h lv_X11_193_X11 sh_178 (by decide) rfl (c_X11_signs B f L y77.2 y77.2 hyy (-1) (nI 59) (by decide) (by decide) (apM v T2 W2 y77.1) hfA hL hy77) (fitR hR (by first | decide | omega) (by decide) (by omega)) rfl rfl (Nat.le_of_ble_eq_true rfl) dX11_read_114 ?_
                by_cases n114 : sgP f L y77.2 (nI 59)
                · refine g_top (b2_t n114) ?_
                  refine g_if_eq (tgt := 133) h dX11_read_117 (by decide) (fun q => absurd q (by decide)) (fun _ => ?_)
                  refine g_aload_n h dX11_read_120 rfl rfl ?_
                  refine g_dup h dX11_read_121 rfl ?_
                  refine g_getI h fl_X11_97_10 sh_178 (by decide) rfl dX11_read_122 ?_
                  refine g_top mr_r11 ?_
                  refine g_iconst (v := nI 1) h dX11_read_125 (by decide) ?_
                  refine g_iadd h dX11_read_126 ?_
                  refine g_top (nI_1 y77.2) ?_
                  refine g_putI h pfl_X11_97_10 sh_178 (by decide) rfl dX11_read_127 ?_
                  refine g_sto mr_w11 ?_
                  refine g_goto (tgt := 23) h dX11_read_130 (by decide) ?_
                  exact ih (l + 1) _ (nx f L y77.2) _ _ (apM v T2 W2 y77.1) (by omega) (by have := sg_lt n114; omega) (nx_b hy77).2 (by rw [← sg_en n114]; rfl) (hmA.trans hb) (MI_ap hM hok) (hr.trans (tm_r h77 (fun z => n103 (by have := kd0.mp z; omega)) n114))
                · refine g_top (b2_f n114) ?_
                  refine g_if_eq (tgt := 133) h dX11_read_117 (by decide) (fun _ => ?_) (fun q => absurd q (by decide))
                  refine g_aload_n h dX11_read_133 rfl rfl ?_
                  refine g_aload_n h dX11_read_134 rfl rfl ?_
                  refine g_getI h fl_X11_97_10 sh_178 (by decide) rfl dX11_read_135 ?_
                  refine g_top mr_r11 ?_
                  refine g_V h lv_X11_123_X11 sh_178 (by decide) rfl (c_X11_wrong B f L y77.2 (-1) (nI y77.2) (apM v T2 W2 y77.1) hfA hL hy77) (fitR hR (by first | decide | omega) (by decide) (by omega)) rfl rfl (Nat.le_of_ble_eq_true rfl) dX11_read_138 ?_
                  refine g_sto (mr_wv (if_pos rfl)) ?_
                  refine g_goto (tgt := 23) h dX11_read_141 (by decide) ?_
                  exact XB _ _ _ _ (hmA.trans hb) (by omega) (nw hy77 hL) (hr.trans (tm_s h77 (fun z => n103 (by have := kd0.mp z; omega)) n114))
              · have n103 := eq_n (by omega) (by omega) (show nI (y77.2) = nI (L) from c103)
                refine g_iconst (v := nI 0) h dX11_read_106 (by decide) ?_
                refine g_istore_n (ls' := [(0, _), (1, _), (2, _), (3, _)]) h dX11_read_107 rfl (by decide) rfl rfl ?_
                refine g_goto (tgt := 23) h dX11_read_108 (by decide) ?_
                exact DN _ _ _ hy77 (hr.trans (tm_1 h77 (kd0.mpr (by omega))))
        · have n51 := eq_n (by omega) (by omega) (show nI (l) = nI (14) from c51)
          omega
  have hs0 := (skp_b (f := f) (Nat.zero_le L)).2
  refine g_aload_n h dX11_read_0 rfl rfl ?_
  refine g_V h lv_X11_106_X11 sh_178 (by decide) rfl (c_X11_skip B f L 0 (-1) u hf hL (Nat.zero_le _)) (fitR hR (by first | decide | omega) (by decide) (by omega)) rfl rfl (Nat.le_of_ble_eq_true rfl) dX11_read_1 ?_
  refine g_aload_n h dX11_read_4 rfl rfl ?_
  refine g_getI h fl_X11_97_10 sh_178 (by decide) rfl dX11_read_5 ?_
  refine g_top mr_r11 ?_
  refine g_aload_n h dX11_read_8 rfl rfl ?_
  refine g_getI h fl_X11_100_10 sh_178 (by decide) rfl dX11_read_9 ?_
  refine g_top mr_r10 ?_
  refine g_icmp_ge (tgt := 19) h dX11_read_12 (by decide) (fun c12 => ?_) (fun c12 => ?_)
  · have n12 := le_n (by omega) (by omega) (show nI (L) ≤ nI (skp f L 0) from c12)
    refine g_iconst (v := nI 0) h dX11_read_19 (by decide) ?_
    refine g_istore_n (ls' := [(0, _), (1, _), (2, _)]) h dX11_read_20 rfl (by decide) rfl rfl ?_
    refine g_iconst (v := nI 0) h dX11_read_21 (by decide) ?_
    refine g_istore_n (ls' := [(0, _), (1, _), (2, _), (3, _)]) h dX11_read_22 rfl (by decide) rfl rfl ?_
    exact DN u _ _ hs0 (by rw [twnM, if_pos (kd0.mpr n12)])
  · have n12 := nle_n (by omega) (by omega) (show ¬ nI (L) ≤ nI (skp f L 0) from c12)
    refine g_iconst (v := nI 1) h dX11_read_15 (by decide) ?_
    refine g_goto (tgt := 20) h dX11_read_16 (by decide) ?_
    refine g_istore_n (ls' := [(0, _), (1, _), (2, _)]) h dX11_read_20 rfl (by decide) rfl rfl ?_
    refine g_iconst (v := nI 0) h dX11_read_21 (by decide) ?_
    refine g_istore_n (ls' := [(0, _), (1, _), (2, _), (3, _)]) h dX11_read_22 rfl (by decide) rfl rfl ?_
    exact LP 14 0 _ (skp f L 0) T W u (by omega) hs0 hs0 (sk_sk (Nat.le_refl _)) (mlo.refl _) hM0 (by rw [twnM, if_neg (fun z => by have := kd0.mp z; omega)])
