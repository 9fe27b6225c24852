-- after: 97.ob
def amB (t : List LN) : Prop := ∀ x, x ∈ t → ∃ n, n ≤ 999 ∧ x.2.1 = nI n
theorem lh_a {f : Nat → Int32} {L p : Nat} {q : Int32 × Int32 × Nat} (h : lwH f L p = .ok q) : ∃ n, n ≤ 999 ∧ q.2.1 = nI n := by
  unfold lwH at h
  split at h
  · cases h; exact ⟨0, by omega, rfl⟩
  · split at h
    · split at h
      · rename_i c
        cases h
        obtain ⟨k, hk, _, hk2⟩ := nu_ix c
        exact ⟨k, hk2, hk⟩
      · exact nomatch h
    · exact nomatch h
theorem lwP_a {f : Nat → Int32} {L p : Nat} {q : LN × Nat} (h : lwP f L p = .ok q) : ∃ n, n ≤ 999 ∧ q.1.2.1 = nI n := by
  unfold lwP at h
  split at h
  · exact nomatch h
  · rename_i r hr
    split at h
    · split at h
      · exact nomatch h
      · cases h; exact lh_a hr
    · cases h; exact lh_a hr
theorem lns_a {f : Nat → Int32} {L : Nat} : ∀ {k p : Nat} {t : List LN}, lnsP f L k p = .ok t → amB t
  | 0, _, _, h => nomatch h
  | k + 1, p, t, h => by
    unfold lnsP at h
    split at h
    · exact nomatch h
    · rename_i q hq
      have h3 := lwP_a hq
      split at h
      · cases h
        intro x hx
        cases hx with
        | head => exact h3
        | tail _ z => exact nomatch z
      · split at h
        · split at h
          · exact nomatch h
          · rename_i r hr
            cases h
            intro x hx
            cases hx with
            | head => exact h3
            | tail _ z => exact lns_a hr x z
        · exact nomatch h
theorem law_a2 {f : Nat → Int32} {L : Nat} {t : List LN} (h : lawP f L = .ok t) : amB t := by
  unfold lawP at h
  split at h
  · cases h; intro x hx; exact nomatch hx
  · exact lns_a h
theorem slL_b {fa : Nat → Int32} {kd : Int32} : ∀ (t : List LN) (s : Nat), amB t → ∃ n, n ≤ s + 999 * t.length ∧ slL fa kd t (nI s) = nI n
  | [], s, _ => ⟨s, by simp, rfl⟩
  | x :: t, s, h => by
    have hx := h x (List.Mem.head _)
    obtain ⟨a, ha, ea⟩ := hx
    have ht : amB t := fun y hy => h y (List.Mem.tail _ hy)
    show ∃ n, n ≤ s + 999 * (t.length + 1) ∧ slL fa kd t (nI s + (if x.1 = kd ∧ hoB fa x.2.2 = true then x.2.1 else 0)) = nI n
    by_cases c : x.1 = kd ∧ hoB fa x.2.2 = true
    · rw [if_pos c, ea, nI_add]
      obtain ⟨n, hn, e⟩ := slL_b (fa := fa) (kd := kd) t (s + a) ht
      exact ⟨n, by omega, e⟩
    · rw [if_neg c, Int32.add_zero]
      obtain ⟨n, hn, e⟩ := slL_b (fa := fa) (kd := kd) t s ht
      exact ⟨n, by omega, e⟩
theorem LK.rt {v u : Sto} {T W : Nat} (h : LK v u T W) (a r : Nat) : ∃ n, n ≤ 11988 ∧ rtI v a r = nI n := by
  unfold rtI
  rcases h.l with ⟨e, _⟩ | ⟨t, L, hL, hv5, _, _, hP, hW⟩
  · rw [if_pos e]; exact ⟨5, by omega, rfl⟩
  · have hw := law_w hP
    rw [if_neg (by rw [hv5]; exact nI_m4 (by omega)), hv5, ix_nI (by omega), (ask_b (by omega) hW).2.1]
    obtain ⟨n, hn, e⟩ := slL_b (fa := fct v a r) (kd := nI 1) t 0 (law_a2 hP)
    exact ⟨n, by omega, e⟩
theorem LK.vl {v u : Sto} {T W : Nat} (h : LK v u T W) (a r : Nat) : ∃ n, n ≤ 11988 ∧ vlI v a r = nI n := by
  unfold vlI
  rcases h.l with ⟨e, _⟩ | ⟨t, L, hL, hv5, _, _, hP, hW⟩
  · rw [if_pos e]
    by_cases c : lkP v a r
    · exact ⟨1, by omega, b2_t c⟩
    · exact ⟨0, by omega, b2_f c⟩
  · have hw := law_w hP
    rw [if_neg (by rw [hv5]; exact nI_m4 (by omega)), hv5, ix_nI (by omega), (ask_b (by omega) hW).2.2]
    obtain ⟨n, hn, e⟩ := slL_b (fa := fct v a r) (kd := nI 2) t 0 (law_a2 hP)
    exact ⟨n, by omega, e⟩
theorem LK.simA {v u w : Sto} {T W : Nat} (h : LK v u T W) (e : Jvm.Pilot.CHourLetsLaw_law_r3761_bf2a14.simA w u) : LK v w T W := h.c (e.1 179 (by decide) (by decide))
def voF (v : Sto) (a : Nat) (x : Int32) (r : Nat) : Int32 := if lvT v 3 r = x then vlI v a r else 0
theorem sm_b {f : Nat → Int32} {B : Nat} : ∀ n, (∀ k, k < n → ∃ m, m ≤ B ∧ f k = nI m) → ∃ m, m ≤ B * n ∧ smI f n = nI m
  | 0, _ => ⟨0, by omega, rfl⟩
  | n + 1, h => by
    obtain ⟨m, hm, e⟩ := sm_b n (fun k hk => h k (by omega))
    obtain ⟨m2, hm2, e2⟩ := h n (by omega)
    refine ⟨m + m2, ?_, ?_⟩
    · rw [Nat.mul_succ]; omega
    · show smI f n + f n = _
      rw [e, e2, nI_add]
theorem vo_b {v u : Sto} {T W a : Nat} {x : Int32} (h : LK v u T W) (n : Nat) : ∃ m, m ≤ 11988 * n ∧ smI (voF v a x) n = nI m := sm_b n (fun k _ => by
  unfold voF
  split
  · exact h.vl a k
  · exact ⟨0, by omega, rfl⟩)
set_option maxHeartbeats 1000000 in
theorem c_X11_valuesOf {E : EE} (v : Sto) (T W a : Nat) (ha : a < T) (x : Int32) (u : Sto) (hK : LK v u T W) : CtP E 34 0 yX11_valuesOf cX11_valuesOf 5 (some .int) [.ref (E.ad 178), .int (nI a), .int x] u (PA (.inl (some (.int (smI (voF v a x) 168)))) u) := by
  refine ctp_of (by decide) (Nat.le_of_ble_eq_true rfl) (fun X h hR hrt htab hargs => ?_)
  have LP : ∀ (j k : Nat) (w : Sto), 168 < k + j → k ≤ 168 → (simA w u) → G E X (QMP E X (PA (.inl (some (.int (smI (voF v a x) 168)))) u) 0) 5 0 5 [(0, .ref (E.ad 178)), (1, .int (nI a)), (2, .int x), (3, .int (smI (voF v a x) k)), (4, .int (nI k))] [] w := by
    intro j
    induction j with
    | zero => intro k w h1 h2 hw; omega
    | succ j ih =>
      intro k w h1 h2 hw
      refine g_iload h dX11_valuesOf_5 rfl ?_
      refine g_sipush (v := nI 168) h dX11_valuesOf_7 (by decide) ?_
      refine g_icmp_ge (tgt := 44) h dX11_valuesOf_10 (by decide) (fun c10 => ?_) (fun c10 => ?_)
      · have n10 := le_n (by omega) (by omega) (show nI (168) ≤ nI (k) from c10)
        refine g_iload_n h dX11_valuesOf_44 rfl rfl ?_
        exact g_iretP h hrt dX11_valuesOf_45 (by omega) ⟨by rw [show k = 168 by omega], hw⟩
      · have n10 := nle_n (by omega) (by omega) (show ¬ nI (168) ≤ nI (k) from c10)
        refine g_iload_n h dX11_valuesOf_13 rfl rfl ?_
        refine g_aload_n h dX11_valuesOf_14 rfl rfl ?_
        refine g_iload h dX11_valuesOf_15 rfl ?_
        refine g_iconst (v := nI 1) h dX11_valuesOf_17 (by decide) ?_
        refine g_V h lv_X11_84_X11 sh_178 (by decide) rfl (c_X11_ofRoom k 1 (by omega) (by decide) w) (fitR hR (by first | decide | omega) (by decide) (by omega)) rfl rfl (Nat.le_of_ble_eq_true rfl) dX11_valuesOf_18 ?_
        refine g_top ((hK.simA hw).liv (by omega)) ?_
        refine g_iload_n h dX11_valuesOf_21 rfl rfl ?_
        refine g_icmp_ne (tgt := 35) h dX11_valuesOf_22 (by decide) (fun c22 => ?_) (fun c22 => ?_)
        · refine g_iconst (v := nI 0) h dX11_valuesOf_35 (by decide) ?_
          refine g_iadd h dX11_valuesOf_36 ?_
          refine g_istore_n (ls' := [(0, _), (1, _), (2, _), (3, _), (4, _)]) h dX11_valuesOf_37 rfl (by decide) rfl rfl ?_
          refine g_iinc (v := nI (k + 1)) (ls' := [(0, _), (1, _), (2, _), (3, _), (4, _)]) h dX11_valuesOf_38 rfl (nI_1 k) (by decide) rfl rfl ?_
          refine g_goto (tgt := 5) h dX11_valuesOf_41 (by decide) ?_
          exact g_cv (by rw [sm_s, voF, if_neg c22]; rfl) rfl (ih (k + 1) w (by omega) (by omega) hw)
        · refine g_aload_n h dX11_valuesOf_25 rfl rfl ?_
          refine g_iload_n h dX11_valuesOf_26 rfl rfl ?_
          refine g_iload h dX11_valuesOf_27 rfl ?_
          refine g_VP h lv_X11_358_X11 sh_178 (by decide) rfl (c_X11_valueOfA v T W a k ha (by omega) w (hK.simA hw)) pa_nx (fitR hR (by first | decide | omega) (by decide) (by omega)) rfl rfl (Nat.le_of_ble_eq_true rfl) dX11_valuesOf_29 (fun v29 u29 hs29 => ?_)
          obtain ⟨hv29, hs29⟩ := hs29
          cases hv29
          refine g_goto (tgt := 36) h dX11_valuesOf_32 (by decide) ?_
          refine g_iadd h dX11_valuesOf_36 ?_
          refine g_istore_n (ls' := [(0, _), (1, _), (2, _), (3, _), (4, _)]) h dX11_valuesOf_37 rfl (by decide) rfl rfl ?_
          refine g_iinc (v := nI (k + 1)) (ls' := [(0, _), (1, _), (2, _), (3, _), (4, _)]) h dX11_valuesOf_38 rfl (nI_1 k) (by decide) rfl rfl ?_
          refine g_goto (tgt := 5) h dX11_valuesOf_41 (by decide) ?_
          exact g_cv (by rw [sm_s, voF, if_pos c22]) rfl (ih (k + 1) u29 (by omega) (by omega) (hs29.trans hw))
  refine g_iconst (v := nI 0) h dX11_valuesOf_0 (by decide) ?_
  refine g_istore_n (ls' := [(0, _), (1, _), (2, _), (3, _)]) h dX11_valuesOf_1 rfl (by decide) rfl rfl ?_
  refine g_iconst (v := nI 0) h dX11_valuesOf_2 (by decide) ?_
  refine g_istore (ls' := [(0, _), (1, _), (2, _), (3, _), (4, _)]) h dX11_valuesOf_3 (by decide) rfl rfl ?_
  exact LP (168 + 1) 0 u (by omega) (by omega) (simA.refl _)
def enM (v : Sto) (a : Nat) : Nat → Int32
  | 0 => nI 0
  | o + 1 => if ¬ o = a ∧ v 13 o = -1 ∧ smI (voF v a (nI a)) 168 < smI (voF v a (nI o)) 168 then enM v a o ||| one o else enM v a o
theorem en_1 {v : Sto} {a o : Nat} (h : ¬ o = a ∧ v 13 o = -1 ∧ smI (voF v a (nI a)) 168 < smI (voF v a (nI o)) 168) : enM v a (o + 1) = enM v a o ||| one o := by rw [enM, if_pos h]
theorem en_0 {v : Sto} {a o : Nat} (h : ¬ (¬ o = a ∧ v 13 o = -1 ∧ smI (voF v a (nI a)) 168 < smI (voF v a (nI o)) 168)) : enM v a (o + 1) = enM v a o := by rw [enM, if_neg h]
theorem wt_sm {v : Sto} {T a : Nat} (hI : TI v 3 10 T) (hT : T ≤ 10) {o : Nat} (ho : o < 10) : ∀ k, k ≤ 168 → wtF v a k o = smI (voF v a (nI o)) k
  | 0, _ => rfl
  | k + 1, hk => by
    have ih := wt_sm (a := a) hI hT ho k (by omega)
    show (if lvT v 3 k = -1 then wtF v a k else upd (wtF v a k) (ix (lvT v 3 k)) (wtF v a k (ix (lvT v 3 k)) + vlI v a k)) o = smI (voF v a (nI o)) k + voF v a (nI o) k
    unfold voF at *
    rcases hI.liv (show k < 168 by omega) with e | ⟨b, hb, e, _⟩
    · rw [if_pos e, ih, if_neg (by rw [e]; exact fun q => nI_m1 (by omega) q.symm)]; exact (Int32.add_zero _).symm
    · rw [if_neg (by rw [e]; exact nI_m1 (by omega)), e, ix_nI (by omega)]
      by_cases z : b = o
      · subst z; rw [pk_us, if_pos rfl, ih]
      · rw [pk_un (fun q => z q.symm), ih, if_neg (fun q => z (eq_n (by omega) (by omega) q))]; exact (Int32.add_zero _).symm
theorem sm_zr : ∀ n, smI (fun _ => 0) n = nI 0
  | 0 => rfl
  | n + 1 => by
    show smI (fun _ => 0) n + 0 = nI 0
    rw [sm_zr n]; rfl
theorem vo_0 {v : Sto} {T a o : Nat} (hI : TI v 3 10 T) (hT : T ≤ 10) (ho : o < 10) (h : ¬ (o < T ∧ v 13 o = -1)) : smI (voF v a (nI o)) 168 = nI 0 := by
  rw [smI_cong (q := fun _ => 0) (fun k hk => ?_)]
  · exact sm_zr 168
  · unfold voF
    rw [if_neg]
    intro q
    rcases hI.liv hk with e | ⟨b, hb, e, e2⟩
    · rw [e] at q; exact nI_m1 (by omega) q.symm
    · rw [e] at q
      have := eq_n (by omega) (by omega) q
      subst this
      exact h ⟨hb, e2⟩
theorem eb_bt {g : Nat → Int32} {a : Nat} : ∀ n, n ≤ 10 → ∀ i, i < 32 → (btB (ebF g a n) i = true ↔ i < n ∧ g a < g i)
  | 0, _, i, hi => by
    show btB (nI 0) i = true ↔ _
    rw [bt_0]
    exact ⟨fun h => absurd h (by decide), fun h => absurd h.1 (Nat.not_lt_zero _)⟩
  | n + 1, hn, i, hi => by
    have ih := eb_bt (g := g) (a := a) n (by omega) i hi
    unfold ebF
    by_cases c : g a < g n
    · rw [if_pos c, bt_or, Bool.or_eq_true, ih, bt_one (by omega) hi, decide_eq_true_iff]
      constructor
      · rintro (⟨h, q⟩ | h)
        · exact ⟨by omega, q⟩
        · subst h; exact ⟨by omega, c⟩
      · rintro ⟨h, q⟩
        by_cases z : i = n
        · exact Or.inr z
        · exact Or.inl ⟨by omega, q⟩
    · rw [if_neg c, ih]
      constructor
      · rintro ⟨h, q⟩; exact ⟨by omega, q⟩
      · rintro ⟨h, q⟩
        by_cases z : i = n
        · subst z; exact absurd q c
        · exact ⟨by omega, q⟩
theorem en_bt {v : Sto} {a : Nat} : ∀ n, n ≤ 10 → ∀ i, i < 32 → (btB (enM v a n) i = true ↔ i < n ∧ ¬ i = a ∧ v 13 i = -1 ∧ smI (voF v a (nI a)) 168 < smI (voF v a (nI i)) 168)
  | 0, _, i, hi => by
    show btB (nI 0) i = true ↔ _
    rw [bt_0]
    exact ⟨fun h => absurd h (by decide), fun h => absurd h.1 (Nat.not_lt_zero _)⟩
  | n + 1, hn, i, hi => by
    have ih := en_bt (v := v) (a := a) n (by omega) i hi
    unfold enM
    by_cases c : ¬ n = a ∧ v 13 n = -1 ∧ smI (voF v a (nI a)) 168 < smI (voF v a (nI n)) 168
    · rw [if_pos c, bt_or, Bool.or_eq_true, ih, bt_one (by omega) hi, decide_eq_true_iff]
      constructor
      · rintro (⟨h, q⟩ | h)
        · exact ⟨by omega, q⟩
        · subst h; exact ⟨by omega, c⟩
      · rintro ⟨h, q⟩
        by_cases z : i = n
        · exact Or.inr z
        · exact Or.inl ⟨by omega, q⟩
    · rw [if_neg c, ih]
      constructor
      · rintro ⟨h, q⟩; exact ⟨by omega, q⟩
      · rintro ⟨h, q⟩
        by_cases z : i = n
        · subst z; exact absurd q c
        · exact ⟨by omega, q⟩
theorem env_eq {v u : Sto} {T W a : Nat} (hK : LK v u T W) (hI : TI v 3 10 T) (ha : a < T) : ebF (wtF v a 168) a 10 = enM v a T := by
  have hT := hK.hT
  refine bt_iff (fun i hi => ?_)
  rw [eb_bt 10 (Nat.le_refl _) i hi, en_bt T hT i hi, wt_sm hI hT (show a < 10 by omega) 168 (Nat.le_refl _)]
  constructor
  · rintro ⟨h, q⟩
    rw [wt_sm hI hT h 168 (Nat.le_refl _)] at q
    by_cases c : i < T ∧ v 13 i = -1
    · refine ⟨c.1, fun z => ?_, c.2, q⟩
      subst z; exact Int32.lt_irrefl q
    · rw [vo_0 hI hT h c] at q
      obtain ⟨m, hm, e⟩ := vo_b (a := a) (x := nI a) hK 168
      rw [e] at q
      exact absurd (lt_n (by omega) (by omega) q) (by omega)
  · rintro ⟨h, _, _, q⟩
    rw [wt_sm hI hT (by omega) 168 (Nat.le_refl _)]
    exact ⟨by omega, q⟩
set_option maxHeartbeats 1000000 in
theorem c_X11_envies {E : EE} (v : Sto) (T W : Nat) (x : Int32) (u : Sto) (hK : LK v u T W) (hI : TI v 3 10 T) : CtP E 36 0 yX11_envies cX11_envies 5 (some .int) [.ref (E.ad 178), .int x] u (PMr (cdL [ioob]) (envR v x).1 u) := by
  refine ctp_of (by decide) (Nat.le_of_ble_eq_true rfl) (fun X h hR hrt htab hargs => ?_)
  refine g_aload_n h dX11_envies_0 rfl rfl ?_
  refine g_aload_n h dX11_envies_1 rfl rfl ?_
  refine g_iload_n h dX11_envies_2 rfl rfl ?_
  refine g_V h lv_X11_277_X11 sh_178 (by decide) rfl (c_X11_isTenant x v T W u hK.r) (fitR hR (by first | decide | omega) (by decide) (by omega)) rfl rfl (Nat.le_of_ble_eq_true rfl) dX11_envies_3 ?_
  by_cases n3 : okT v x
  · refine g_top (b2_t n3) ?_
    obtain ⟨a, ha, ha9, ia, rfl⟩ := okT_n hK.hT hK.r.vt n3
    refine g_if_ne (tgt := 13) h dX11_envies_6 (by decide) (fun _ => ?_) (fun q => absurd q (by decide))
    refine g_iconst (v := nI 0) h dX11_envies_13 (by decide) ?_
    refine g_putI h pfl_X11_69_10 sh_178 (by decide) rfl dX11_envies_14 ?_
    refine g_aload_n h dX11_envies_17 rfl rfl ?_
    refine g_getI h fl_X11_69_10 sh_178 (by decide) rfl dX11_envies_18 ?_
    refine g_top su_k ?_
    refine g_if_gt (tgt := 32) h dX11_envies_21 (by decide) (fun q => absurd q (by decide)) (fun _ => ?_)
    refine g_aload_n h dX11_envies_24 rfl rfl ?_
    refine g_iload_n h dX11_envies_25 rfl rfl ?_
    refine g_V h lv_X11_80_X11 sh_178 (by decide) rfl (c_X11_isChild a v T W ha _ hK.th.r) (fitR hR (by first | decide | omega) (by decide) (by omega)) rfl rfl (Nat.le_of_ble_eq_true rfl) dX11_envies_26 ?_
    by_cases n26 : v 13 a = -1
    · refine g_top (b2_f (fun q => q n26)) ?_
      refine g_if_eq (tgt := 34) h dX11_envies_29 (by decide) (fun _ => ?_) (fun q => absurd q (by decide))
      refine g_aload_n h dX11_envies_34 rfl rfl ?_
      refine g_iload_n h dX11_envies_35 rfl rfl ?_
      refine g_iload_n h dX11_envies_36 rfl rfl ?_
      refine g_VP h lv_X11_361_X11 sh_178 (by decide) rfl (c_X11_valuesOf v T W a ha (nI a) _ hK.th) pa_nx (fitR hR (by first | decide | omega) (by decide) (by omega)) rfl rfl (Nat.le_of_ble_eq_true rfl) dX11_envies_37 (fun v37 u37 hs37 => ?_)
      obtain ⟨hv37, hs37⟩ := hs37
      cases hv37
      refine g_istore_n (ls' := [(0, _), (1, _), (2, _)]) h dX11_envies_40 rfl (by decide) rfl rfl ?_
      refine g_iconst (v := nI 0) h dX11_envies_41 (by decide) ?_
      refine g_istore_n (ls' := [(0, _), (1, _), (2, _), (3, _)]) h dX11_envies_42 rfl (by decide) rfl rfl ?_
      refine g_iconst (v := nI 0) h dX11_envies_43 (by decide) ?_
      refine g_istore (ls' := [(0, _), (1, _), (2, _), (3, _), (4, _)]) h dX11_envies_44 (by decide) rfl rfl ?_
      have LP : ∀ (j k : Nat) (w : Sto), T < k + j → k ≤ T → (simA w (su u 178 0 (nI 0))) → G E X (QMP E X (PMr (cdL [ioob]) (envR v (nI a)).1 u) 0) 5 0 46 [(0, .ref (E.ad 178)), (1, .int (nI a)), (2, .int (smI (voF v a (nI a)) 168)), (3, .int (enM v a k)), (4, .int (nI k))] [] w := by
        intro j
        induction j with
        | zero => intro k w h1 h2 hw; omega
        | succ j ih =>
          intro k w h1 h2 hw
          refine g_iload h dX11_envies_46 rfl ?_
          refine g_aload_n h dX11_envies_48 rfl rfl ?_
          refine g_getR h fl_X11_7_10 sh_178 (by decide) rfl dX11_envies_49 ?_
          refine g_iconst (v := nI 1) h dX11_envies_52 (by decide) ?_
          refine g_iald h _ _ _ sh_179 (by decide) (by decide) rfl (by omega) dX11_envies_53 ?_
          refine g_top (y := nI T) (hK.th.simA hw).r.ten ?_
          refine g_icmp_ge (tgt := 100) h dX11_envies_54 (by decide) (fun c54 => ?_) (fun c54 => ?_)
          · have n54 := le_n (by omega) (by omega) (show nI (T) ≤ nI (k) from c54)
            refine g_iload_n h dX11_envies_100 rfl rfl ?_
            exact g_iretP h hrt dX11_envies_101 (by omega) (pm_v (by rw [envR, if_pos n3]) (by rw [ia, envV, if_neg (fun q => q n26), env_eq hK hI ha, show k = T by omega]) hw.2)
          · have n54 := nle_n (by omega) (by omega) (show ¬ nI (T) ≤ nI (k) from c54)
            refine g_iload h dX11_envies_57 rfl ?_
            refine g_iload_n h dX11_envies_59 rfl rfl ?_
            refine g_icmp_eq (tgt := 92) h dX11_envies_60 (by decide) (fun c60 => ?_) (fun c60 => ?_)
            · have n60 := eq_n (by omega) (by omega) (show nI (k) = nI (a) from c60)
              refine g_iload_n h dX11_envies_92 rfl rfl ?_
              refine g_istore_n (ls' := [(0, _), (1, _), (2, _), (3, _), (4, _)]) h dX11_envies_93 rfl (by decide) rfl rfl ?_
              refine g_iinc (v := nI (k + 1)) (ls' := [(0, _), (1, _), (2, _), (3, _), (4, _)]) h dX11_envies_94 rfl (nI_1 k) (by decide) rfl rfl ?_
              refine g_goto (tgt := 46) h dX11_envies_97 (by decide) ?_
              exact g_cv (by rw [en_0 (fun q => q.1 n60)]) rfl (ih (k + 1) _ (by omega) (by omega) hw)
            · have n60 := ne_n (show ¬ nI (k) = nI (a) from c60)
              refine g_aload_n h dX11_envies_63 rfl rfl ?_
              refine g_iload h dX11_envies_64 rfl ?_
              refine g_V h lv_X11_80_X11 sh_178 (by decide) rfl (c_X11_isChild k v T W (by omega) w (hK.th.simA hw).r) (fitR hR (by first | decide | omega) (by decide) (by omega)) rfl rfl (Nat.le_of_ble_eq_true rfl) dX11_envies_66 ?_
              refine g_if_ne (tgt := 92) h dX11_envies_69 (by decide) (fun c69 => ?_) (fun c69 => ?_)
              · refine g_iload_n h dX11_envies_92 rfl rfl ?_
                refine g_istore_n (ls' := [(0, _), (1, _), (2, _), (3, _), (4, _)]) h dX11_envies_93 rfl (by decide) rfl rfl ?_
                refine g_iinc (v := nI (k + 1)) (ls' := [(0, _), (1, _), (2, _), (3, _), (4, _)]) h dX11_envies_94 rfl (nI_1 k) (by decide) rfl rfl ?_
                refine g_goto (tgt := 46) h dX11_envies_97 (by decide) ?_
                exact g_cv (by rw [en_0 (fun q => b2_n0.mp c69 q.2.1)]) rfl (ih (k + 1) _ (by omega) (by omega) hw)
              · refine g_aload_n h dX11_envies_72 rfl rfl ?_
                refine g_iload_n h dX11_envies_73 rfl rfl ?_
                refine g_iload h dX11_envies_74 rfl ?_
                refine g_VP h lv_X11_361_X11 sh_178 (by decide) rfl (c_X11_valuesOf v T W a ha (nI k) w (hK.th.simA hw)) pa_nx (fitR hR (by first | decide | omega) (by decide) (by omega)) rfl rfl (Nat.le_of_ble_eq_true rfl) dX11_envies_76 (fun v76 u76 hs76 => ?_)
                obtain ⟨hv76, hs76⟩ := hs76
                cases hv76
                refine g_iload_n h dX11_envies_79 rfl rfl ?_
                refine g_icmp_le (tgt := 92) h dX11_envies_80 (by decide) (fun c80 => ?_) (fun c80 => ?_)
                · refine g_iload_n h dX11_envies_92 rfl rfl ?_
                  refine g_istore_n (ls' := [(0, _), (1, _), (2, _), (3, _), (4, _)]) h dX11_envies_93 rfl (by decide) rfl rfl ?_
                  refine g_iinc (v := nI (k + 1)) (ls' := [(0, _), (1, _), (2, _), (3, _), (4, _)]) h dX11_envies_94 rfl (nI_1 k) (by decide) rfl rfl ?_
                  refine g_goto (tgt := 46) h dX11_envies_97 (by decide) ?_
                  exact g_cv (by rw [en_0 (fun q => by first | exact c80 q.2.2 | exact absurd q.2.2 (Int32.not_lt.mpr c80))]) rfl (ih (k + 1) _ (by omega) (by omega) (hs76.trans hw))
                · refine g_iload_n h dX11_envies_83 rfl rfl ?_
                  refine g_iconst (v := nI 1) h dX11_envies_84 (by decide) ?_
                  refine g_iload h dX11_envies_85 rfl ?_
                  refine g_ishl h dX11_envies_87 ?_
                  refine g_ior h dX11_envies_88 ?_
                  refine g_goto (tgt := 93) h dX11_envies_89 (by decide) ?_
                  refine g_istore_n (ls' := [(0, _), (1, _), (2, _), (3, _), (4, _)]) h dX11_envies_93 rfl (by decide) rfl rfl ?_
                  refine g_iinc (v := nI (k + 1)) (ls' := [(0, _), (1, _), (2, _), (3, _), (4, _)]) h dX11_envies_94 rfl (nI_1 k) (by decide) rfl rfl ?_
                  refine g_goto (tgt := 46) h dX11_envies_97 (by decide) ?_
                  exact g_cv (by rw [en_1 ⟨n60, Decidable.not_not.mp (b2_0.mp c69), by first | exact c80 | exact Int32.not_le.mp c80⟩]; rfl) rfl (ih (k + 1) _ (by omega) (by omega) (hs76.trans hw))
      exact LP (T + 1) 0 _ (by omega) (by omega) hs37
      
    · refine g_top (b2_t n26) ?_
      refine g_if_eq (tgt := 34) h dX11_envies_29 (by decide) (fun q => absurd q (by decide)) (fun _ => ?_)
      refine g_iconst (v := nI 0) h dX11_envies_32 (by decide) ?_
      exact g_iretP h hrt dX11_envies_33 (by omega) (by first | exact pm_v (by rw [envR, if_pos n3]) (by rw [ia, envV, if_pos n26]) (sim.refl _) | exact pm_x (Ex := ioob) (by rw [envR, if_pos n3]) (by decide) (sim.refl _))
  · refine g_top (b2_f n3) ?_
    refine g_if_ne (tgt := 13) h dX11_envies_6 (by decide) (fun q => absurd q (by decide)) (fun _ => ?_)
    refine g_iconst (v := nI 1) h dX11_envies_9 (by decide) ?_
    refine g_goto (tgt := 14) h dX11_envies_10 (by decide) ?_
    refine g_putI h pfl_X11_69_10 sh_178 (by decide) rfl dX11_envies_14 ?_
    refine g_aload_n h dX11_envies_17 rfl rfl ?_
    refine g_getI h fl_X11_69_10 sh_178 (by decide) rfl dX11_envies_18 ?_
    refine g_top su_k ?_
    refine g_if_gt (tgt := 32) h dX11_envies_21 (by decide) (fun _ => ?_) (fun q => absurd q (by decide))
    refine g_iconst (v := nI 0) h dX11_envies_32 (by decide) ?_
    exact g_iretP h hrt dX11_envies_33 (by omega) (by first | exact pm_v (by rw [envR, if_neg n3]) (by rw [ia, envV, if_pos n26]) (sim.refl _) | exact pm_x (Ex := ioob) (by rw [envR, if_neg n3]) (by decide) (sim.refl _))
