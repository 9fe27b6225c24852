-- after: 93.nx
def fmF (v : Sto) (w : Int32) : Nat → Int32
  | 0 => w
  | k + 1 => if ¬ v 13 k = -1 ∧ ¬ bitJ w (v 13 k) = 0 then fmF v w k ||| one k else fmF v w k
theorem fm_1 {v : Sto} {w : Int32} {k : Nat} (h : ¬ v 13 k = -1 ∧ ¬ bitJ w (v 13 k) = 0) : fmF v w (k + 1) = fmF v w k ||| one k := by rw [fmF, if_pos h]
theorem fm_0 {v : Sto} {w : Int32} {k : Nat} (h : ¬ (¬ v 13 k = -1 ∧ ¬ bitJ w (v 13 k) = 0)) : fmF v w (k + 1) = fmF v w k := by rw [fmF, if_neg h]
theorem LK.mot {v u : Sto} {T W a : Nat} (h : LK v u T W) (ha : a < T) : u 179 (16 + 4 * a + 3) = v 13 a := by rw [show 16 + 4 * a + 3 = 19 + 4 * a by omega]; exact h.r.mot a ha
set_option maxHeartbeats 1000000 in
theorem c_X11_family {E : EE} (v : Sto) (T W : Nat) (x : Int32) (u : Sto) (hK : LK v u T W) : Ct E 3 0 yX11_family cX11_family 4 (some .int) [.ref (E.ad 178), .int x] u (.inl (some (.int (fmF v x T)))) (u) := by
  have hT := hK.hT
  refine ct_of (by decide) (Nat.le_of_ble_eq_true rfl) (fun X h hR hrt htab hargs hini => ?_)
  have LP : ∀ j k : Nat, T < k + j → k ≤ T → G E X (QM E X (.inl (some (.int (fmF v x T)))) (u) 0) 4 0 4 [(0, .ref (E.ad 178)), (1, .int x), (2, .int (fmF v x k)), (3, .int (nI k))] [] (u) := by
    intro j
    induction j with
    | zero => intro k h1 h2; omega
    | succ j ih =>
      intro k h1 h2
      refine g_iload_n h dX11_family_4 rfl rfl ?_
      refine g_aload_n h dX11_family_5 rfl rfl ?_
      refine g_getR h fl_X11_7_10 sh_178 (by decide) rfl dX11_family_6 ?_
      refine g_iconst (v := nI 1) h dX11_family_9 (by decide) ?_
      refine g_iald h _ _ _ sh_179 (by decide) (by decide) rfl (by omega) dX11_family_10 ?_
      refine g_top (y := nI T) hK.r.ten ?_
      refine g_icmp_ge (tgt := 51) h dX11_family_11 (by decide) (fun c11 => ?_) (fun c11 => ?_)
      · have n11 := le_n (by omega) (by omega) (show nI (T) ≤ nI (k) from c11)
        refine g_iload_n h dX11_family_51 rfl rfl ?_
        exact g_iret h hrt dX11_family_52 (by omega) (by rw [show k = T by omega]) rfl
      · have n11 := nle_n (by omega) (by omega) (show ¬ nI (T) ≤ nI (k) from c11)
        refine g_aload_n h dX11_family_14 rfl rfl ?_
        refine g_iload_n h dX11_family_15 rfl rfl ?_
        refine g_V h lv_X11_80_X11 sh_178 (by decide) rfl (c_X11_isChild k v T W (by omega) u hK.r) (fitR hR (by first | decide | omega) (by decide) (by omega)) rfl rfl (Nat.le_of_ble_eq_true rfl) dX11_family_16 ?_
        refine g_if_eq (tgt := 43) h dX11_family_19 (by decide) (fun c19 => ?_) (fun c19 => ?_)
        · refine g_iload_n h dX11_family_43 rfl rfl ?_
          refine g_istore_n (ls' := [(0, _), (1, _), (2, _), (3, _)]) h dX11_family_44 rfl (by decide) rfl rfl ?_
          refine g_iinc (v := nI (k + 1)) (ls' := [(0, _), (1, _), (2, _), (3, _)]) h dX11_family_45 rfl (nI_1 k) (by decide) rfl rfl ?_
          refine g_goto (tgt := 4) h dX11_family_48 (by decide) ?_
          exact g_cv (by rw [fm_0 (fun q => b2_0.mp c19 q.1)]) rfl (ih (k + 1) (by omega) (by omega))
        · refine g_iload_n h dX11_family_22 rfl rfl ?_
          refine g_aload_n h dX11_family_23 rfl rfl ?_
          refine g_iload_n h dX11_family_24 rfl rfl ?_
          refine g_iconst (v := nI 3) h dX11_family_25 (by decide) ?_
          refine g_V h lv_X11_76_X11 sh_178 (by decide) rfl (c_X11_of k 3 (by omega) (by decide) u) (fitR hR (by first | decide | omega) (by decide) (by omega)) rfl rfl (Nat.le_of_ble_eq_true rfl) dX11_family_26 ?_
          refine g_top (hK.mot (by omega)) ?_
          refine g_S h ls_X11_340 (c_X11_isOf x (v 13 k) u) (fitR hR (by first | decide | omega) (by decide) (by omega)) rfl rfl (Nat.le_of_ble_eq_true rfl) dX11_family_29 ?_
          refine g_if_eq (tgt := 43) h dX11_family_32 (by decide) (fun c32 => ?_) (fun c32 => ?_)
          · refine g_iload_n h dX11_family_43 rfl rfl ?_
            refine g_istore_n (ls' := [(0, _), (1, _), (2, _), (3, _)]) h dX11_family_44 rfl (by decide) rfl rfl ?_
            refine g_iinc (v := nI (k + 1)) (ls' := [(0, _), (1, _), (2, _), (3, _)]) h dX11_family_45 rfl (nI_1 k) (by decide) rfl rfl ?_
            refine g_goto (tgt := 4) h dX11_family_48 (by decide) ?_
            exact g_cv (by rw [fm_0 (fun q => b2_0.mp c32 q.2)]) rfl (ih (k + 1) (by omega) (by omega))
          · refine g_iload_n h dX11_family_35 rfl rfl ?_
            refine g_iconst (v := nI 1) h dX11_family_36 (by decide) ?_
            refine g_iload_n h dX11_family_37 rfl rfl ?_
            refine g_ishl h dX11_family_38 ?_
            refine g_ior h dX11_family_39 ?_
            refine g_goto (tgt := 44) h dX11_family_40 (by decide) ?_
            refine g_istore_n (ls' := [(0, _), (1, _), (2, _), (3, _)]) h dX11_family_44 rfl (by decide) rfl rfl ?_
            refine g_iinc (v := nI (k + 1)) (ls' := [(0, _), (1, _), (2, _), (3, _)]) h dX11_family_45 rfl (nI_1 k) (by decide) rfl rfl ?_
            refine g_goto (tgt := 4) h dX11_family_48 (by decide) ?_
            exact g_cv (by rw [fm_1 ⟨b2_n0.mp c19, b2_n0.mp c32⟩]; rfl) rfl (ih (k + 1) (by omega) (by omega))
  refine g_iload_n h dX11_family_0 rfl rfl ?_
  refine g_istore_n (ls' := [(0, _), (1, _), (2, _)]) h dX11_family_1 rfl (by decide) rfl rfl ?_
  refine g_iconst (v := nI 0) h dX11_family_2 (by decide) ?_
  refine g_istore_n (ls' := [(0, _), (1, _), (2, _), (3, _)]) h dX11_family_3 rfl (by decide) rfl rfl ?_
  exact LP (T + 1) (0) (by omega) (by omega)
def tlM (v : Sto) (T r : Nat) (w : Int32) : Int32 := if lvT v 3 r = -1 ∨ lvT v 3 (aft r) = -1 ∨ bitJ w (lvT v 3 r) = 0 then w else fmF v (w ||| oneJ (lvT v 3 (aft r))) T
set_option maxHeartbeats 1000000 in
theorem c_X11_tells {E : EE} (v : Sto) (T W nw k : Nat) (hk : k < 400) (hn : nw < 168) (x : Int32) (u : Sto) (hK : LK v u T W) (hnw : v 3 10 = nI nw) : Ct E 4 0 yX11_tells cX11_tells 6 (some .int) [.ref (E.ad 178), .int x, .int (nI k)] u (.inl (some (.int (tlM v T ((nw + k) % 168) x)))) (u) := by
  have hrm := rt_mod nw k
  refine ct_of (by decide) (Nat.le_of_ble_eq_true rfl) (fun X h hR hrt htab hargs hini => ?_)
  refine g_aload_n h dX11_tells_0 rfl rfl ?_
  refine g_getR h fl_X11_7_10 sh_178 (by decide) rfl dX11_tells_1 ?_
  refine g_iconst (v := nI 5) h dX11_tells_4 (by decide) ?_
  refine g_iald h _ _ _ sh_179 (by decide) (by decide) rfl (by omega) dX11_tells_5 ?_
  refine g_top (y := nI nw) (hK.t.nw.trans hnw) ?_
  refine g_iload_n h dX11_tells_6 rfl rfl ?_
  refine g_iadd h dX11_tells_7 ?_
  refine g_top (nI_add _ _) ?_
  refine g_sipush (v := nI 168) h dX11_tells_8 (by decide) ?_
  refine g_irem h dX11_tells_11 (by decide) ?_
  refine g_top (y := nI ((nw + k) % 168)) (pk_rem (by omega) (by omega) (by omega)) ?_
  refine g_istore_n (ls' := [(0, _), (1, _), (2, _), (3, _)]) h dX11_tells_12 rfl (by decide) rfl rfl ?_
  refine g_aload_n h dX11_tells_13 rfl rfl ?_
  refine g_iload_n h dX11_tells_14 rfl rfl ?_
  refine g_iconst (v := nI 1) h dX11_tells_15 (by decide) ?_
  refine g_iadd h dX11_tells_16 ?_
  refine g_V h lv_X11_264_X11 sh_178 (by decide) rfl (c_X11_livesIn (nI ((nw + k) % 168) + nI 1) ((nw + k) % 168 + 169) (lwy hrm) (by have := hrm; omega) v T W _ hK.t) (fitR hR (by first | decide | omega) (by decide) (by omega)) rfl rfl (Nat.le_of_ble_eq_true rfl) dX11_tells_17 ?_
  refine g_top (congrArg (lvT v 3) (aft_k hrm)) ?_
  refine g_istore (ls' := [(0, _), (1, _), (2, _), (3, _), (4, _)]) h dX11_tells_20 (by decide) rfl rfl ?_
  refine g_aload_n h dX11_tells_22 rfl rfl ?_
  refine g_iload_n h dX11_tells_23 rfl rfl ?_
  refine g_V h lv_X11_264_X11 sh_178 (by decide) rfl (c_X11_livesIn (nI ((nw + k) % 168)) ((nw + k) % 168 + 168) (nI_add _ _) (by have := hrm; omega) v T W _ hK.t) (fitR hR (by first | decide | omega) (by decide) (by omega)) rfl rfl (Nat.le_of_ble_eq_true rfl) dX11_tells_24 ?_
  refine g_top (congrArg (lvT v 3) (m168 hrm)) ?_
  refine g_iconst (v := -1) h dX11_tells_27 (by decide) ?_
  refine g_icmp_eq (tgt := 47) h dX11_tells_28 (by decide) (fun c28 => ?_) (fun c28 => ?_)
  · refine g_iconst (v := nI 0) h dX11_tells_47 (by decide) ?_
    refine g_istore (ls' := [(0, _), (1, _), (2, _), (3, _), (4, _), (5, _)]) h dX11_tells_48 (by decide) rfl rfl ?_
    refine g_iload h dX11_tells_50 rfl ?_
    refine g_if_eq (tgt := 74) h dX11_tells_52 (by decide) (fun _ => ?_) (fun q => absurd q (by decide))
    refine g_iload_n h dX11_tells_74 rfl rfl ?_
    exact g_iret h hrt dX11_tells_75 (by omega) (by rw [tlM, if_pos (Or.inl c28)]) rfl
  · refine g_iload_n h dX11_tells_31 rfl rfl ?_
    refine g_aload_n h dX11_tells_32 rfl rfl ?_
    refine g_iload_n h dX11_tells_33 rfl rfl ?_
    refine g_V h lv_X11_264_X11 sh_178 (by decide) rfl (c_X11_livesIn (nI ((nw + k) % 168)) ((nw + k) % 168 + 168) (nI_add _ _) (by have := hrm; omega) v T W _ hK.t) (fitR hR (by first | decide | omega) (by decide) (by omega)) rfl rfl (Nat.le_of_ble_eq_true rfl) dX11_tells_34 ?_
    refine g_top (congrArg (lvT v 3) (m168 hrm)) ?_
    refine g_S h ls_X11_340 (c_X11_isOf x (lvT v 3 ((nw + k) % 168)) u) (fitR hR (by first | decide | omega) (by decide) (by omega)) rfl rfl (Nat.le_of_ble_eq_true rfl) dX11_tells_37 ?_
    refine g_if_eq (tgt := 47) h dX11_tells_40 (by decide) (fun c40 => ?_) (fun c40 => ?_)
    · refine g_iconst (v := nI 0) h dX11_tells_47 (by decide) ?_
      refine g_istore (ls' := [(0, _), (1, _), (2, _), (3, _), (4, _), (5, _)]) h dX11_tells_48 (by decide) rfl rfl ?_
      refine g_iload h dX11_tells_50 rfl ?_
      refine g_if_eq (tgt := 74) h dX11_tells_52 (by decide) (fun _ => ?_) (fun q => absurd q (by decide))
      refine g_iload_n h dX11_tells_74 rfl rfl ?_
      exact g_iret h hrt dX11_tells_75 (by omega) (by rw [tlM, if_pos (Or.inr (Or.inr (Decidable.not_not.mp (b2_0.mp c40))))]) rfl
    · refine g_iconst (v := nI 1) h dX11_tells_43 (by decide) ?_
      refine g_goto (tgt := 48) h dX11_tells_44 (by decide) ?_
      refine g_istore (ls' := [(0, _), (1, _), (2, _), (3, _), (4, _), (5, _)]) h dX11_tells_48 (by decide) rfl rfl ?_
      refine g_iload h dX11_tells_50 rfl ?_
      refine g_if_eq (tgt := 74) h dX11_tells_52 (by decide) (fun q => absurd q (by decide)) (fun _ => ?_)
      refine g_iload h dX11_tells_55 rfl ?_
      refine g_iconst (v := -1) h dX11_tells_57 (by decide) ?_
      refine g_icmp_eq (tgt := 74) h dX11_tells_58 (by decide) (fun c58 => ?_) (fun c58 => ?_)
      · refine g_iload_n h dX11_tells_74 rfl rfl ?_
        exact g_iret h hrt dX11_tells_75 (by omega) (by rw [tlM, if_pos (Or.inr (Or.inl c58))]) rfl
      · refine g_aload_n h dX11_tells_61 rfl rfl ?_
        refine g_iload_n h dX11_tells_62 rfl rfl ?_
        refine g_iconst (v := nI 1) h dX11_tells_63 (by decide) ?_
        refine g_iload h dX11_tells_64 rfl ?_
        refine g_ishl h dX11_tells_66 ?_
        refine g_ior h dX11_tells_67 ?_
        refine g_V h lv_X11_373_X11 sh_178 (by decide) rfl (c_X11_family v T W _ _ hK) (fitR hR (by first | decide | omega) (by decide) (by omega)) rfl rfl (Nat.le_of_ble_eq_true rfl) dX11_tells_68 ?_
        refine g_goto (tgt := 75) h dX11_tells_71 (by decide) ?_
        exact g_iret h hrt dX11_tells_75 (by omega) (by rw [tlM, if_neg (not_or.mpr ⟨c28, not_or.mpr ⟨c58, b2_n0.mp c40⟩⟩)]; rfl) rfl
theorem fm_bt {v : Sto} {w : Int32} {T W : Nat} (hR : RI v 10 T W) (hT : T ≤ 10) : ∀ n, n ≤ T → ∀ i, i < 32 → (btB (fmF v w n) i = true ↔ btB w i = true ∨ (i < n ∧ ∃ m, m < i ∧ v 13 i = nI m ∧ v 13 m = -1 ∧ btB w m = true))
  | 0, _, i, hi => ⟨fun h => Or.inl h, fun h => h.elim id (fun q => absurd q.1 (Nat.not_lt_zero _))⟩
  | n + 1, hn, i, hi => by
    have ih := fm_bt (w := w) hR hT n (by omega) i hi
    rcases hR.mot n (by omega) with e | ⟨m, hm, e, e2⟩
    · rw [fm_0 (fun q => q.1 e), ih]
      constructor
      · rintro (h | ⟨h, q⟩)
        · exact Or.inl h
        · exact Or.inr ⟨by omega, q⟩
      · rintro (h | ⟨h, m, hm, q, q2⟩)
        · exact Or.inl h
        · by_cases z : i = n
          · subst z
            rw [show v 13 i = -1 from e] at q
            exact absurd q.symm (nI_m1 (by omega))
          · exact Or.inr ⟨by omega, m, hm, q, q2⟩
    · have e : v 13 n = nI m := e
      have hne : ¬ v 13 n = -1 := by rw [e]; exact nI_m1 (by omega)
      by_cases b : btB w m = true
      · rw [fm_1 ⟨hne, by rw [e]; exact (bt_J (by omega)).mpr b⟩, bt_or, Bool.or_eq_true, ih, bt_one (by omega) hi]
        constructor
        · rintro ((h | ⟨h, q⟩) | h)
          · exact Or.inl h
          · exact Or.inr ⟨by omega, q⟩
          · have := of_decide_eq_true h
            subst this
            exact Or.inr ⟨by omega, m, hm, e, e2, b⟩
        · rintro (h | ⟨h, q⟩)
          · exact Or.inl (Or.inl h)
          · by_cases z : i = n
            · exact Or.inr (decide_eq_true z)
            · exact Or.inl (Or.inr ⟨by omega, q⟩)
      · rw [fm_0 (fun q => by rw [e] at q; exact b ((bt_J (by omega)).mp q.2)), ih]
        constructor
        · rintro (h | ⟨h, q⟩)
          · exact Or.inl h
          · exact Or.inr ⟨by omega, q⟩
        · rintro (h | ⟨h, m2, hm2, q, q2, q3⟩)
          · exact Or.inl h
          · by_cases z : i = n
            · subst z
              rw [e] at q
              have := eq_n (by omega) (by omega) q
              subst this
              exact absurd q3 b
            · exact Or.inr ⟨by omega, m2, hm2, q, q2, q3⟩
theorem wc_bt {v : Sto} {w : Int32} {T W : Nat} (hR : RI v 10 T W) (hT : T ≤ 10) : ∀ n, n ≤ T → ∀ i, i < 32 → (btB (wcF v w n) i = true ↔ btB w i = true ∨ (i < n ∧ ∃ m, m < i ∧ v 13 i = nI m ∧ v 13 m = -1 ∧ btB w m = true))
  | 0, _, i, hi => ⟨fun h => Or.inl h, fun h => h.elim id (fun q => absurd q.1 (Nat.not_lt_zero _))⟩
  | n + 1, hn, i, hi => by
    have ih := wc_bt (w := w) hR hT n (by omega) i hi
    rcases hR.mot n (by omega) with e | ⟨m, hm, e, e2⟩
    · have e : v 13 n = -1 := e
      have eh : hmI v n = nI n := by rw [hmI, if_pos e]
      have hx : btB (wcF v w (n + 1)) i = true ↔ btB (wcF v w n) i = true ∨ (i = n ∧ btB w n = true) := by
        rw [wcF, eh]
        by_cases b : ¬ bitJ w (nI n) = 0
        · rw [if_pos b, bt_or, Bool.or_eq_true, bt_one (by omega) hi]
          have b := (bt_J (by omega)).mp b
          exact ⟨fun h => h.elim Or.inl (fun q => Or.inr ⟨of_decide_eq_true q, b⟩), fun h => h.elim Or.inl (fun q => Or.inr (decide_eq_true q.1))⟩
        · rw [if_neg b]
          exact ⟨Or.inl, fun h => h.elim id (fun q => absurd ((bt_J (by omega)).mpr q.2) b)⟩
      rw [hx, ih]
      constructor
      · rintro ((h | ⟨h, q⟩) | ⟨h, q⟩)
        · exact Or.inl h
        · exact Or.inr ⟨by omega, q⟩
        · subst h; exact Or.inl q
      · rintro (h | ⟨h, m, hm, q, q2⟩)
        · exact Or.inl (Or.inl h)
        · by_cases z : i = n
          · subst z
            rw [e] at q
            exact absurd q.symm (nI_m1 (by omega))
          · exact Or.inl (Or.inr ⟨by omega, m, hm, q, q2⟩)
    · have e : v 13 n = nI m := e
      have eh : hmI v n = nI m := by rw [hmI, if_neg (by rw [e]; exact nI_m1 (by omega))]; exact e
      have hx : btB (wcF v w (n + 1)) i = true ↔ btB (wcF v w n) i = true ∨ (i = n ∧ btB w m = true) := by
        rw [wcF, eh]
        by_cases b : ¬ bitJ w (nI m) = 0
        · rw [if_pos b, bt_or, Bool.or_eq_true, bt_one (by omega) hi]
          have b := (bt_J (by omega)).mp b
          exact ⟨fun h => h.elim Or.inl (fun q => Or.inr ⟨of_decide_eq_true q, b⟩), fun h => h.elim Or.inl (fun q => Or.inr (decide_eq_true q.1))⟩
        · rw [if_neg b]
          exact ⟨Or.inl, fun h => h.elim id (fun q => absurd ((bt_J (by omega)).mpr q.2) b)⟩
      rw [hx, ih]
      constructor
      · rintro ((h | ⟨h, q⟩) | ⟨h, q⟩)
        · exact Or.inl h
        · exact Or.inr ⟨by omega, q⟩
        · subst h; exact Or.inr ⟨by omega, m, hm, e, e2, q⟩
      · rintro (h | ⟨h, m2, hm2, q, q2, q3⟩)
        · exact Or.inl (Or.inl h)
        · by_cases z : i = n
          · subst z
            rw [e] at q
            have := eq_n (by omega) (by omega) q
            subst this
            exact Or.inr ⟨rfl, q3⟩
          · exact Or.inl (Or.inr ⟨by omega, m2, hm2, q, q2, q3⟩)
theorem bt_iff {x y : Int32} (h : ∀ k, k < 32 → (btB x k = true ↔ btB y k = true)) : x = y := bt_ext (fun k hk => Bool.eq_iff_iff.mpr (h k hk))
theorem fm_wc {v : Sto} {w : Int32} {T W : Nat} (hR : RI v 10 T W) (hT : T ≤ 10) : fmF v w T = wcF v w T := bt_iff (fun i hi => (fm_bt hR hT T (Nat.le_refl _) i hi).trans (wc_bt hR hT T (Nat.le_refl _) i hi).symm)
theorem tl_eq {v : Sto} {w : Int32} {T W r : Nat} (hI : TI v 3 10 T) (hR : RI v 10 T W) (hT : T ≤ 10) (hr : r < 168) : tlM v T r (fmF v w T) = fmF v (tldI v w r) T := by
  unfold tlM tldI
  rcases hI.liv hr with e | ⟨a, ha, e, e2⟩
  · rw [if_pos (Or.inl e), if_pos (Or.inl e)]
  · have e2 : v 13 a = -1 := e2
    rcases hI.liv (aft_lt r) with f | ⟨b, hb, f, f2⟩
    · rw [if_pos (Or.inr (Or.inl f)), if_pos (Or.inr (Or.inl f))]
    · have f2 : v 13 b = -1 := f2
      have na : ¬ lvT v 3 r = -1 := by rw [e]; exact nI_m1 (by omega)
      have nb : ¬ lvT v 3 (aft r) = -1 := by rw [f]; exact nI_m1 (by omega)
      have hb2 : btB (fmF v w T) a = true ↔ btB w a = true := by
        rw [fm_bt hR hT T (Nat.le_refl _) a (by omega)]
        exact ⟨fun h => h.elim id (fun ⟨_, m, _, q, _⟩ => by rw [e2] at q; exact absurd q.symm (nI_m1 (by omega))), Or.inl⟩
      by_cases c : bitJ w (nI a) = 0
      · have c2 : bitJ (fmF v w T) (nI a) = 0 := Decidable.byContradiction (fun q => (bt_J (by omega)).mpr (hb2.mp ((bt_J (by omega)).mp q)) c)
        rw [if_pos (Or.inr (Or.inr (by rw [e]; exact c2))), if_pos (Or.inr (Or.inr (by rw [e]; exact c)))]
      · have c2 : ¬ bitJ (fmF v w T) (nI a) = 0 := (bt_J (by omega)).mpr (hb2.mpr ((bt_J (by omega)).mp c))
        rw [if_neg (fun q => q.elim na (fun q => q.elim nb (fun q => c2 (by rw [e] at q; exact q)))), if_neg (fun q => q.elim na (fun q => q.elim nb (fun q => c (by rw [e] at q; exact q))))]
        rw [f, oneJ_n]
        refine bt_iff (fun i hi => ?_)
        rw [fm_bt hR hT T (Nat.le_refl _) i hi, fm_bt hR hT T (Nat.le_refl _) i hi]
        have h1 : ∀ j, j < 32 → (btB (fmF v w T ||| one b) j = true ↔ btB (fmF v w T) j = true ∨ j = b) := fun j hj => by rw [bt_or, Bool.or_eq_true, bt_one (by omega) hj, decide_eq_true_iff]
        have h2 : ∀ j, j < 32 → (btB (w ||| one b) j = true ↔ btB w j = true ∨ j = b) := fun j hj => by rw [bt_or, Bool.or_eq_true, bt_one (by omega) hj, decide_eq_true_iff]
        rw [h1 i hi, h2 i hi, fm_bt hR hT T (Nat.le_refl _) i hi]
        constructor
        · rintro (((h | ⟨h, m, hm, q, q2, q3⟩) | h) | ⟨h, m, hm, q, q2, q3⟩)
          · exact Or.inl (Or.inl h)
          · exact Or.inr ⟨h, m, hm, q, q2, (h2 m (by omega)).mpr (Or.inl q3)⟩
          · exact Or.inl (Or.inr h)
          · · refine Or.inr ⟨h, m, hm, q, q2, (h2 m (by omega)).mpr ?_⟩
              rcases (h1 m (by omega)).mp q3 with z | z
              · rcases (fm_bt hR hT T (Nat.le_refl _) m (by omega)).mp z with z | ⟨_, m2, _, z, _⟩
                · exact Or.inl z
                · rw [q2] at z; exact absurd z.symm (nI_m1 (by omega))
              · exact Or.inr z
        · rintro ((h | h) | ⟨h, m, hm, q, q2, q3⟩)
          · exact Or.inl (Or.inl (Or.inl h))
          · exact Or.inl (Or.inr h)
          · refine Or.inr ⟨h, m, hm, q, q2, (h1 m (by omega)).mpr ?_⟩
            rcases (h2 m (by omega)).mp q3 with z | z
            · exact Or.inl ((fm_bt hR hT T (Nat.le_refl _) m (by omega)).mpr (Or.inl z))
            · exact Or.inr z
theorem hm_ad {v : Sto} {T W a : Nat} (hR : RI v 10 T W) (hT : T ≤ 10) (ha : a < T) : ∃ m, m < T ∧ hmI v a = nI m ∧ v 13 m = -1 ∧ (m = a ∨ (m < a ∧ v 13 a = nI m)) := by
  rcases hR.mot a ha with e | ⟨m, hm, e, e2⟩
  · exact ⟨a, ha, by rw [hmI, if_pos (show v 13 a = -1 from e)], e, Or.inl rfl⟩
  · have e : v 13 a = nI m := e
    refine ⟨m, by omega, ?_, e2, Or.inr ⟨hm, e⟩⟩
    rw [hmI, if_neg (by rw [e]; exact nI_m1 (by omega))]; exact e
theorem kb_A {v : Sto} {T nw h : Nat} (hI : TI v 3 10 T) (hT : T ≤ 10) (hh : h < T) (h3 : v 13 h = -1) : ∀ k i, i < 32 → btB (kbF v nw (one h) k) i = true → i < T ∧ v 13 i = -1
  | 0, i, hi, q => by
    have q : btB (one h) i = true := q
    rw [bt_one (by omega) hi] at q
    have := of_decide_eq_true q
    subst this
    exact ⟨hh, h3⟩
  | k + 1, i, hi, q => by
    have q : btB (tldI v (kbF v nw (one h) k) ((nw + k) % 168)) i = true := q
    unfold tldI at q
    split at q
    · exact kb_A hI hT hh h3 k i hi q
    · rename_i c
      rcases hI.liv (aft_lt ((nw + k) % 168)) with f | ⟨b, hb, f, f2⟩
      · exact absurd (Or.inr (Or.inl f)) c
      · rw [f, oneJ_n, bt_or, Bool.or_eq_true] at q
        rcases q with q | q
        · exact kb_A hI hT hh h3 k i hi q
        · rw [bt_one (by omega) hi] at q
          have := of_decide_eq_true q
          subst this
          exact ⟨hb, f2⟩
theorem fm_is {v : Sto} {w : Int32} {T W b : Nat} (hR : RI v 10 T W) (hT : T ≤ 10) (hb : b < T) (hw : ∀ i, i < 32 → btB w i = true → i < T ∧ v 13 i = -1) : ¬ bitJ (fmF v w T) (nI b) = 0 ↔ ¬ bitJ w (hmI v b) = 0 := by
  obtain ⟨m, hm, e, e2, e3⟩ := hm_ad hR hT hb
  rw [e, bt_J (by omega), bt_J (by omega), fm_bt hR hT T (Nat.le_refl _) b (by omega)]
  constructor
  · rintro (h | ⟨_, m2, _, q, _, q3⟩)
    · rcases e3 with rfl | ⟨_, q⟩
      · exact h
      · have := (hw b (by omega) h).2
        rw [q] at this
        exact absurd this (nI_m1 (by omega))
    · rcases e3 with rfl | ⟨_, q4⟩
      · rw [e2] at q; exact absurd q.symm (nI_m1 (by omega))
      · rw [q4] at q
        have := eq_n (by omega) (by omega) q
        subst this
        exact q3
  · intro h
    rcases e3 with rfl | ⟨q1, q⟩
    · exact Or.inl h
    · exact Or.inr ⟨hb, m, q1, q, e2, h⟩
set_option maxHeartbeats 1000000 in
theorem c_X11_heard {E : EE} (v : Sto) (T W : Nat) (x n : Int32) (u : Sto) (hK : LK v u T W) (hI : TI v 3 10 T) (hRi : RI v 10 T W) : CtP E 35 0 yX11_heard cX11_heard 5 (some .int) [.ref (E.ad 178), .int x, .int n] u (PMr (cdL [ioob, iae]) (heaR v T x n).1 u) := by
  obtain ⟨nw, hn, hnw⟩ := hI.now
  refine ctp_of (by decide) (Nat.le_of_ble_eq_true rfl) (fun X h hR hrt htab hargs => ?_)
  refine g_aload_n h dX11_heard_0 rfl rfl ?_
  refine g_aload_n h dX11_heard_1 rfl rfl ?_
  refine g_iload_n h dX11_heard_2 rfl rfl ?_
  refine g_V h lv_X11_277_X11 sh_178 (by decide) rfl (c_X11_isTenant x v T W u hK.r) (fitR hR (by first | decide | omega) (by decide) (by omega)) rfl rfl (Nat.le_of_ble_eq_true rfl) dX11_heard_3 ?_
  by_cases n3 : okT v x
  · refine g_top (b2_t n3) ?_
    obtain ⟨a, ha, ha9, ia, rfl⟩ := okT_n hK.hT hK.r.vt n3
    refine g_if_ne (tgt := 13) h dX11_heard_6 (by decide) (fun _ => ?_) (fun q => absurd q (by decide))
    refine g_iload_n h dX11_heard_13 rfl rfl ?_
    refine g_iconst (v := nI 0) h dX11_heard_14 (by decide) ?_
    refine g_sipush (v := nI 336) h dX11_heard_15 (by decide) ?_
    refine g_S h ls_X11_72 (c_X11_isIn n (nI 0) (nI 336) u) (fitR hR (by first | decide | omega) (by decide) (by omega)) rfl rfl (Nat.le_of_ble_eq_true rfl) dX11_heard_18 ?_
    by_cases n18 : okN n (nI 0) (nI 336)
    · refine g_top (b2_t n18) ?_
      obtain ⟨N, hN0, hN1, iN, rfl⟩ := okN_k (by decide) n18
      refine g_if_ne (tgt := 28) h dX11_heard_21 (by decide) (fun _ => ?_) (fun q => absurd q (by decide))
      refine g_iconst (v := nI 0) h dX11_heard_28 (by decide) ?_
      refine g_putI h pfl_X11_69_10 sh_178 (by decide) rfl dX11_heard_29 ?_
      refine g_aload_n h dX11_heard_32 rfl rfl ?_
      refine g_getI h fl_X11_69_10 sh_178 (by decide) rfl dX11_heard_33 ?_
      refine g_top su_k ?_
      refine g_if_le (tgt := 41) h dX11_heard_36 (by decide) (fun _ => ?_) (fun q => absurd q (by decide))
      refine g_aload_n h dX11_heard_41 rfl rfl ?_
      refine g_iconst (v := nI 1) h dX11_heard_42 (by decide) ?_
      refine g_aload_n h dX11_heard_43 rfl rfl ?_
      refine g_iload_n h dX11_heard_44 rfl rfl ?_
      refine g_V h lv_X11_87_X11 sh_178 (by decide) rfl (c_X11_adult a v T W ha _ hK.th.r) (fitR hR (by first | decide | omega) (by decide) (by omega)) rfl rfl (Nat.le_of_ble_eq_true rfl) dX11_heard_45 ?_
      obtain ⟨hh, hh1, eh, eh2, -⟩ := hm_ad hRi hK.hT ha
      refine g_top eh ?_
      refine g_ishl h dX11_heard_48 ?_
      refine g_V h lv_X11_373_X11 sh_178 (by decide) rfl (c_X11_family v T W _ _ hK.th) (fitR hR (by first | decide | omega) (by decide) (by omega)) rfl rfl (Nat.le_of_ble_eq_true rfl) dX11_heard_49 ?_
      refine g_istore_n (ls' := [(0, _), (1, _), (2, _), (3, _)]) h dX11_heard_52 rfl (by decide) rfl rfl ?_
      refine g_iconst (v := nI 0) h dX11_heard_53 (by decide) ?_
      refine g_istore (ls' := [(0, _), (1, _), (2, _), (3, _), (4, _)]) h dX11_heard_54 (by decide) rfl rfl ?_
      have LP : ∀ j k : Nat, N < k + j → k ≤ N → G E X (QMP E X (PMr (cdL [ioob, iae]) (heaR v T (nI a) (nI N)).1 u) 0) 5 0 56 [(0, .ref (E.ad 178)), (1, .int (nI a)), (2, .int (nI N)), (3, .int (fmF v (kbF v nw (one hh) k) T)), (4, .int (nI k))] [] ((su u 178 0 (nI 0))) := by
        intro j
        induction j with
        | zero => intro k h1 h2; omega
        | succ j ih =>
          intro k h1 h2
          refine g_iload h dX11_heard_56 rfl ?_
          refine g_iload_n h dX11_heard_58 rfl rfl ?_
          refine g_icmp_ge (tgt := 76) h dX11_heard_59 (by decide) (fun c59 => ?_) (fun c59 => ?_)
          · have n59 := le_n (by omega) (by omega) (show nI (N) ≤ nI (k) from c59)
            refine g_iload_n h dX11_heard_76 rfl rfl ?_
            exact g_iretP h hrt dX11_heard_77 (by omega) (pm_v (by rw [heaR, if_pos n3, if_pos n18]) (by rw [ia, iN, hnw, ix_nI (by omega), eh, oneJ_n, ← fm_wc hRi hK.hT, show k = N by omega]) (sim.refl _))
          · have n59 := nle_n (by omega) (by omega) (show ¬ nI (N) ≤ nI (k) from c59)
            refine g_aload_n h dX11_heard_62 rfl rfl ?_
            refine g_iload_n h dX11_heard_63 rfl rfl ?_
            refine g_iload h dX11_heard_64 rfl ?_
            refine g_V h lv_X11_376_X11 sh_178 (by decide) rfl (c_X11_tells v T W nw k (by omega) hn _ _ hK.th hnw) (fitR hR (by first | decide | omega) (by decide) (by omega)) rfl rfl (Nat.le_of_ble_eq_true rfl) dX11_heard_66 ?_
            refine g_top (tl_eq (W := W) hI hRi hK.hT (rt_mod nw k)) ?_
            refine g_istore_n (ls' := [(0, _), (1, _), (2, _), (3, _), (4, _)]) h dX11_heard_69 rfl (by decide) rfl rfl ?_
            refine g_iinc (v := nI (k + 1)) (ls' := [(0, _), (1, _), (2, _), (3, _), (4, _)]) h dX11_heard_70 rfl (nI_1 k) (by decide) rfl rfl ?_
            refine g_goto (tgt := 56) h dX11_heard_73 (by decide) ?_
            exact ih (k + 1) (by omega) (by omega)
      exact LP (N + 1) (0) (by omega) (by omega)
      
    · refine g_top (b2_f n18) ?_
      refine g_if_ne (tgt := 28) h dX11_heard_21 (by decide) (fun q => absurd q (by decide)) (fun _ => ?_)
      refine g_iconst (v := nI 2) h dX11_heard_24 (by decide) ?_
      refine g_goto (tgt := 29) h dX11_heard_25 (by decide) ?_
      refine g_putI h pfl_X11_69_10 sh_178 (by decide) rfl dX11_heard_29 ?_
      refine g_aload_n h dX11_heard_32 rfl rfl ?_
      refine g_getI h fl_X11_69_10 sh_178 (by decide) rfl dX11_heard_33 ?_
      refine g_top su_k ?_
      refine g_if_le (tgt := 41) h dX11_heard_36 (by decide) (fun q => absurd q (by decide)) (fun _ => ?_)
      refine g_iconst (v := nI 0) h dX11_heard_39 (by decide) ?_
      exact g_iretP h hrt dX11_heard_40 (by omega) (by first | exact pm_x (Ex := ioob) (by rw [heaR, if_pos n3, if_neg n18]) (by decide) (sim.refl _) | exact pm_x (Ex := iae) (by rw [heaR, if_pos n3, if_neg n18]) (by decide) (sim.refl _))
  · refine g_top (b2_f n3) ?_
    refine g_if_ne (tgt := 13) h dX11_heard_6 (by decide) (fun q => absurd q (by decide)) (fun _ => ?_)
    refine g_iconst (v := nI 1) h dX11_heard_9 (by decide) ?_
    refine g_goto (tgt := 29) h dX11_heard_10 (by decide) ?_
    refine g_putI h pfl_X11_69_10 sh_178 (by decide) rfl dX11_heard_29 ?_
    refine g_aload_n h dX11_heard_32 rfl rfl ?_
    refine g_getI h fl_X11_69_10 sh_178 (by decide) rfl dX11_heard_33 ?_
    refine g_top su_k ?_
    refine g_if_le (tgt := 41) h dX11_heard_36 (by decide) (fun q => absurd q (by decide)) (fun _ => ?_)
    refine g_iconst (v := nI 0) h dX11_heard_39 (by decide) ?_
    exact g_iretP h hrt dX11_heard_40 (by omega) (by first | exact pm_x (Ex := ioob) (by rw [heaR, if_neg n3]) (by decide) (sim.refl _) | exact pm_x (Ex := iae) (by rw [heaR, if_neg n3]) (by decide) (sim.refl _))
set_option maxHeartbeats 1000000 in
theorem c_X11_soonest {E : EE} (v : Sto) (T W : Nat) (x y : Int32) (u : Sto) (hK : LK v u T W) (hI : TI v 3 10 T) (hRi : RI v 10 T W) : CtP E 35 0 yX11_soonest cX11_soonest 5 (some .int) [.ref (E.ad 178), .int x, .int y] u (PMr (cdL [ioob]) (sooR v x y).1 u) := by
  obtain ⟨nw, hn, hnw⟩ := hI.now
  refine ctp_of (by decide) (Nat.le_of_ble_eq_true rfl) (fun X h hR hrt htab hargs => ?_)
  refine g_aload_n h dX11_soonest_0 rfl rfl ?_
  refine g_aload_n h dX11_soonest_1 rfl rfl ?_
  refine g_iload_n h dX11_soonest_2 rfl rfl ?_
  refine g_V h lv_X11_277_X11 sh_178 (by decide) rfl (c_X11_isTenant x v T W u hK.r) (fitR hR (by first | decide | omega) (by decide) (by omega)) rfl rfl (Nat.le_of_ble_eq_true rfl) dX11_soonest_3 ?_
  by_cases n3 : okT v x
  · refine g_top (b2_t n3) ?_
    obtain ⟨a, ha, ha9, ia, rfl⟩ := okT_n hK.hT hK.r.vt n3
    refine g_if_eq (tgt := 17) h dX11_soonest_6 (by decide) (fun q => absurd q (by decide)) (fun _ => ?_)
    refine g_aload_n h dX11_soonest_9 rfl rfl ?_
    refine g_iload_n h dX11_soonest_10 rfl rfl ?_
    refine g_V h lv_X11_277_X11 sh_178 (by decide) rfl (c_X11_isTenant y v T W u hK.r) (fitR hR (by first | decide | omega) (by decide) (by omega)) rfl rfl (Nat.le_of_ble_eq_true rfl) dX11_soonest_11 ?_
    by_cases n11 : okT v y
    · refine g_top (b2_t n11) ?_
      obtain ⟨b, hb, hb9, ib, rfl⟩ := okT_n hK.hT hK.r.vt n11
      refine g_if_ne (tgt := 21) h dX11_soonest_14 (by decide) (fun _ => ?_) (fun q => absurd q (by decide))
      refine g_iconst (v := nI 0) h dX11_soonest_21 (by decide) ?_
      refine g_putI h pfl_X11_69_10 sh_178 (by decide) rfl dX11_soonest_22 ?_
      refine g_aload_n h dX11_soonest_25 rfl rfl ?_
      refine g_getI h fl_X11_69_10 sh_178 (by decide) rfl dX11_soonest_26 ?_
      refine g_top su_k ?_
      refine g_if_le (tgt := 34) h dX11_soonest_29 (by decide) (fun _ => ?_) (fun q => absurd q (by decide))
      refine g_aload_n h dX11_soonest_34 rfl rfl ?_
      refine g_iconst (v := nI 1) h dX11_soonest_35 (by decide) ?_
      refine g_aload_n h dX11_soonest_36 rfl rfl ?_
      refine g_iload_n h dX11_soonest_37 rfl rfl ?_
      refine g_V h lv_X11_87_X11 sh_178 (by decide) rfl (c_X11_adult a v T W ha _ hK.th.r) (fitR hR (by first | decide | omega) (by decide) (by omega)) rfl rfl (Nat.le_of_ble_eq_true rfl) dX11_soonest_38 ?_
      obtain ⟨hh, hh1, eh, eh2, -⟩ := hm_ad hRi hK.hT ha
      refine g_top eh ?_
      refine g_ishl h dX11_soonest_41 ?_
      refine g_V h lv_X11_373_X11 sh_178 (by decide) rfl (c_X11_family v T W _ _ hK.th) (fitR hR (by first | decide | omega) (by decide) (by omega)) rfl rfl (Nat.le_of_ble_eq_true rfl) dX11_soonest_42 ?_
      refine g_istore_n (ls' := [(0, _), (1, _), (2, _), (3, _)]) h dX11_soonest_45 rfl (by decide) rfl rfl ?_
      refine g_iconst (v := nI 0) h dX11_soonest_46 (by decide) ?_
      refine g_istore (ls' := [(0, _), (1, _), (2, _), (3, _), (4, _)]) h dX11_soonest_47 (by decide) rfl rfl ?_
      have LP : ∀ j k : Nat, frs (fun k => decide (¬ bitJ (kbF v nw (one hh) k) (hmI v b) = 0)) nI 337 0 = frs (fun k => decide (¬ bitJ (kbF v nw (one hh) k) (hmI v b) = 0)) nI (337 - k) k → 336 < k + j → k ≤ 336 → G E X (QMP E X (PMr (cdL [ioob]) (sooR v (nI a) (nI b)).1 u) 0) 5 0 49 [(0, .ref (E.ad 178)), (1, .int (nI a)), (2, .int (nI b)), (3, .int (fmF v (kbF v nw (one hh) k) T)), (4, .int (nI k))] [] ((su u 178 0 (nI 0))) := by
        intro j
        induction j with
        | zero => intro k hf h1 h2; omega
        | succ j ih =>
          intro k hf h1 h2
          refine g_iload h dX11_soonest_49 rfl ?_
          refine g_sipush (v := nI 336) h dX11_soonest_51 (by decide) ?_
          refine g_icmp_ge (tgt := 79) h dX11_soonest_54 (by decide) (fun c54 => ?_) (fun c54 => ?_)
          · have n54 := le_n (by omega) (by omega) (show nI (336) ≤ nI (k) from c54)
            obtain rfl : k = 336 := by omega
            rw [frs_s (by omega), frs_e] at hf
            refine g_iload_n h dX11_soonest_79 rfl rfl ?_
            refine g_iload_n h dX11_soonest_80 rfl rfl ?_
            refine g_S h ls_X11_340 (c_X11_isOf (fmF v (kbF v nw (one hh) 336) T) (nI b) _) (fitR hR (by first | decide | omega) (by decide) (by omega)) rfl rfl (Nat.le_of_ble_eq_true rfl) dX11_soonest_81 ?_
            refine g_top (b2_iff' (fm_is hRi hK.hT hb (kb_A hI hK.hT hh1 eh2 336))) ?_
            refine g_if_eq (tgt := 92) h dX11_soonest_84 (by decide) (fun c84 => ?_) (fun c84 => ?_)
            · rw [if_neg (show ¬ decide (¬ bitJ (kbF v nw (one hh) 336) (hmI v b) = 0) = true from fun q => b2_0.mp c84 (of_decide_eq_true q))] at hf
              refine g_iconst (v := -1) h dX11_soonest_92 (by decide) ?_
              exact g_iretP h hrt dX11_soonest_93 (by omega) (pm_v (by rw [sooR, if_pos n3, if_pos n11]) (by rw [ia, ib, sooV, hnw, ix_nI (by omega), eh, oneJ_n, hf]) (sim.refl _))
            · rw [if_pos (decide_eq_true (b2_n0.mp c84))] at hf
              refine g_iload h dX11_soonest_87 rfl ?_
              refine g_goto (tgt := 93) h dX11_soonest_89 (by decide) ?_
              exact g_iretP h hrt dX11_soonest_93 (by omega) (pm_v (by rw [sooR, if_pos n3, if_pos n11]) (by rw [ia, ib, sooV, hnw, ix_nI (by omega), eh, oneJ_n, hf]) (sim.refl _))
          · have n54 := nle_n (by omega) (by omega) (show ¬ nI (336) ≤ nI (k) from c54)
            refine g_iload_n h dX11_soonest_57 rfl rfl ?_
            refine g_iload_n h dX11_soonest_58 rfl rfl ?_
            refine g_S h ls_X11_340 (c_X11_isOf (fmF v (kbF v nw (one hh) k) T) (nI b) _) (fitR hR (by first | decide | omega) (by decide) (by omega)) rfl rfl (Nat.le_of_ble_eq_true rfl) dX11_soonest_59 ?_
            refine g_top (b2_iff' (fm_is hRi hK.hT hb (kb_A hI hK.hT hh1 eh2 k))) ?_
            refine g_if_ne (tgt := 79) h dX11_soonest_62 (by decide) (fun c62 => ?_) (fun c62 => ?_)
            · rw [frs_s (by omega), if_pos (decide_eq_true (b2_n0.mp c62))] at hf
              refine g_iload_n h dX11_soonest_79 rfl rfl ?_
              refine g_iload_n h dX11_soonest_80 rfl rfl ?_
              refine g_S h ls_X11_340 (c_X11_isOf (fmF v (kbF v nw (one hh) k) T) (nI b) _) (fitR hR (by first | decide | omega) (by decide) (by omega)) rfl rfl (Nat.le_of_ble_eq_true rfl) dX11_soonest_81 ?_
              refine g_top (b2_iff' (fm_is hRi hK.hT hb (kb_A hI hK.hT hh1 eh2 k))) ?_
              refine g_if_eq (tgt := 92) h dX11_soonest_84 (by decide) (fun c84 => ?_) (fun c84 => ?_)
              · exact absurd (b2_n0.mp c62) (b2_0.mp c84)
              · refine g_iload h dX11_soonest_87 rfl ?_
                refine g_goto (tgt := 93) h dX11_soonest_89 (by decide) ?_
                exact g_iretP h hrt dX11_soonest_93 (by omega) (pm_v (by rw [sooR, if_pos n3, if_pos n11]) (by rw [ia, ib, sooV, hnw, ix_nI (by omega), eh, oneJ_n, hf]) (sim.refl _))
            · rw [frs_s (by omega), if_neg (show ¬ decide (¬ bitJ (kbF v nw (one hh) k) (hmI v b) = 0) = true from fun q => b2_0.mp c62 (of_decide_eq_true q))] at hf
              refine g_aload_n h dX11_soonest_65 rfl rfl ?_
              refine g_iload_n h dX11_soonest_66 rfl rfl ?_
              refine g_iload h dX11_soonest_67 rfl ?_
              refine g_V h lv_X11_376_X11 sh_178 (by decide) rfl (c_X11_tells v T W nw k (by omega) hn _ _ hK.th hnw) (fitR hR (by first | decide | omega) (by decide) (by omega)) rfl rfl (Nat.le_of_ble_eq_true rfl) dX11_soonest_69 ?_
              refine g_top (tl_eq (W := W) hI hRi hK.hT (rt_mod nw k)) ?_
              refine g_istore_n (ls' := [(0, _), (1, _), (2, _), (3, _), (4, _)]) h dX11_soonest_72 rfl (by decide) rfl rfl ?_
              refine g_iinc (v := nI (k + 1)) (ls' := [(0, _), (1, _), (2, _), (3, _), (4, _)]) h dX11_soonest_73 rfl (nI_1 k) (by decide) rfl rfl ?_
              refine g_goto (tgt := 49) h dX11_soonest_76 (by decide) ?_
              exact ih (k + 1) hf (by omega) (by omega)
      exact LP (336 + 1) (0) rfl (by omega) (by omega)
      
    · refine g_top (b2_f n11) ?_
      refine g_if_ne (tgt := 21) h dX11_soonest_14 (by decide) (fun q => absurd q (by decide)) (fun _ => ?_)
      refine g_iconst (v := nI 1) h dX11_soonest_17 (by decide) ?_
      refine g_goto (tgt := 22) h dX11_soonest_18 (by decide) ?_
      refine g_putI h pfl_X11_69_10 sh_178 (by decide) rfl dX11_soonest_22 ?_
      refine g_aload_n h dX11_soonest_25 rfl rfl ?_
      refine g_getI h fl_X11_69_10 sh_178 (by decide) rfl dX11_soonest_26 ?_
      refine g_top su_k ?_
      refine g_if_le (tgt := 34) h dX11_soonest_29 (by decide) (fun q => absurd q (by decide)) (fun _ => ?_)
      refine g_iconst (v := nI 0) h dX11_soonest_32 (by decide) ?_
      exact g_iretP h hrt dX11_soonest_33 (by omega) (by first | exact pm_x (Ex := ioob) (by rw [sooR, if_pos n3, if_neg n11]) (by decide) (sim.refl _))
  · refine g_top (b2_f n3) ?_
    refine g_if_eq (tgt := 17) h dX11_soonest_6 (by decide) (fun _ => ?_) (fun q => absurd q (by decide))
    refine g_iconst (v := nI 1) h dX11_soonest_17 (by decide) ?_
    refine g_goto (tgt := 22) h dX11_soonest_18 (by decide) ?_
    refine g_putI h pfl_X11_69_10 sh_178 (by decide) rfl dX11_soonest_22 ?_
    refine g_aload_n h dX11_soonest_25 rfl rfl ?_
    refine g_getI h fl_X11_69_10 sh_178 (by decide) rfl dX11_soonest_26 ?_
    refine g_top su_k ?_
    refine g_if_le (tgt := 34) h dX11_soonest_29 (by decide) (fun q => absurd q (by decide)) (fun _ => ?_)
    refine g_iconst (v := nI 0) h dX11_soonest_32 (by decide) ?_
    exact g_iretP h hrt dX11_soonest_33 (by omega) (by first | exact pm_x (Ex := ioob) (by rw [sooR, if_neg n3]) (by decide) (sim.refl _))
