-- after: 38.r 39.s 40.t 47.str 48.tx 49.ty 50.tt 53.lw 54.lx
def stkN (g : Nat → Int32) : List Nat → Prop
  | [] => True
  | x :: t => g t.length = nI x ∧ stkN g t
theorem stkN_upd {g : Nat → Int32} {i : Nat} {v : Int32} : ∀ {s : List Nat}, stkN g s → s.length ≤ i → stkN (upd g i v) s
  | [], _, _ => trivial
  | x :: t, h, hi => by
    have h1 : t.length < i := hi
    exact ⟨by rw [pk_un (by omega)]; exact h.1, stkN_upd h.2 (by omega)⟩
theorem stkN_push {g : Nat → Int32} {s : List Nat} (h : stkN g s) (x : Nat) : stkN (upd g s.length (nI x)) (x :: s) := ⟨pk_us, stkN_upd h (Nat.le_refl _)⟩
def hdN : List Nat → Nat
  | [] => 0
  | x :: _ => x
def gdL : List Nat → Prop
  | [] => True
  | x :: t => gdL t ∧ x ≤ 3 ∧ (x = 2 → hdN t < 2) ∧ (x = 1 → hdN t < 1)
theorem gd_el : ∀ {π : List Nat}, gdL π → ∀ x, x ∈ π → x ≤ 3
  | [], _, x, hx => nomatch hx
  | y :: t, h, x, hx => by
    cases hx with
    | head => exact h.2.1
    | tail _ q => exact gd_el h.1 x q
theorem gd_len : ∀ {π : List Nat}, gdL π → π.length ≤ 3 * c3 π + (if hdN π = 2 then 2 else if hdN π = 1 then 1 else 0)
  | [], _ => Nat.zero_le _
  | x :: t, h => by
    have ih := gd_len h.1
    have h4 : x = 0 ∨ x = 1 ∨ x = 2 ∨ x = 3 := by have := h.2.1; omega
    simp only [List.length_cons, c3, hdN]
    rcases h4 with rfl | rfl | rfl | rfl
    · simp only [if_true, true_or]
      split at ih <;> (try split at ih) <;> simp <;> omega
    · have h5 := h.2.2.2 rfl
      rw [if_neg (by omega), if_neg (by omega)] at ih
      simp; omega
    · have h5 := h.2.2.1 rfl
      rw [if_neg (by omega)] at ih
      split at ih <;> simp <;> omega
    · simp only [if_true, or_true]
      split at ih <;> (try split at ih) <;> simp <;> omega
theorem gd_40 {π : List Nat} (h : gdL π) (h6 : c3 π ≤ 6) : π.length ≤ 20 := by
  have := gd_len h
  split at this
  · omega
  · split at this <;> omega
theorem c0_le : ∀ {π : List Nat}, c0 π ≤ c3 π
  | [] => Nat.le_refl _
  | x :: t => by
    have := c0_le (π := t)
    show (if x = 0 then 1 else 0) + c0 t ≤ (if x = 0 ∨ x = 3 then 1 else 0) + c3 t
    by_cases e : x = 0
    · rw [if_pos e, if_pos (Or.inl e)]; omega
    · rw [if_neg e]; omega
theorem un_gd {r : Nat} : ∀ {π : List Nat}, gdL π → gdL (unW r π).2
  | [], _ => trivial
  | x :: t, h => by
    unfold unW
    split
    · exact un_gd h.1
    · exact h
theorem un_hd {r : Nat} (hr : 0 < r) : ∀ {π : List Nat}, hdN (unW r π).2 < r
  | [] => hr
  | x :: t => by
    unfold unW
    split
    · exact un_hd hr
    · show x < r
      omega
theorem un_st {r : Nat} {g : Nat → Int32} : ∀ {π : List Nat}, stkN g π → stkN g (unW r π).2
  | [], _ => trivial
  | x :: t, h => by
    unfold unW
    split
    · exact un_st h.2
    · exact h
theorem un_c0 {r : Nat} (hr : 0 < r) : ∀ {π : List Nat}, c0 (unW r π).2 = c0 π
  | [] => rfl
  | x :: t => by
    unfold unW
    split
    · show c0 (unW r t).2 = _ + c0 t
      rw [un_c0 hr, if_neg (by omega)]; omega
    · rfl
theorem un_c3 {r : Nat} : ∀ {π : List Nat}, c3 (unW r π).2 ≤ c3 π
  | [] => Nat.le_refl _
  | x :: t => by
    unfold unW
    split
    · exact Nat.le_trans un_c3 (Nat.le_add_left _ _)
    · exact Nat.le_refl _
theorem un_c9 {r : Nat} (hr : 0 < r) : ∀ {π : List Nat}, (unW r π).1.length + c9 (unW r π).2 = c9 π
  | [] => rfl
  | x :: t => by
    unfold unW
    split
    · show ((unW r t).1.length + 1) + c9 (unW r t).2 = (if x = 0 then 0 else 1) + c9 t
      have := un_c9 hr (π := t)
      rw [if_neg (by omega)]; omega
    · show 0 + c9 (x :: t) = c9 (x :: t); omega
theorem un_len {r : Nat} : ∀ {π : List Nat}, (unW r π).2.length ≤ π.length
  | [] => Nat.le_refl _
  | x :: t => by
    unfold unW
    split
    · exact Nat.le_trans un_len (Nat.le_succ _)
    · exact Nat.le_refl _
theorem un_0 : ∀ {π : List Nat}, 0 < c0 π → ∃ t, (unW 1 π).2 = 0 :: t ∧ c0 π = c0 t + 1 ∧ c9 (0 :: t) = c9 t ∧ c3 (0 :: t) = c3 t + 1
  | [], h => absurd h (by decide)
  | x :: t, h => by
    unfold unW
    by_cases e : 1 ≤ x
    · rw [if_pos e]
      have h2 : 0 < c0 t := by
        have : c0 (x :: t) = (if x = 0 then 1 else 0) + c0 t := rfl
        rw [if_neg (by omega)] at this; omega
      obtain ⟨t2, h3, h4, h5⟩ := un_0 h2
      refine ⟨t2, h3, ?_, h5⟩
      show (if x = 0 then 1 else 0) + c0 t = _
      rw [if_neg (by omega)]; omega
    · have : x = 0 := by omega
      subst this
      rw [if_neg e]
      exact ⟨t, rfl, by show 1 + c0 t = _; omega, by show 0 + c9 t = _; omega, by show 1 + c3 t = _; omega⟩
theorem clG_app {f : Nat → Int32} {L : Nat} : ∀ (n p : Nat) (π : List Nat) (ws : List Int32), clG f L n p π ws = ((clG f L n p π []).1, (clG f L n p π []).2.1, ws ++ (clG f L n p π []).2.2)
  | 0, p, π, ws => by simp [clG]
  | n + 1, p, π, ws => by
    unfold clG
    split
    · rw [clG_app n _ _ (ws ++ (unW 1 π).1), clG_app n _ _ ([] ++ (unW 1 π).1)]
      simp
    · simp
theorem cl_t {f : Nat → Int32} {L n p : Nat} {π : List Nat} (h : 0 < c0 π ∧ sgP f L p (nI 41)) : clG f L (n + 1) p π [] = ((clG f L n (nx f L p) (unW 1 π).2.tail []).1, (clG f L n (nx f L p) (unW 1 π).2.tail []).2.1, (unW 1 π).1 ++ (clG f L n (nx f L p) (unW 1 π).2.tail []).2.2) := by
  rw [clG, if_pos h, clG_app]; simp
theorem cl_f {f : Nat → Int32} {L n p : Nat} {π : List Nat} (h : ¬ (0 < c0 π ∧ sgP f L p (nI 41))) : clG f L (n + 1) p π [] = (p, π, []) := by
  rw [clG, if_neg h]
theorem cl_ok {f : Nat → Int32} {L : Nat} {g : Nat → Int32} : ∀ (n p : Nat) (π : List Nat), p ≤ L → gdL π → stkN g π → (clG f L n p π []).1 ≤ L ∧ gdL (clG f L n p π []).2.1 ∧ stkN g (clG f L n p π []).2.1 ∧ c3 (clG f L n p π []).2.1 ≤ c3 π ∧ (clG f L n p π []).2.2.length + c9 (clG f L n p π []).2.1 = c9 π ∧ p ≤ (clG f L n p π []).1
  | 0, p, π, hp, hg, hs => by simp [clG]; exact ⟨hp, hg, hs⟩
  | n + 1, p, π, hp, hg, hs => by
    by_cases h : 0 < c0 π ∧ sgP f L p (nI 41)
    · rw [cl_t h]
      obtain ⟨t, ht, h4, h5, h6⟩ := un_0 h.1
      have hg2 := un_gd (r := 1) hg
      have hs2 := un_st (r := 1) hs
      have h9 := un_c9 (r := 1) (by decide) (π := π)
      have h3 := un_c3 (r := 1) (π := π)
      rw [ht] at hg2 hs2 h9 h3 ⊢
      have ih := cl_ok (f := f) n (nx f L p) t (nx_b hp).2 hg2.1 hs2.2
      have hb := (nx_b (f := f) hp).1
      refine ⟨ih.1, ih.2.1, ih.2.2.1, Nat.le_trans ih.2.2.2.1 (by omega), ?_, Nat.le_trans hb ih.2.2.2.2.2⟩
      show ((unW 1 π).1 ++ (clG f L n (nx f L p) t []).2.2).length + c9 (clG f L n (nx f L p) t []).2.1 = c9 π
      rw [List.length_append]
      have := ih.2.2.2.2.1
      omega
    · rw [cl_f h]
      exact ⟨hp, hg, hs, Nat.le_refl _, by show 0 + c9 π = c9 π; omega, Nat.le_refl _⟩
theorem adW_1 {u : Sto} {l n : Nat} {x : Int32} {ws : List Int32} : adW u l n (x :: ws) = adW (adS u l n x) l (n + 1) ws := rfl
set_option maxHeartbeats 1000000 in
theorem c_X3_push {E : EE} (g : Nat → Int32) (b c : Int32) (f : Nat → Int32) (L p : Nat) (w : Int32) (m : Nat) (hm : m < 40) (x : Int32) (u : Sto) : Ct E 1 0 yX3_push cX3_push 2 none [.ref (E.ad 160), .int x] (LT u g (nI m) b c f L p w) (.inl none) ((LT u (upd g m x) (nI (m + 1)) b c f L p w)) := by
  refine ct_of (by decide) (Nat.le_of_ble_eq_true rfl) (fun X h hR hrt htab hargs hini => ?_)
  refine g_aload_n h dX3_push_0 rfl rfl ?_
  refine g_getI h fl_X3_76_3 sh_160 (by decide) rfl dX3_push_1 ?_
  refine g_top (tx_s (by decide)) ?_
  refine g_top lf_r9 ?_
  refine g_bipush (v := nI 40) h dX3_push_4 (by decide) ?_
  refine g_icmp_ge (tgt := 29) h dX3_push_6 (by decide) (fun c6 => ?_) (fun c6 => ?_)
  · have n6 := le_n (by omega) (by omega) (show nI (40) ≤ nI (m) from c6)
    omega
  · have n6 := nle_n (by omega) (by omega) (show ¬ nI (40) ≤ nI (m) from c6)
    refine g_aload_n h dX3_push_9 rfl rfl ?_
    refine g_getR h fl_X3_11_3 sh_160 (by decide) rfl dX3_push_10 ?_
    refine g_aload_n h dX3_push_13 rfl rfl ?_
    refine g_getI h fl_X3_76_3 sh_160 (by decide) rfl dX3_push_14 ?_
    refine g_top (tx_s (by decide)) ?_
    refine g_top lf_r9 ?_
    refine g_iload_n h dX3_push_17 rfl rfl ?_
    refine g_iast h _ _ _ sh_161 (by decide) (by decide) rfl (by omega) dX3_push_18 ?_
    refine g_sto (tx_su (by decide)) ?_
    refine g_sto (tx_in lf_wg) ?_
    refine g_aload_n h dX3_push_19 rfl rfl ?_
    refine g_dup h dX3_push_20 rfl ?_
    refine g_getI h fl_X3_76_3 sh_160 (by decide) rfl dX3_push_21 ?_
    refine g_top (tx_s (by decide)) ?_
    refine g_top lf_r9 ?_
    refine g_iconst (v := nI 1) h dX3_push_24 (by decide) ?_
    refine g_iadd h dX3_push_25 ?_
    refine g_top (nI_1 m) ?_
    refine g_putI h pfl_X3_76_3 sh_160 (by decide) rfl dX3_push_26 ?_
    refine g_sto (tx_su7 (by decide)) ?_
    refine g_sto (tx_in lf_w9) ?_
    exact g_vret h hrt dX3_push_29 (by omega) rfl rfl
set_option maxHeartbeats 1000000 in
theorem c_X3_unwind {E : EE} (g : Nat → Int32) (b : Int32) (f : Nat → Int32) (L p : Nat) (w : Int32) (l n : Nat) (hl0 : 0 < l) (hl : l ≤ 12) (r : Nat) (hr0 : 0 < r) (hr3 : r ≤ 3) (π : List Nat) (u : Sto) (hx : u 43 5 = nI l) (hn : u 45 l = nI n) (hs : stkN g π) (hl4 : π.length ≤ 40) (hel : ∀ x, x ∈ π → x ≤ 3) (h9 : n + c9 π ≤ 400) : Ct E 2 0 yX3_unwind cX3_unwind 2 none [.ref (E.ad 160), .int (nI r)] (LT u g (nI π.length) b (nI (c3 π)) f L p w) (.inl none) ((LT (adW u l n (unW r π).1) g (nI (unW r π).2.length) b (nI (c3 (unW r π).2)) f L p w)) := by
  refine ct_of (by decide) (Nat.le_of_ble_eq_true rfl) (fun X h hR hrt htab hargs hini => ?_)
  have LP : ∀ (σ : List Nat) (v : Sto) (n2 : Nat), stkN g σ → σ.length ≤ 40 → (∀ x, x ∈ σ → x ≤ 3) → n2 + c9 σ ≤ 400 → v 43 5 = nI l → v 45 l = nI n2 → (LT (adW u l n (unW r π).1) g (nI (unW r π).2.length) b (nI (c3 (unW r π).2)) f L p w) = LT (adW v l n2 (unW r σ).1) g (nI (unW r σ).2.length) b (nI (c3 (unW r σ).2)) f L p w → G E X (QM E X (.inl none) ((LT (adW u l n (unW r π).1) g (nI (unW r π).2.length) b (nI (c3 (unW r π).2)) f L p w)) 0) 2 0 0 [(0, .ref (E.ad 160)), (1, .int (nI r))] [] (LT v g (nI σ.length) b (nI (c3 σ)) f L p w) := by
    intro σ
    induction σ with
    | nil =>
      intro v n2 _ _ _ _ _ _ hT
      refine g_aload_n h dX3_unwind_0 rfl rfl ?_
      refine g_getI h fl_X3_76_3 sh_160 (by decide) rfl dX3_unwind_1 ?_
      refine g_top (tx_s (by decide)) ?_
      refine g_top lf_r9 ?_
      refine g_if_le (tgt := 97) h dX3_unwind_4 (by decide) (fun c4 => ?_) (fun c4 => ?_)
      · exact g_vret h hrt dX3_unwind_97 (by omega) rfl hT
      · exact absurd (show (nI 0 : Int32) ≤ 0 by decide) c4
    | cons x t ih =>
      intro v n2 hst hlen he h9v hxv hnv hT
      have hlen2 : t.length + 1 ≤ 40 := hlen
      have hx3 : x ≤ 3 := he x (List.Mem.head _)
      have hc9 : c9 (x :: t) = (if x = 0 then 0 else 1) + c9 t := rfl
      have ht1 : nI (x :: t).length - nI 1 = nI t.length := pk_sub (a := t.length + 1) (by omega)
      refine g_aload_n h dX3_unwind_0 rfl rfl ?_
      refine g_getI h fl_X3_76_3 sh_160 (by decide) rfl dX3_unwind_1 ?_
      refine g_top (tx_s (by decide)) ?_
      refine g_top lf_r9 ?_
      refine g_if_le (tgt := 97) h dX3_unwind_4 (by decide) (fun c4 => ?_) (fun c4 => ?_)
      · have n4 := le_n (by omega) (by omega) (show nI ((x :: t).length) ≤ nI (0) from c4)
        exact absurd n4 (by simp)
      · have n4 := nle_n (by omega) (by omega) (show ¬ nI ((x :: t).length) ≤ nI (0) from c4)
        refine g_aload_n h dX3_unwind_7 rfl rfl ?_
        refine g_getR h fl_X3_11_3 sh_160 (by decide) rfl dX3_unwind_8 ?_
        refine g_aload_n h dX3_unwind_11 rfl rfl ?_
        refine g_getI h fl_X3_76_3 sh_160 (by decide) rfl dX3_unwind_12 ?_
        refine g_top (tx_s (by decide)) ?_
        refine g_top lf_r9 ?_
        refine g_iconst (v := nI 1) h dX3_unwind_15 (by decide) ?_
        refine g_isub h dX3_unwind_16 ?_
        refine g_top ht1 ?_
        refine g_iald h _ _ _ sh_161 (by decide) (by decide) rfl (by omega) dX3_unwind_17 ?_
        refine g_top (tx_o (by decide)) ?_
        refine g_top lf_g ?_
        refine g_top hst.1 ?_
        refine g_iload_n h dX3_unwind_18 rfl rfl ?_
        refine g_icmp_lt (tgt := 97) h dX3_unwind_19 (by decide) (fun c19 => ?_) (fun c19 => ?_)
        · have n19 := lt_n (by omega) (by omega) (show nI (x) < nI (r) from c19)
          have hu9 : unW r (x :: t) = ([], x :: t) := by rw [unW, if_neg (by omega)]
          exact g_vret h hrt dX3_unwind_97 (by omega) rfl (by rw [hT, hu9]; rfl)
        · have n19 := nlt_n (by omega) (by omega) (show ¬ nI (x) < nI (r) from c19)
          have hu9 : unW r (x :: t) = (pwd x :: (unW r t).1, (unW r t).2) := by rw [unW, if_pos n19]
          rw [if_neg (by omega)] at hc9
          have hb9 : n2 < 400 := by omega
          refine g_aload_n h dX3_unwind_22 rfl rfl ?_
          refine g_dup h dX3_unwind_23 rfl ?_
          refine g_getI h fl_X3_76_3 sh_160 (by decide) rfl dX3_unwind_24 ?_
          refine g_top (tx_s (by decide)) ?_
          refine g_top lf_r9 ?_
          refine g_iconst (v := nI 1) h dX3_unwind_27 (by decide) ?_
          refine g_isub h dX3_unwind_28 ?_
          refine g_top ht1 ?_
          refine g_putI h pfl_X3_76_3 sh_160 (by decide) rfl dX3_unwind_29 ?_
          refine g_sto (tx_su7 (by decide)) ?_
          refine g_sto (tx_in lf_w9) ?_
          refine g_aload_n h dX3_unwind_32 rfl rfl ?_
          refine g_getR h fl_X3_11_3 sh_160 (by decide) rfl dX3_unwind_33 ?_
          refine g_aload_n h dX3_unwind_36 rfl rfl ?_
          refine g_getI h fl_X3_76_3 sh_160 (by decide) rfl dX3_unwind_37 ?_
          refine g_top (tx_s (by decide)) ?_
          refine g_top lf_r9 ?_
          refine g_iald h _ _ _ sh_161 (by decide) (by decide) rfl (by omega) dX3_unwind_40 ?_
          refine g_top (tx_o (by decide)) ?_
          refine g_top lf_g ?_
          refine g_top hst.1 ?_
          refine g_iconst (v := nI 3) h dX3_unwind_41 (by decide) ?_
          refine g_icmp_ne (tgt := 67) h dX3_unwind_42 (by decide) (fun c42 => ?_) (fun c42 => ?_)
          · have n42 := ne_n (show ¬ nI (x) = nI (3) from c42)
            refine g_aload_n h dX3_unwind_67 rfl rfl ?_
            refine g_getR h fl_X3_15_3 sh_160 (by decide) rfl dX3_unwind_68 ?_
            refine g_aload_n h dX3_unwind_71 rfl rfl ?_
            refine g_getR h fl_X3_11_3 sh_160 (by decide) rfl dX3_unwind_72 ?_
            refine g_aload_n h dX3_unwind_75 rfl rfl ?_
            refine g_getI h fl_X3_76_3 sh_160 (by decide) rfl dX3_unwind_76 ?_
            refine g_top (tx_s (by decide)) ?_
            refine g_top lf_r9 ?_
            refine g_iald h _ _ _ sh_161 (by decide) (by decide) rfl (by omega) dX3_unwind_79 ?_
            refine g_top (tx_o (by decide)) ?_
            refine g_top lf_g ?_
            refine g_top hst.1 ?_
            refine g_iconst (v := nI 2) h dX3_unwind_80 (by decide) ?_
            refine g_icmp_ne (tgt := 89) h dX3_unwind_81 (by decide) (fun c81 => ?_) (fun c81 => ?_)
            · have n81 := ne_n (show ¬ nI (x) = nI (2) from c81)
              refine g_bipush (v := -14) h dX3_unwind_89 (by decide) ?_
              refine g_V h lv_X3_116_X2 sh_43 (by decide) rfl (c_X2_addWord l (n2) hl0 hl (by omega) (-14) _ ((congrFun (LT_o (by decide) (by decide)) 5).trans hxv) ((congrFun (LT_o (by decide) (by decide)) l).trans hnv)) (fitR hR (by decide) (by decide) (by omega)) rfl rfl (Nat.le_of_ble_eq_true rfl) dX3_unwind_91 ?_
              refine g_sto adS_LT ?_
              refine g_goto (tgt := 0) h dX3_unwind_94 (by decide) ?_
              refine g_sto (show _ = LT (adS v l n2 (-14)) g (nI t.length) b (nI (c3 t)) f L p w by rw [show c3 (x :: t) = c3 t by show (if x = 0 ∨ x = 3 then 1 else 0) + c3 t = _; rw [if_neg (by omega)]; omega]) ?_
              exact ih (adS v l n2 (-14)) (n2 + 1) hst.2 (by omega) (fun y hy => he y (List.Mem.tail _ hy)) (by omega) ((congrFun (adS_c (by decide) (by decide)) 5).trans hxv) (adS_n hb9) (by rw [hT, hu9, show pwd x = -14 by unfold pwd; simp [n42, n81]]; rfl)
            · have n81 := eq_n (by omega) (by omega) (show nI (x) = nI (2) from c81)
              refine g_bipush (v := -13) h dX3_unwind_84 (by decide) ?_
              refine g_goto (tgt := 91) h dX3_unwind_86 (by decide) ?_
              refine g_V h lv_X3_116_X2 sh_43 (by decide) rfl (c_X2_addWord l (n2) hl0 hl (by omega) (-13) _ ((congrFun (LT_o (by decide) (by decide)) 5).trans hxv) ((congrFun (LT_o (by decide) (by decide)) l).trans hnv)) (fitR hR (by decide) (by decide) (by omega)) rfl rfl (Nat.le_of_ble_eq_true rfl) dX3_unwind_91 ?_
              refine g_sto adS_LT ?_
              refine g_goto (tgt := 0) h dX3_unwind_94 (by decide) ?_
              refine g_sto (show _ = LT (adS v l n2 (-13)) g (nI t.length) b (nI (c3 t)) f L p w by rw [show c3 (x :: t) = c3 t by show (if x = 0 ∨ x = 3 then 1 else 0) + c3 t = _; rw [if_neg (by omega)]; omega]) ?_
              exact ih (adS v l n2 (-13)) (n2 + 1) hst.2 (by omega) (fun y hy => he y (List.Mem.tail _ hy)) (by omega) ((congrFun (adS_c (by decide) (by decide)) 5).trans hxv) (adS_n hb9) (by rw [hT, hu9, show pwd x = -13 by unfold pwd; simp [n42, n81]]; rfl)
          · have n42 := eq_n (by omega) (by omega) (show nI (x) = nI (3) from c42)
            refine g_aload_n h dX3_unwind_45 rfl rfl ?_
            refine g_getR h fl_X3_15_3 sh_160 (by decide) rfl dX3_unwind_46 ?_
            refine g_bipush (v := -12) h dX3_unwind_49 (by decide) ?_
            refine g_V h lv_X3_116_X2 sh_43 (by decide) rfl (c_X2_addWord l (n2) hl0 hl (by omega) (-12) _ ((congrFun (LT_o (by decide) (by decide)) 5).trans hxv) ((congrFun (LT_o (by decide) (by decide)) l).trans hnv)) (fitR hR (by decide) (by decide) (by omega)) rfl rfl (Nat.le_of_ble_eq_true rfl) dX3_unwind_51 ?_
            refine g_sto adS_LT ?_
            refine g_aload_n h dX3_unwind_54 rfl rfl ?_
            refine g_dup h dX3_unwind_55 rfl ?_
            refine g_getI h fl_X3_83_3 sh_160 (by decide) rfl dX3_unwind_56 ?_
            refine g_top (tx_s (by decide)) ?_
            refine g_top lf_r11 ?_
            refine g_iconst (v := nI 1) h dX3_unwind_59 (by decide) ?_
            refine g_isub h dX3_unwind_60 ?_
            refine g_top (y := nI (c3 t)) (by rw [n42]; show nI (1 + c3 t) - nI 1 = nI (c3 t); rw [Nat.add_comm]; exact pk_sub (by omega)) ?_
            refine g_putI h pfl_X3_83_3 sh_160 (by decide) rfl dX3_unwind_61 ?_
            refine g_sto (tx_su7 (by decide)) ?_
            refine g_sto (tx_in lf_w11) ?_
            refine g_goto (tgt := 0) h dX3_unwind_64 (by decide) ?_
            exact ih (adS v l n2 (-12)) (n2 + 1) hst.2 (by omega) (fun y hy => he y (List.Mem.tail _ hy)) (by omega) ((congrFun (adS_c (by decide) (by decide)) 5).trans hxv) (adS_n hb9) (by rw [hT, hu9, show pwd x = -12 by unfold pwd; simp [n42]]; rfl)
  exact LP π u n hs hl4 hel h9 hx hn rfl
set_option maxHeartbeats 1000000 in
theorem c_X3_goDeeper {E : EE} (g : Nat → Int32) (m o d : Nat) (hm : m < 40) (f : Nat → Int32) (L p : Nat) (w : Int32) (u : Sto) (hf : u 1 = f) (hL : L ≤ 400) (hp : p ≤ L) : Ct E 3 0 yX3_goDeeper cX3_goDeeper 1 none [.ref (E.ad 160)] (LT u g (nI m) (nI o) (nI d) f L p w) (.inl none) ((if sgP f L p (nI 40) then LT u (upd g m (nI 0)) (nI (m + 1)) (nI (o + 1)) (nI (d + 1)) f L (nx f L p) w else LT u (upd g m (nI 3)) (nI (m + 1)) (nI o) (nI (d + 1)) f L (nx f L p) w)) := by
  refine ct_of (by decide) (Nat.le_of_ble_eq_true rfl) (fun X h hR hrt htab hargs hini => ?_)
  refine g_aload_n h dX3_goDeeper_0 rfl rfl ?_
  refine g_dup h dX3_goDeeper_1 rfl ?_
  refine g_getI h fl_X3_83_3 sh_160 (by decide) rfl dX3_goDeeper_2 ?_
  refine g_top (tx_s (by decide)) ?_
  refine g_top lf_r11 ?_
  refine g_iconst (v := nI 1) h dX3_goDeeper_5 (by decide) ?_
  refine g_iadd h dX3_goDeeper_6 ?_
  refine g_top (nI_1 d) ?_
  refine g_putI h pfl_X3_83_3 sh_160 (by decide) rfl dX3_goDeeper_7 ?_
  refine g_sto (tx_su7 (by decide)) ?_
  refine g_sto (tx_in lf_w11) ?_
  refine g_aload_n h dX3_goDeeper_10 rfl rfl ?_
  refine g_bipush (v := nI 40) h dX3_goDeeper_11 (by decide) ?_
  refine g_V h lv_X3_88_X3 sh_160 (by decide) rfl (c_X6_atSign_160 f L p w (nI 40) (lfS u g (nI m) (nI o) (nI (d + 1))) ((lf_oc (by decide) (by decide)).trans hf) hL hp) (fitR hR (by decide) (by decide) (by omega)) rfl rfl (Nat.le_of_ble_eq_true rfl) dX3_goDeeper_13 ?_
  by_cases n13 : sgP f L p (nI 40)
  · refine g_top (b2_t n13) ?_
    refine g_if_eq (tgt := 37) h dX3_goDeeper_16 (by decide) (fun q => absurd q (by decide)) (fun _ => ?_)
    refine g_aload_n h dX3_goDeeper_19 rfl rfl ?_
    refine g_dup h dX3_goDeeper_20 rfl ?_
    refine g_getI h fl_X3_80_3 sh_160 (by decide) rfl dX3_goDeeper_21 ?_
    refine g_top (tx_s (by decide)) ?_
    refine g_top lf_r10 ?_
    refine g_iconst (v := nI 1) h dX3_goDeeper_24 (by decide) ?_
    refine g_iadd h dX3_goDeeper_25 ?_
    refine g_top (nI_1 o) ?_
    refine g_putI h pfl_X3_80_3 sh_160 (by decide) rfl dX3_goDeeper_26 ?_
    refine g_sto (tx_su7 (by decide)) ?_
    refine g_sto (tx_in lf_w10) ?_
    refine g_aload_n h dX3_goDeeper_29 rfl rfl ?_
    refine g_iconst (v := nI 0) h dX3_goDeeper_30 (by decide) ?_
    refine g_V h lv_X3_110_X3 sh_160 (by decide) rfl (c_X3_push g (nI (o + 1)) (nI (d + 1)) f L p w m hm (nI 0) u) (fitR hR (by decide) (by decide) (by omega)) rfl rfl (Nat.le_of_ble_eq_true rfl) dX3_goDeeper_31 ?_
    refine g_goto (tgt := 42) h dX3_goDeeper_34 (by decide) ?_
    refine g_aload_n h dX3_goDeeper_42 rfl rfl ?_
    refine g_V h lv_X3_56_X3 sh_160 (by decide) rfl (c_X6_stepT_160 f L p w (lfS u (upd g m (nI 0)) (nI (m + 1)) (nI (o + 1)) (nI (d + 1))) ((lf_oc (by decide) (by decide)).trans hf) hL hp) (fitR hR (by decide) (by decide) (by omega)) rfl rfl (Nat.le_of_ble_eq_true rfl) dX3_goDeeper_43 ?_
    exact g_vret h hrt dX3_goDeeper_46 (by omega) rfl (if_pos n13)
  · refine g_top (b2_f n13) ?_
    refine g_if_eq (tgt := 37) h dX3_goDeeper_16 (by decide) (fun _ => ?_) (fun q => absurd q (by decide))
    refine g_aload_n h dX3_goDeeper_37 rfl rfl ?_
    refine g_iconst (v := nI 3) h dX3_goDeeper_38 (by decide) ?_
    refine g_V h lv_X3_110_X3 sh_160 (by decide) rfl (c_X3_push g (nI o) (nI (d + 1)) f L p w m hm (nI 3) u) (fitR hR (by decide) (by decide) (by omega)) rfl rfl (Nat.le_of_ble_eq_true rfl) dX3_goDeeper_39 ?_
    refine g_aload_n h dX3_goDeeper_42 rfl rfl ?_
    refine g_V h lv_X3_56_X3 sh_160 (by decide) rfl (c_X6_stepT_160 f L p w (lfS u (upd g m (nI 3)) (nI (m + 1)) (nI o) (nI (d + 1))) ((lf_oc (by decide) (by decide)).trans hf) hL hp) (fitR hR (by decide) (by decide) (by omega)) rfl rfl (Nat.le_of_ble_eq_true rfl) dX3_goDeeper_43 ?_
    exact g_vret h hrt dX3_goDeeper_46 (by omega) rfl (if_neg n13)
set_option maxHeartbeats 1000000 in
theorem c_X3_closeAll {E : EE} (g : Nat → Int32) (f : Nat → Int32) (L p : Nat) (w : Int32) (l n : Nat) (hl0 : 0 < l) (hl : l ≤ 12) (π : List Nat) (u : Sto) (hf : u 1 = f) (hL : L ≤ 400) (hp : p ≤ L) (hx : u 43 5 = nI l) (hn : u 45 l = nI n) (hs : stkN g π) (hg : gdL π) (hc6 : c3 π ≤ 6) (h9 : n + c9 π ≤ 400) : Ct E 3 0 yX3_closeAll cX3_closeAll 2 none [.ref (E.ad 160)] (LT u g (nI π.length) (nI (c0 π)) (nI (c3 π)) f L p w) (.inl none) ((LT (adW u l n (clG f L 6 p π []).2.2) g (nI (clG f L 6 p π []).2.1.length) (nI (c0 (clG f L 6 p π []).2.1)) (nI (c3 (clG f L 6 p π []).2.1)) f L (clG f L 6 p π []).1 w)) := by
  refine ct_of (by decide) (Nat.le_of_ble_eq_true rfl) (fun X h hR hrt htab hargs hini => ?_)
  have LP : ∀ (j i q : Nat) (σ : List Nat) (v : Sto) (n2 : Nat), i + j = 6 → q ≤ L → v 1 = f → v 43 5 = nI l → v 45 l = nI n2 → stkN g σ → gdL σ → c3 σ ≤ 6 → n2 + c9 σ ≤ 400 → (LT (adW u l n (clG f L 6 p π []).2.2) g (nI (clG f L 6 p π []).2.1.length) (nI (c0 (clG f L 6 p π []).2.1)) (nI (c3 (clG f L 6 p π []).2.1)) f L (clG f L 6 p π []).1 w) = LT (adW v l n2 (clG f L j q σ []).2.2) g (nI (clG f L j q σ []).2.1.length) (nI (c0 (clG f L j q σ []).2.1)) (nI (c3 (clG f L j q σ []).2.1)) f L (clG f L j q σ []).1 w → G E X (QM E X (.inl none) ((LT (adW u l n (clG f L 6 p π []).2.2) g (nI (clG f L 6 p π []).2.1.length) (nI (c0 (clG f L 6 p π []).2.1)) (nI (c3 (clG f L 6 p π []).2.1)) f L (clG f L 6 p π []).1 w)) 0) 2 0 2 [(0, .ref (E.ad 160)), (1, .int (nI i))] [] (LT v g (nI σ.length) (nI (c0 σ)) (nI (c3 σ)) f L q w) := by
    intro j
    induction j with
    | zero =>
      intro i q σ v n2 hij hq hf2 hxv hnv hst hgd h6 h9v hT
      have hc03 := c0_le (π := σ)
      refine g_iload_n h dX3_closeAll_2 rfl rfl ?_
      refine g_bipush (v := nI 6) h dX3_closeAll_3 (by decide) ?_
      refine g_icmp_ge (tgt := 69) h dX3_closeAll_5 (by decide) (fun c5 => ?_) (fun c5 => ?_)
      · have n5 := le_n (by omega) (by omega) (show nI (6) ≤ nI (i) from c5)
        exact g_vret h hrt dX3_closeAll_69 (by omega) rfl (by rw [hT]; rfl)
      · have n5 := nle_n (by omega) (by omega) (show ¬ nI (6) ≤ nI (i) from c5)
        omega
    | succ j ih =>
      intro i q σ v n2 hij hq hf2 hxv hnv hst hgd h6 h9v hT
      have hc03 := c0_le (π := σ)
      refine g_iload_n h dX3_closeAll_2 rfl rfl ?_
      refine g_bipush (v := nI 6) h dX3_closeAll_3 (by decide) ?_
      refine g_icmp_ge (tgt := 69) h dX3_closeAll_5 (by decide) (fun c5 => ?_) (fun c5 => ?_)
      · have n5 := le_n (by omega) (by omega) (show nI (6) ≤ nI (i) from c5)
        omega
      · have n5 := nle_n (by omega) (by omega) (show ¬ nI (6) ≤ nI (i) from c5)
        refine g_aload_n h dX3_closeAll_8 rfl rfl ?_
        refine g_getI h fl_X3_80_3 sh_160 (by decide) rfl dX3_closeAll_9 ?_
        refine g_top (tx_s (by decide)) ?_
        refine g_top lf_r10 ?_
        refine g_if_le (tgt := 69) h dX3_closeAll_12 (by decide) (fun c12 => ?_) (fun c12 => ?_)
        · have n12 := le_n (by omega) (by omega) (show nI (c0 σ) ≤ nI (0) from c12)
          exact g_vret h hrt dX3_closeAll_69 (by omega) rfl (by rw [hT, cl_f (fun z => by have := z.1; omega)]; rfl)
        · have n12 := nle_n (by omega) (by omega) (show ¬ nI (c0 σ) ≤ nI (0) from c12)
          have h0 : 0 < c0 σ := by omega
          obtain ⟨t, ht, hc0, hc9, hc3⟩ := un_0 h0
          have h99 := un_c9 (r := 1) (by decide) (π := σ)
          rw [ht] at h99
          have h33 := un_c3 (r := 1) (π := σ)
          rw [ht] at h33
          have hgt := un_gd (r := 1) hgd
          rw [ht] at hgt
          have hstt := un_st (r := 1) hst
          rw [ht] at hstt
          have hqn := (nx_b (f := f) hq).2
          refine g_aload_n h dX3_closeAll_15 rfl rfl ?_
          refine g_bipush (v := nI 41) h dX3_closeAll_16 (by decide) ?_
          refine g_V h lv_X3_88_X3 sh_160 (by decide) rfl (c_X6_atSign_160 f L q w (nI 41) (lfS v g (nI σ.length) (nI (c0 σ)) (nI (c3 σ))) ((lf_oc (by decide) (by decide)).trans hf2) hL hq) (fitR hR (by decide) (by decide) (by omega)) rfl rfl (Nat.le_of_ble_eq_true rfl) dX3_closeAll_18 ?_
          by_cases n18 : sgP f L q (nI 41)
          · refine g_top (b2_t n18) ?_
            refine g_if_eq (tgt := 69) h dX3_closeAll_21 (by decide) (fun q => absurd q (by decide)) (fun _ => ?_)
            refine g_aload_n h dX3_closeAll_24 rfl rfl ?_
            refine g_iconst (v := nI 1) h dX3_closeAll_25 (by decide) ?_
            refine g_V h lv_X3_113_X3 sh_160 (by decide) rfl (c_X3_unwind g (nI (c0 σ)) f L q w l n2 hl0 hl 1 (by decide) (by decide) σ v hxv hnv hst (by have := gd_40 hgd h6; omega) (gd_el hgd) h9v) (fitR hR (by decide) (by decide) (by omega)) rfl rfl (Nat.le_of_ble_eq_true rfl) dX3_closeAll_26 ?_
            refine g_aload_n h dX3_closeAll_29 rfl rfl ?_
            refine g_dup h dX3_closeAll_30 rfl ?_
            refine g_getI h fl_X3_76_3 sh_160 (by decide) rfl dX3_closeAll_31 ?_
            refine g_top (tx_s (by decide)) ?_
            refine g_top lf_r9 ?_
            refine g_iconst (v := nI 1) h dX3_closeAll_34 (by decide) ?_
            refine g_isub h dX3_closeAll_35 ?_
            refine g_top (y := nI t.length) (by rw [ht]; exact pk_sub (a := t.length + 1) (by omega)) ?_
            refine g_putI h pfl_X3_76_3 sh_160 (by decide) rfl dX3_closeAll_36 ?_
            refine g_sto (tx_su7 (by decide)) ?_
            refine g_sto (tx_in lf_w9) ?_
            refine g_aload_n h dX3_closeAll_39 rfl rfl ?_
            refine g_dup h dX3_closeAll_40 rfl ?_
            refine g_getI h fl_X3_80_3 sh_160 (by decide) rfl dX3_closeAll_41 ?_
            refine g_top (tx_s (by decide)) ?_
            refine g_top lf_r10 ?_
            refine g_iconst (v := nI 1) h dX3_closeAll_44 (by decide) ?_
            refine g_isub h dX3_closeAll_45 ?_
            refine g_top (y := nI (c0 t)) (by rw [hc0]; exact pk_sub (by omega)) ?_
            refine g_putI h pfl_X3_80_3 sh_160 (by decide) rfl dX3_closeAll_46 ?_
            refine g_sto (tx_su7 (by decide)) ?_
            refine g_sto (tx_in lf_w10) ?_
            refine g_aload_n h dX3_closeAll_49 rfl rfl ?_
            refine g_dup h dX3_closeAll_50 rfl ?_
            refine g_getI h fl_X3_83_3 sh_160 (by decide) rfl dX3_closeAll_51 ?_
            refine g_top (tx_s (by decide)) ?_
            refine g_top lf_r11 ?_
            refine g_iconst (v := nI 1) h dX3_closeAll_54 (by decide) ?_
            refine g_isub h dX3_closeAll_55 ?_
            refine g_top (y := nI (c3 t)) (by rw [ht, hc3]; exact pk_sub (by omega)) ?_
            refine g_putI h pfl_X3_83_3 sh_160 (by decide) rfl dX3_closeAll_56 ?_
            refine g_sto (tx_su7 (by decide)) ?_
            refine g_sto (tx_in lf_w11) ?_
            refine g_aload_n h dX3_closeAll_59 rfl rfl ?_
            refine g_V h lv_X3_56_X3 sh_160 (by decide) rfl (c_X6_stepT_160 f L q w (lfS (adW v l n2 (unW 1 σ).1) g (nI t.length) (nI (c0 t)) (nI (c3 t))) ((lf_oc (by decide) (by decide)).trans ((adW_c (by decide) (by decide) _ _ _ : _ = v 1).trans hf2)) hL hq) (fitR hR (by decide) (by decide) (by omega)) rfl rfl (Nat.le_of_ble_eq_true rfl) dX3_closeAll_60 ?_
            refine g_iinc (v := nI (i + 1)) (ls' := [(0, _), (1, _)]) h dX3_closeAll_63 rfl (nI_1 i) (by decide) rfl rfl ?_
            refine g_goto (tgt := 2) h dX3_closeAll_66 (by decide) ?_
            exact ih (i + 1) (nx f L q) t (adW v l n2 (unW 1 σ).1) (n2 + (unW 1 σ).1.length) (by omega) hqn (by rw [adW_c (by decide) (by decide)]; exact hf2) (by rw [adW_c (by decide) (by decide)]; exact hxv) (adW_n _ _ _ hnv (by omega)) hstt.2 hgt.1 (by omega) (by omega) (by rw [hT, cl_t ⟨h0, n18⟩, ht, adW_app]; rfl)
          · refine g_top (b2_f n18) ?_
            refine g_if_eq (tgt := 69) h dX3_closeAll_21 (by decide) (fun _ => ?_) (fun q => absurd q (by decide))
            exact g_vret h hrt dX3_closeAll_69 (by omega) rfl (by rw [hT, cl_f (fun z => n18 z.2)]; rfl)
  refine g_iconst (v := nI 0) h dX3_closeAll_0 (by decide) ?_
  refine g_istore_n (ls' := [(0, _), (1, _)]) h dX3_closeAll_1 rfl (by decide) rfl rfl ?_
  exact LP 6 0 p π u n rfl hp hf hx hn hs hg hc6 h9 rfl
set_option maxHeartbeats 1000000 in
theorem c_X3_joinOn {E : EE} (g : Nat → Int32) (b : Int32) (f : Nat → Int32) (L p : Nat) (w : Int32) (l n : Nat) (hl0 : 0 < l) (hl : l ≤ 12) (r : Nat) (hr0 : 0 < r) (hr3 : r ≤ 3) (π : List Nat) (u : Sto) (hf : u 1 = f) (hL : L ≤ 400) (hp : p ≤ L) (hx : u 43 5 = nI l) (hn : u 45 l = nI n) (hs : stkN g π) (hg : gdL π) (hc6 : c3 π ≤ 6) (h9 : n + c9 π ≤ 400) : Ct E 3 0 yX3_joinOn cX3_joinOn 2 none [.ref (E.ad 160), .int (nI r)] (LT u g (nI π.length) b (nI (c3 π)) f L p w) (.inl none) ((LT (adW u l n (unW r π).1) (upd g (unW r π).2.length (nI r)) (nI ((unW r π).2.length + 1)) b (nI (c3 (unW r π).2)) f L (nx f L p) w)) := by
  have h20 := gd_40 hg hc6
  have h21 := un_len (r := r) (π := π)
  refine ct_of (by decide) (Nat.le_of_ble_eq_true rfl) (fun X h hR hrt htab hargs hini => ?_)
  refine g_aload_n h dX3_joinOn_0 rfl rfl ?_
  refine g_iload_n h dX3_joinOn_1 rfl rfl ?_
  refine g_V h lv_X3_113_X3 sh_160 (by decide) rfl (c_X3_unwind g b f L p w l n hl0 hl r hr0 hr3 π u hx hn hs (by omega) (gd_el hg) h9) (fitR hR (by decide) (by decide) (by omega)) rfl rfl (Nat.le_of_ble_eq_true rfl) dX3_joinOn_2 ?_
  refine g_aload_n h dX3_joinOn_5 rfl rfl ?_
  refine g_iload_n h dX3_joinOn_6 rfl rfl ?_
  refine g_V h lv_X3_110_X3 sh_160 (by decide) rfl (c_X3_push g b (nI (c3 (unW r π).2)) f L p w (unW r π).2.length (by omega) (nI r) (adW u l n (unW r π).1)) (fitR hR (by decide) (by decide) (by omega)) rfl rfl (Nat.le_of_ble_eq_true rfl) dX3_joinOn_7 ?_
  refine g_aload_n h dX3_joinOn_10 rfl rfl ?_
  refine g_V h lv_X3_56_X3 sh_160 (by decide) rfl (c_X6_stepT_160 f L p w (lfS (adW u l n (unW r π).1) (upd g (unW r π).2.length (nI r)) (nI ((unW r π).2.length + 1)) b (nI (c3 (unW r π).2))) ((lf_oc (by decide) (by decide)).trans ((adW_c (by decide) (by decide) _ _ _ : _ = u 1).trans hf)) hL hp) (fitR hR (by decide) (by decide) (by omega)) rfl rfl (Nat.le_of_ble_eq_true rfl) dX3_joinOn_11 ?_
  exact g_vret h hrt dX3_joinOn_14 (by omega) rfl rfl
set_option maxHeartbeats 1000000 in
theorem c_X3_endCondition {E : EE} (g : Nat → Int32) (f : Nat → Int32) (L p : Nat) (w : Int32) (l n : Nat) (hl0 : 0 < l) (hl : l ≤ 12) (π : List Nat) (u : Sto) (hf : u 1 = f) (hL : L ≤ 400) (hp : p ≤ L) (hx : u 43 5 = nI l) (hn : u 45 l = nI n) (hs : stkN g π) (hg : gdL π) (hc6 : c3 π ≤ 6) (h9 : n + c9 π ≤ 400) : CtP E 3 0 yX3_endCondition cX3_endCondition 1 (some .boolean) [.ref (E.ad 160)] (LT u g (nI π.length) (nI (c0 π)) (nI (c3 π)) f L p w) (fun o s => (0 < c0 π ∧ FW u f L p o s) ∨ (¬ 0 < c0 π ∧ o = .inl (some (.int (nI 1))) ∧ ∃ a b c, s = LT (adW u l n (unW 1 π).1) g a b c f L p w)) := by
  have hc03 := c0_le (π := π)
  refine ctp_of (by decide) (Nat.le_of_ble_eq_true rfl) (fun X h hR hrt htab hargs => ?_)
  refine g_aload_n h dX3_endCondition_0 rfl rfl ?_
  refine g_getI h fl_X3_80_3 sh_160 (by decide) rfl dX3_endCondition_1 ?_
  refine g_top (tx_s (by decide)) ?_
  refine g_top lf_r10 ?_
  refine g_if_le (tgt := 12) h dX3_endCondition_4 (by decide) (fun c4 => ?_) (fun c4 => ?_)
  · have n4 := le_n (by omega) (by omega) (show nI (c0 π) ≤ nI (0) from c4)
    refine g_aload_n h dX3_endCondition_12 rfl rfl ?_
    refine g_iconst (v := nI 1) h dX3_endCondition_13 (by decide) ?_
    refine g_V h lv_X3_113_X3 sh_160 (by decide) rfl (c_X3_unwind g (nI (c0 π)) f L p w l n hl0 hl 1 (by decide) (by decide) π u hx hn hs (by have := gd_40 hg hc6; omega) (gd_el hg) h9) (fitR hR (by decide) (by decide) (by omega)) rfl rfl (Nat.le_of_ble_eq_true rfl) dX3_endCondition_14 ?_
    refine g_iconst (v := nI 1) h dX3_endCondition_17 (by decide) ?_
    exact g_zretP h hrt dX3_endCondition_18 (by omega) (by first | exact Or.inl rfl | exact Or.inr rfl | simp) (Or.inr ⟨by omega, rfl, _, _, _, rfl⟩)
  · have n4 := nle_n (by omega) (by omega) (show ¬ nI (c0 π) ≤ nI (0) from c4)
    refine g_aload_n h dX3_endCondition_7 rfl rfl ?_
    refine g_V h lv_X3_43_X3 sh_160 (by decide) rfl (c_X6_fail_160 f L p w (lfS u g (nI π.length) (nI (c0 π)) (nI (c3 π))) ((lf_oc (by decide) (by decide)).trans hf) hL hp) (fitR hR (by decide) (by decide) (by omega)) rfl rfl (Nat.le_of_ble_eq_true rfl) dX3_endCondition_8 ?_
    skip
    · skip
      exact g_zretP h hrt dX3_endCondition_11 (by omega) (by first | exact Or.inl rfl | exact Or.inr rfl | simp) (Or.inl ⟨by omega, rfl, _, _, _, _, _, _, dl.refl _, hp, rfl⟩)
