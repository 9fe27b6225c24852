def anyB (p : Nat → Bool) : Nat → Bool
  | 0 => false
  | n + 1 => anyB p n || p n
theorem anyB_of {p : Nat → Bool} {k : Nat} (h : p k = true) : ∀ {n : Nat}, k < n → anyB p n = true
  | 0, q => absurd q (by omega)
  | n + 1, q => by
    rw [anyB]
    by_cases e : k = n
    · rw [← e, h, Bool.or_true]
    · rw [anyB_of h (by omega), Bool.true_or]
theorem anyB_cong {p q : Nat → Bool} : ∀ {n : Nat}, (∀ k, k < n → p k = q k) → anyB p n = anyB q n
  | 0, _ => rfl
  | n + 1, h => by rw [anyB, anyB, anyB_cong (fun k hk => h k (by omega)), h n (by omega)]
theorem sc_sc (u : Sto) (k : Nat) (f g : Nat → Int32) : sc (sc u k f) k g = sc u k g := by
  funext a
  by_cases h : a = k
  · subst h; rw [sc_at, sc_at]
  · rw [sc_ne _ _ h, sc_ne _ _ h, sc_ne _ _ h]
theorem hld_sc (u : Sto) (f : Nat → Int32) (l : Nat) : hldB (sc u 24 f 25) (sc u 24 f) l = hldB (u 25) u l := by
  unfold hldB
  rw [sc_ne u f (show 25 ≠ 24 by decide), sc_ne u f (show 20 ≠ 24 by decide), sc_ne u f (show 21 ≠ 24 by decide)]
def brB (fa : Nat → Int32) (u : Sto) (n : Nat) : Bool := anyB (fun l => decide (u 22 l = 0) && hldB fa u l) n
def slI (fa : Nat → Int32) (u : Sto) (kd : Int32) (n : Nat) : Int32 := smI (fun l => if u 22 l = kd ∧ hldB fa u l = true then u 23 l else 0) n
theorem lw_h {u : Sto} {n k : Nat} (h : lwB u n) (hk : k < n) (f : Nat → Int32) : sc u 24 f 21 k = nI (ix (u 21 k)) ∧ sc u 24 f 21 (k + 1) = nI (ix (u 21 (k + 1))) ∧ ix (u 21 k) ≤ ix (u 21 (k + 1)) ∧ ix (u 21 (k + 1)) ≤ 400 := by
  obtain ⟨h1, h2, h3⟩ := h
  rw [sc_ne u f (show 21 ≠ 24 by decide)]
  exact ⟨(h2 k (by omega)).1, (h2 (k + 1) (by omega)).1, h3 k hk, (h2 (k + 1) (by omega)).2⟩
set_option maxHeartbeats 1000000 in
theorem c_X2_bars {E : EE} (n : Nat) (u : Sto) (hn : lwB u n) (hx : u 19 5 = nI n) : CtP E 3 0 yX2_bars cX2_bars 3 (some .boolean) [.ref (E.ad 19), .ref (E.ad 25)] u (P24 (some (.int (b2 (brB (u 25) u n = true)))) u) := by
  have hn12 := hn.1
  refine ctp_of (by decide) (Nat.le_of_ble_eq_true rfl) (fun X h hR hrt htab hargs => ?_)
  have LP : ∀ j k : Nat, ∀ f : Nat → Int32, anyB (fun l => decide (u 22 l = 0) && hldB (u 25) u l) k = false → n < k + j → k ≤ n → G E X (QMP E X (P24 (some (.int (b2 (brB (u 25) u n = true)))) u) 0) 3 0 2 [(0, .ref (E.ad 19)), (1, .ref (E.ad 25)), (2, .int (nI k))] [] (sc u 24 f) := by
    intro j
    induction j with
    | zero => intro k f hf h1 h2; omega
    | succ j ih =>
      intro k f hf h1 h2
      refine g_iload_n h dX2_bars_2 rfl rfl ?_
      refine g_aload_n h dX2_bars_3 rfl rfl ?_
      refine g_getI h fl_X2_27_2 sh_19 (by decide) rfl dX2_bars_4 ?_
      refine g_top (y := nI n) (by rw [sc_ne _ _ (by decide)]; exact hx) ?_
      refine g_icmp_ge (tgt := 36) h dX2_bars_7 (by decide) (fun c7 => ?_) (fun c7 => ?_)
      · have n7 := le_n (by omega) (by omega) (show nI (n) ≤ nI (k) from c7)
        obtain rfl : k = n := by omega
        refine g_iconst (v := nI 0) h dX2_bars_36 (by decide) ?_
        exact g_zretP h hrt dX2_bars_37 (by omega) (by first | exact Or.inl rfl | exact Or.inr rfl | simp) ⟨by rw [b2_f (show ¬ brB (u 25) u k = true by rw [brB, hf]; exact Bool.false_ne_true)], f, rfl⟩
      · have n7 := nle_n (by omega) (by omega) (show ¬ nI (n) ≤ nI (k) from c7)
        have lw := lw_h hn n7 f
        refine g_aload_n h dX2_bars_10 rfl rfl ?_
        refine g_getR h fl_X2_18_2 sh_19 (by decide) rfl dX2_bars_11 ?_
        refine g_iload_n h dX2_bars_14 rfl rfl ?_
        refine g_iald h _ _ _ sh_22 (by decide) (by decide) rfl (by omega) dX2_bars_15 ?_
        refine g_top (y := u 22 k) (by rw [sc_ne _ _ (by decide)]) ?_
        refine g_if_ne (tgt := 30) h dX2_bars_16 (by decide) (fun c16 => ?_) (fun c16 => ?_)
        · refine g_iinc (v := nI (k + 1)) (ls' := [(0, _), (1, _), (2, _)]) h dX2_bars_30 rfl (inc1 k) (by decide) rfl rfl ?_
          refine g_goto (tgt := 2) h dX2_bars_33 (by decide) ?_
          exact ih (k + 1) f (by rw [anyB, hf]; simp [c16]) (by omega) (by omega)
        · refine g_aload_n h dX2_bars_19 rfl rfl ?_
          refine g_iload_n h dX2_bars_20 rfl rfl ?_
          refine g_aload_n h dX2_bars_21 rfl rfl ?_
          refine g_VP h lv_X2_37_X2 sh_19 (by decide) rfl (c_X2_holds k _ _ (by omega) lw.2.2.1 lw.2.2.2 _ lw.1 lw.2.1) p24_nx (fitR hR (by decide) (by decide) (by omega)) rfl rfl (Nat.le_of_ble_eq_true rfl) dX2_bars_22 (fun v22 u22 hs22 => ?_)
          obtain ⟨hv22, hs22⟩ := hs22
          cases hv22
          obtain ⟨f2, rfl⟩ := hs22
          refine g_sto (sc_sc _ _ _ _) ?_
          refine g_top (y := b2 (hldB (u 25) u k = true)) (by rw [hld_sc]) ?_
          refine g_if_eq (tgt := 30) h dX2_bars_25 (by decide) (fun c25 => ?_) (fun c25 => ?_)
          · refine g_iinc (v := nI (k + 1)) (ls' := [(0, _), (1, _), (2, _)]) h dX2_bars_30 rfl (inc1 k) (by decide) rfl rfl ?_
            refine g_goto (tgt := 2) h dX2_bars_33 (by decide) ?_
            exact ih (k + 1) f2 (by rw [anyB, hf]; simp [b2_0.mp c25]) (by omega) (by omega)
          · refine g_iconst (v := nI 1) h dX2_bars_28 (by decide) ?_
            exact g_zretP h hrt dX2_bars_29 (by omega) (by first | exact Or.inl rfl | exact Or.inr rfl | simp) ⟨by rw [b2_t (show brB (u 25) u n = true from anyB_of (k := k) (by simp [c16, b2_n0.mp c25]) (by omega))], f2, rfl⟩
  refine g_iconst (v := nI 0) h dX2_bars_0 (by decide) ?_
  refine g_istore_n (ls' := [(0, _), (1, _), (2, _)]) h dX2_bars_1 rfl (by decide) rfl rfl ?_
  exact g_cv rfl (sc_self u 24).symm (LP (n + 1) 0 (u 24) rfl (by omega) (by omega))
set_option maxHeartbeats 1000000 in
theorem c_X2_sumOfLines {E : EE} (n : Nat) (kd : Int32) (u : Sto) (hn : lwB u n) (hx : u 19 5 = nI n) : CtP E 3 0 yX2_sumOfLines cX2_sumOfLines 5 (some .int) [.ref (E.ad 19), .int kd, .ref (E.ad 25)] u (P24 (some (.int (slI (u 25) u kd n))) u) := by
  have hn12 := hn.1
  refine ctp_of (by decide) (Nat.le_of_ble_eq_true rfl) (fun X h hR hrt htab hargs => ?_)
  have LP : ∀ j k : Nat, ∀ f : Nat → Int32, n < k + j → k ≤ n → G E X (QMP E X (P24 (some (.int (slI (u 25) u kd n))) u) 0) 5 0 5 [(0, .ref (E.ad 19)), (1, .int kd), (2, .ref (E.ad 25)), (3, .int (slI (u 25) u kd k)), (4, .int (nI k))] [] (sc u 24 f) := by
    intro j
    induction j with
    | zero => intro k f h1 h2; omega
    | succ j ih =>
      intro k f h1 h2
      refine g_iload h dX2_sumOfLines_5 rfl ?_
      refine g_aload_n h dX2_sumOfLines_7 rfl rfl ?_
      refine g_getI h fl_X2_27_2 sh_19 (by decide) rfl dX2_sumOfLines_8 ?_
      refine g_top (y := nI n) (by rw [sc_ne _ _ (by decide)]; exact hx) ?_
      refine g_icmp_ge (tgt := 51) h dX2_sumOfLines_11 (by decide) (fun c11 => ?_) (fun c11 => ?_)
      · have n11 := le_n (by omega) (by omega) (show nI (n) ≤ nI (k) from c11)
        obtain rfl : k = n := by omega
        refine g_iload_n h dX2_sumOfLines_51 rfl rfl ?_
        exact g_iretP h hrt dX2_sumOfLines_52 (by omega) ⟨rfl, f, rfl⟩
      · have n11 := nle_n (by omega) (by omega) (show ¬ nI (n) ≤ nI (k) from c11)
        have lw := lw_h hn n11 f
        refine g_aload_n h dX2_sumOfLines_14 rfl rfl ?_
        refine g_getR h fl_X2_18_2 sh_19 (by decide) rfl dX2_sumOfLines_15 ?_
        refine g_iload h dX2_sumOfLines_18 rfl ?_
        refine g_iald h _ _ _ sh_22 (by decide) (by decide) rfl (by omega) dX2_sumOfLines_20 ?_
        refine g_top (y := u 22 k) (by rw [sc_ne _ _ (by decide)]) ?_
        refine g_iload_n h dX2_sumOfLines_21 rfl rfl ?_
        refine g_icmp_ne (tgt := 45) h dX2_sumOfLines_22 (by decide) (fun c22 => ?_) (fun c22 => ?_)
        · refine g_iinc (v := nI (k + 1)) (ls' := [(0, _), (1, _), (2, _), (3, _), (4, _)]) h dX2_sumOfLines_45 rfl (inc1 k) (by decide) rfl rfl ?_
          refine g_goto (tgt := 5) h dX2_sumOfLines_48 (by decide) ?_
          exact g_cv (by rw [slI, slI, smI]; simp [c22]) rfl (ih (k + 1) f (by omega) (by omega))
        · refine g_aload_n h dX2_sumOfLines_25 rfl rfl ?_
          refine g_iload h dX2_sumOfLines_26 rfl ?_
          refine g_aload_n h dX2_sumOfLines_28 rfl rfl ?_
          refine g_VP h lv_X2_37_X2 sh_19 (by decide) rfl (c_X2_holds k _ _ (by omega) lw.2.2.1 lw.2.2.2 _ lw.1 lw.2.1) p24_nx (fitR hR (by decide) (by decide) (by omega)) rfl rfl (Nat.le_of_ble_eq_true rfl) dX2_sumOfLines_29 (fun v29 u29 hs29 => ?_)
          obtain ⟨hv29, hs29⟩ := hs29
          cases hv29
          obtain ⟨f2, rfl⟩ := hs29
          refine g_sto (sc_sc _ _ _ _) ?_
          refine g_top (y := b2 (hldB (u 25) u k = true)) (by rw [hld_sc]) ?_
          refine g_if_eq (tgt := 45) h dX2_sumOfLines_32 (by decide) (fun c32 => ?_) (fun c32 => ?_)
          · refine g_iinc (v := nI (k + 1)) (ls' := [(0, _), (1, _), (2, _), (3, _), (4, _)]) h dX2_sumOfLines_45 rfl (inc1 k) (by decide) rfl rfl ?_
            refine g_goto (tgt := 5) h dX2_sumOfLines_48 (by decide) ?_
            exact g_cv (by rw [slI, slI, smI]; simp [b2_0.mp c32]) rfl (ih (k + 1) f2 (by omega) (by omega))
          · refine g_iload_n h dX2_sumOfLines_35 rfl rfl ?_
            refine g_aload_n h dX2_sumOfLines_36 rfl rfl ?_
            refine g_getR h fl_X2_21_2 sh_19 (by decide) rfl dX2_sumOfLines_37 ?_
            refine g_iload h dX2_sumOfLines_40 rfl ?_
            refine g_iald h _ _ _ sh_23 (by decide) (by decide) rfl (by omega) dX2_sumOfLines_42 ?_
            refine g_top (y := u 23 k) (by rw [sc_ne _ _ (by decide)]) ?_
            refine g_iadd h dX2_sumOfLines_43 ?_
            refine g_istore_n (ls' := [(0, _), (1, _), (2, _), (3, _), (4, _)]) h dX2_sumOfLines_44 rfl (by decide) rfl rfl ?_
            refine g_iinc (v := nI (k + 1)) (ls' := [(0, _), (1, _), (2, _), (3, _), (4, _)]) h dX2_sumOfLines_45 rfl (inc1 k) (by decide) rfl rfl ?_
            refine g_goto (tgt := 5) h dX2_sumOfLines_48 (by decide) ?_
            exact g_cv (by rw [slI, slI, smI]; simp [c22, b2_n0.mp c32]) rfl (ih (k + 1) f2 (by omega) (by omega))
  refine g_iconst (v := nI 0) h dX2_sumOfLines_0 (by decide) ?_
  refine g_istore_n (ls' := [(0, _), (1, _), (2, _), (3, _)]) h dX2_sumOfLines_1 rfl (by decide) rfl rfl ?_
  refine g_iconst (v := nI 0) h dX2_sumOfLines_2 (by decide) ?_
  refine g_istore (ls' := [(0, _), (1, _), (2, _), (3, _), (4, _)]) h dX2_sumOfLines_3 (by decide) rfl rfl ?_
  exact g_cv rfl (sc_self u 24).symm (LP (n + 1) 0 (u 24) (by omega) (by omega))
set_option maxHeartbeats 1000000 in
theorem c_X9_isChild {E : EE} (a : Nat) (ha : a < 10) (u : Sto) : Ct E 1 0 yX9_isChild cX9_isChild 2 (some .boolean) [.ref (E.ad 2), .int (nI a)] u (.inl (some (.int (b2 (¬ u 13 a = -1))))) (u) := by
  refine ct_of (by decide) (Nat.le_of_ble_eq_true rfl) (fun X h hR hrt htab hargs hini => ?_)
  refine g_aload_n h dX9_isChild_0 rfl rfl ?_
  refine g_getR h fl_X9_21_8 sh_2 (by decide) rfl dX9_isChild_1 ?_
  refine g_getR h fl_X9_46_4 sh_10 (by decide) rfl dX9_isChild_4 ?_
  refine g_iload_n h dX9_isChild_7 rfl rfl ?_
  refine g_iald h _ _ _ sh_13 (by decide) (by decide) rfl (by omega) dX9_isChild_8 ?_
  refine g_iconst (v := -1) h dX9_isChild_9 (by decide) ?_
  refine g_icmp_eq (tgt := 17) h dX9_isChild_10 (by decide) (fun c10 => ?_) (fun c10 => ?_)
  · refine g_iconst (v := nI 0) h dX9_isChild_17 (by decide) ?_
    exact g_zret h hrt dX9_isChild_18 (by omega) (by first | exact Or.inl rfl | exact Or.inr rfl | simp) (by simp_all [b2]) rfl
  · refine g_iconst (v := nI 1) h dX9_isChild_13 (by decide) ?_
    refine g_goto (tgt := 18) h dX9_isChild_14 (by decide) ?_
    exact g_zret h hrt dX9_isChild_18 (by omega) (by first | exact Or.inl rfl | exact Or.inr rfl | simp) (by simp_all [b2]) rfl
def hmI (u : Sto) (a : Nat) : Int32 := if u 13 a = -1 then nI a else u 13 a
set_option maxHeartbeats 1000000 in
theorem c_X9_homeOf {E : EE} (a : Nat) (ha : a < 10) (u : Sto) : Ct E 2 0 yX9_homeOf cX9_homeOf 2 (some .int) [.ref (E.ad 2), .int (nI a)] u (.inl (some (.int (hmI u a)))) (u) := by
  refine ct_of (by decide) (Nat.le_of_ble_eq_true rfl) (fun X h hR hrt htab hargs hini => ?_)
  refine g_aload_n h dX9_homeOf_0 rfl rfl ?_
  refine g_iload_n h dX9_homeOf_1 rfl rfl ?_
  refine g_V h lv_X9_49_X9 sh_2 (by decide) rfl (c_X9_isChild _ (by omega) _) (fitR hR (by decide) (by decide) (by omega)) rfl rfl (Nat.le_of_ble_eq_true rfl) dX9_homeOf_2 ?_
  refine g_if_eq (tgt := 20) h dX9_homeOf_5 (by decide) (fun c5 => ?_) (fun c5 => ?_)
  · refine g_iload_n h dX9_homeOf_20 rfl rfl ?_
    exact g_iret h hrt dX9_homeOf_21 (by omega) (by simp_all [hmI, b2_0]) rfl
  · refine g_aload_n h dX9_homeOf_8 rfl rfl ?_
    refine g_getR h fl_X9_21_8 sh_2 (by decide) rfl dX9_homeOf_9 ?_
    refine g_getR h fl_X9_46_4 sh_10 (by decide) rfl dX9_homeOf_12 ?_
    refine g_iload_n h dX9_homeOf_15 rfl rfl ?_
    refine g_iald h _ _ _ sh_13 (by decide) (by decide) rfl (by omega) dX9_homeOf_16 ?_
    refine g_goto (tgt := 21) h dX9_homeOf_17 (by decide) ?_
    exact g_iret h hrt dX9_homeOf_21 (by omega) (by simp_all [hmI, b2_0]) rfl
set_option maxHeartbeats 1000000 in
theorem c_X9_isFree {E : EE} (r : Nat) (hr : r < 168) (u : Sto) : Ct E 1 0 yX9_isFree cX9_isFree 2 (some .boolean) [.ref (E.ad 2), .int (nI r)] u (.inl (some (.int (b2 (u 4 r = -1 ∧ u 14 r = 0))))) (u) := by
  refine ct_of (by decide) (Nat.le_of_ble_eq_true rfl) (fun X h hR hrt htab hargs hini => ?_)
  refine g_aload_n h dX9_isFree_0 rfl rfl ?_
  refine g_getR h fl_X9_12_8 sh_2 (by decide) rfl dX9_isFree_1 ?_
  refine g_getR h fl_X9_64_6 sh_3 (by decide) rfl dX9_isFree_4 ?_
  refine g_iload_n h dX9_isFree_7 rfl rfl ?_
  refine g_iald h _ _ _ sh_4 (by decide) (by decide) rfl (by omega) dX9_isFree_8 ?_
  refine g_iconst (v := -1) h dX9_isFree_9 (by decide) ?_
  refine g_icmp_ne (tgt := 29) h dX9_isFree_10 (by decide) (fun c10 => ?_) (fun c10 => ?_)
  · refine g_iconst (v := nI 0) h dX9_isFree_29 (by decide) ?_
    exact g_zret h hrt dX9_isFree_30 (by omega) (by first | exact Or.inl rfl | exact Or.inr rfl | simp) (by simp_all [b2]) rfl
  · refine g_aload_n h dX9_isFree_13 rfl rfl ?_
    refine g_getR h fl_X9_21_8 sh_2 (by decide) rfl dX9_isFree_14 ?_
    refine g_getR h fl_X9_108_4 sh_10 (by decide) rfl dX9_isFree_17 ?_
    refine g_iload_n h dX9_isFree_20 rfl rfl ?_
    refine g_iald h _ _ _ sh_14 (by decide) (by decide) rfl (by omega) dX9_isFree_21 ?_
    refine g_if_ne (tgt := 29) h dX9_isFree_22 (by decide) (fun c22 => ?_) (fun c22 => ?_)
    · refine g_iconst (v := nI 0) h dX9_isFree_29 (by decide) ?_
      exact g_zret h hrt dX9_isFree_30 (by omega) (by first | exact Or.inl rfl | exact Or.inr rfl | simp) (by simp_all [b2]) rfl
    · refine g_iconst (v := nI 1) h dX9_isFree_25 (by decide) ?_
      refine g_goto (tgt := 30) h dX9_isFree_26 (by decide) ?_
      exact g_zret h hrt dX9_isFree_30 (by omega) (by first | exact Or.inl rfl | exact Or.inr rfl | simp) (by simp_all [b2]) rfl
def pyS (u : Sto) (a : Nat) (x : Int32) : Sto := su (su u 7 a (u 7 a - x)) 3 8 (u 3 8 + x)
set_option maxHeartbeats 1000000 in
theorem c_X9_pay {E : EE} (a : Nat) (ha : a < 10) (x : Int32) (u : Sto) : Ct E 1 0 yX9_pay cX9_pay 3 none [.ref (E.ad 2), .int (nI a), .int x] u (.inl none) (pyS u a x) := by
  refine ct_of (by decide) (Nat.le_of_ble_eq_true rfl) (fun X h hR hrt htab hargs hini => ?_)
  refine g_aload_n h dX9_pay_0 rfl rfl ?_
  refine g_getR h fl_X9_12_8 sh_2 (by decide) rfl dX9_pay_1 ?_
  refine g_getR h fl_X9_74_6 sh_3 (by decide) rfl dX9_pay_4 ?_
  refine g_iload_n h dX9_pay_7 rfl rfl ?_
  refine g_dup2 h dX9_pay_8 rfl rfl ?_
  refine g_iald h _ _ _ sh_7 (by decide) (by decide) rfl (by omega) dX9_pay_9 ?_
  refine g_iload_n h dX9_pay_10 rfl rfl ?_
  refine g_isub h dX9_pay_11 ?_
  refine g_iast h _ _ _ sh_7 (by decide) (by decide) rfl (by omega) dX9_pay_12 ?_
  refine g_aload_n h dX9_pay_13 rfl rfl ?_
  refine g_getR h fl_X9_12_8 sh_2 (by decide) rfl dX9_pay_14 ?_
  refine g_dup h dX9_pay_17 rfl ?_
  refine g_getI h fl_X9_125_6 sh_3 (by decide) rfl dX9_pay_18 ?_
  refine g_iload_n h dX9_pay_21 rfl rfl ?_
  refine g_iadd h dX9_pay_22 ?_
  refine g_putI h pfl_X9_125_6 sh_3 (by decide) rfl dX9_pay_23 ?_
  exact g_vret h hrt dX9_pay_26 (by omega) rfl rfl
set_option maxHeartbeats 1000000 in
theorem c_X9_livedIn {E : EE} (x : Int32) (u : Sto) : Ct E 2 0 yX9_livedIn cX9_livedIn 4 (some .int) [.ref (E.ad 2), .int x] u (.inl (some (.int (ctI (fun r => decide (lvT u 3 r = x)) 168)))) (u) := by
  refine ct_of (by decide) (Nat.le_of_ble_eq_true rfl) (fun X h hR hrt htab hargs hini => ?_)
  have LP : ∀ j k : Nat, 168 < k + j → k ≤ 168 → G E X (QM E X (.inl (some (.int (ctI (fun r => decide (lvT u 3 r = x)) 168)))) (u) 0) 4 0 4 [(0, .ref (E.ad 2)), (1, .int x), (2, .int (ctI (fun r => decide (lvT u 3 r = x)) k)), (3, .int (nI k))] [] (u) := by
    intro j
    induction j with
    | zero => intro k h1 h2; omega
    | succ j ih =>
      intro k h1 h2
      refine g_iload_n h dX9_livedIn_4 rfl rfl ?_
      refine g_sipush (v := nI 168) h dX9_livedIn_5 (by decide) ?_
      refine g_icmp_ge (tgt := 32) h dX9_livedIn_8 (by decide) (fun c8 => ?_) (fun c8 => ?_)
      · have n8 := le_n (by omega) (by omega) (show nI (168) ≤ nI (k) from c8)
        obtain rfl : k = 168 := by omega
        refine g_iload_n h dX9_livedIn_32 rfl rfl ?_
        exact g_iret h hrt dX9_livedIn_33 (by omega) (by rfl) rfl
      · have n8 := nle_n (by omega) (by omega) (show ¬ nI (168) ≤ nI (k) from c8)
        refine g_aload_n h dX9_livedIn_11 rfl rfl ?_
        refine g_getR h fl_X9_12_8 sh_2 (by decide) rfl dX9_livedIn_12 ?_
        refine g_iload_n h dX9_livedIn_15 rfl rfl ?_
        refine g_V h lv_X9_57_X7 sh_3 (by decide) rfl (c_X7_livesIn 3 (by decide) _ (by omega) _) (fitR hR (by decide) (by decide) (by omega)) rfl rfl (Nat.le_of_ble_eq_true rfl) dX9_livedIn_16 ?_
        refine g_iload_n h dX9_livedIn_19 rfl rfl ?_
        refine g_icmp_ne (tgt := 26) h dX9_livedIn_20 (by decide) (fun c20 => ?_) (fun c20 => ?_)
        · refine g_iinc (v := nI (k + 1)) (ls' := [(0, _), (1, _), (2, _), (3, _)]) h dX9_livedIn_26 rfl (inc1 k) (by decide) rfl rfl ?_
          refine g_goto (tgt := 4) h dX9_livedIn_29 (by decide) ?_
          exact g_cv (by rw [ctI]; simp [c20, ofI1]) rfl (ih (k + 1) (by omega) (by omega))
        · refine g_iinc (ls' := [(0, _), (1, _), (2, _), (3, _)]) h dX9_livedIn_23 rfl rfl (by decide) rfl rfl ?_
          refine g_iinc (v := nI (k + 1)) (ls' := [(0, _), (1, _), (2, _), (3, _)]) h dX9_livedIn_26 rfl (inc1 k) (by decide) rfl rfl ?_
          refine g_goto (tgt := 4) h dX9_livedIn_29 (by decide) ?_
          exact g_cv (by rw [ctI]; simp [c20, ofI1]) rfl (ih (k + 1) (by omega) (by omega))
  refine g_iconst (v := nI 0) h dX9_livedIn_0 (by decide) ?_
  refine g_istore_n (ls' := [(0, _), (1, _), (2, _)]) h dX9_livedIn_1 rfl (by decide) rfl rfl ?_
  refine g_iconst (v := nI 0) h dX9_livedIn_2 (by decide) ?_
  refine g_istore_n (ls' := [(0, _), (1, _), (2, _), (3, _)]) h dX9_livedIn_3 rfl (by decide) rfl rfl ?_
  exact LP (168 + 1) (0) (by omega) (by omega)
set_option maxHeartbeats 1000000 in
theorem c_X9_subletRooms {E : EE}  (u : Sto) : Ct E 1 0 yX9_subletRooms cX9_subletRooms 3 (some .int) [.ref (E.ad 2)] u (.inl (some (.int (ctI (fun r => decide (¬ u 5 r = -1)) 168)))) (u) := by
  refine ct_of (by decide) (Nat.le_of_ble_eq_true rfl) (fun X h hR hrt htab hargs hini => ?_)
  have LP : ∀ j k : Nat, 168 < k + j → k ≤ 168 → G E X (QM E X (.inl (some (.int (ctI (fun r => decide (¬ u 5 r = -1)) 168)))) (u) 0) 3 0 4 [(0, .ref (E.ad 2)), (1, .int (ctI (fun r => decide (¬ u 5 r = -1)) k)), (2, .int (nI k))] [] (u) := by
    intro j
    induction j with
    | zero => intro k h1 h2; omega
    | succ j ih =>
      intro k h1 h2
      refine g_iload_n h dX9_subletRooms_4 rfl rfl ?_
      refine g_sipush (v := nI 168) h dX9_subletRooms_5 (by decide) ?_
      refine g_icmp_ge (tgt := 33) h dX9_subletRooms_8 (by decide) (fun c8 => ?_) (fun c8 => ?_)
      · have n8 := le_n (by omega) (by omega) (show nI (168) ≤ nI (k) from c8)
        obtain rfl : k = 168 := by omega
        refine g_iload_n h dX9_subletRooms_33 rfl rfl ?_
        exact g_iret h hrt dX9_subletRooms_34 (by omega) (by rfl) rfl
      · have n8 := nle_n (by omega) (by omega) (show ¬ nI (168) ≤ nI (k) from c8)
        refine g_aload_n h dX9_subletRooms_11 rfl rfl ?_
        refine g_getR h fl_X9_12_8 sh_2 (by decide) rfl dX9_subletRooms_12 ?_
        refine g_getR h fl_X9_61_6 sh_3 (by decide) rfl dX9_subletRooms_15 ?_
        refine g_iload_n h dX9_subletRooms_18 rfl rfl ?_
        refine g_iald h _ _ _ sh_5 (by decide) (by decide) rfl (by omega) dX9_subletRooms_19 ?_
        refine g_iconst (v := -1) h dX9_subletRooms_20 (by decide) ?_
        refine g_icmp_eq (tgt := 27) h dX9_subletRooms_21 (by decide) (fun c21 => ?_) (fun c21 => ?_)
        · refine g_iinc (v := nI (k + 1)) (ls' := [(0, _), (1, _), (2, _)]) h dX9_subletRooms_27 rfl (inc1 k) (by decide) rfl rfl ?_
          refine g_goto (tgt := 4) h dX9_subletRooms_30 (by decide) ?_
          exact g_cv (by rw [ctI]; simp [c21, ofI1]) rfl (ih (k + 1) (by omega) (by omega))
        · refine g_iinc (ls' := [(0, _), (1, _), (2, _)]) h dX9_subletRooms_24 rfl rfl (by decide) rfl rfl ?_
          refine g_iinc (v := nI (k + 1)) (ls' := [(0, _), (1, _), (2, _)]) h dX9_subletRooms_27 rfl (inc1 k) (by decide) rfl rfl ?_
          refine g_goto (tgt := 4) h dX9_subletRooms_30 (by decide) ?_
          exact g_cv (by rw [ctI]; simp [c21, ofI1]) rfl (ih (k + 1) (by omega) (by omega))
  refine g_iconst (v := nI 0) h dX9_subletRooms_0 (by decide) ?_
  refine g_istore_n (ls' := [(0, _), (1, _)]) h dX9_subletRooms_1 rfl (by decide) rfl rfl ?_
  refine g_iconst (v := nI 0) h dX9_subletRooms_2 (by decide) ?_
  refine g_istore_n (ls' := [(0, _), (1, _), (2, _)]) h dX9_subletRooms_3 rfl (by decide) rfl rfl ?_
  exact LP (168 + 1) (0) (by omega) (by omega)
set_option maxHeartbeats 1000000 in
theorem c_X9_goodsOfAll {E : EE} (x : Int32) (u : Sto) : Ct E 2 0 yX9_goodsOfAll cX9_goodsOfAll 4 (some .int) [.ref (E.ad 2), .int x] u (.inl (some (.int (smI (fun r => if lvT u 3 r = x then u 6 r else 0) 168)))) (u) := by
  refine ct_of (by decide) (Nat.le_of_ble_eq_true rfl) (fun X h hR hrt htab hargs hini => ?_)
  have LP : ∀ j k : Nat, 168 < k + j → k ≤ 168 → G E X (QM E X (.inl (some (.int (smI (fun r => if lvT u 3 r = x then u 6 r else 0) 168)))) (u) 0) 4 0 4 [(0, .ref (E.ad 2)), (1, .int x), (2, .int (smI (fun r => if lvT u 3 r = x then u 6 r else 0) k)), (3, .int (nI k))] [] (u) := by
    intro j
    induction j with
    | zero => intro k h1 h2; omega
    | succ j ih =>
      intro k h1 h2
      refine g_iload_n h dX9_goodsOfAll_4 rfl rfl ?_
      refine g_sipush (v := nI 168) h dX9_goodsOfAll_5 (by decide) ?_
      refine g_icmp_ge (tgt := 41) h dX9_goodsOfAll_8 (by decide) (fun c8 => ?_) (fun c8 => ?_)
      · have n8 := le_n (by omega) (by omega) (show nI (168) ≤ nI (k) from c8)
        obtain rfl : k = 168 := by omega
        refine g_iload_n h dX9_goodsOfAll_41 rfl rfl ?_
        exact g_iret h hrt dX9_goodsOfAll_42 (by omega) (by rfl) rfl
      · have n8 := nle_n (by omega) (by omega) (show ¬ nI (168) ≤ nI (k) from c8)
        refine g_aload_n h dX9_goodsOfAll_11 rfl rfl ?_
        refine g_getR h fl_X9_12_8 sh_2 (by decide) rfl dX9_goodsOfAll_12 ?_
        refine g_iload_n h dX9_goodsOfAll_15 rfl rfl ?_
        refine g_V h lv_X9_57_X7 sh_3 (by decide) rfl (c_X7_livesIn 3 (by decide) _ (by omega) _) (fitR hR (by decide) (by decide) (by omega)) rfl rfl (Nat.le_of_ble_eq_true rfl) dX9_goodsOfAll_16 ?_
        refine g_iload_n h dX9_goodsOfAll_19 rfl rfl ?_
        refine g_icmp_ne (tgt := 35) h dX9_goodsOfAll_20 (by decide) (fun c20 => ?_) (fun c20 => ?_)
        · refine g_iinc (v := nI (k + 1)) (ls' := [(0, _), (1, _), (2, _), (3, _)]) h dX9_goodsOfAll_35 rfl (inc1 k) (by decide) rfl rfl ?_
          refine g_goto (tgt := 4) h dX9_goodsOfAll_38 (by decide) ?_
          exact g_cv (by rw [smI]; simp [c20]) rfl (ih (k + 1) (by omega) (by omega))
        · refine g_iload_n h dX9_goodsOfAll_23 rfl rfl ?_
          refine g_aload_n h dX9_goodsOfAll_24 rfl rfl ?_
          refine g_getR h fl_X9_12_8 sh_2 (by decide) rfl dX9_goodsOfAll_25 ?_
          refine g_getR h fl_X9_71_6 sh_3 (by decide) rfl dX9_goodsOfAll_28 ?_
          refine g_iload_n h dX9_goodsOfAll_31 rfl rfl ?_
          refine g_iald h _ _ _ sh_6 (by decide) (by decide) rfl (by omega) dX9_goodsOfAll_32 ?_
          refine g_iadd h dX9_goodsOfAll_33 ?_
          refine g_istore_n (ls' := [(0, _), (1, _), (2, _), (3, _)]) h dX9_goodsOfAll_34 rfl (by decide) rfl rfl ?_
          refine g_iinc (v := nI (k + 1)) (ls' := [(0, _), (1, _), (2, _), (3, _)]) h dX9_goodsOfAll_35 rfl (inc1 k) (by decide) rfl rfl ?_
          refine g_goto (tgt := 4) h dX9_goodsOfAll_38 (by decide) ?_
          exact g_cv (by rw [smI]; simp [c20]) rfl (ih (k + 1) (by omega) (by omega))
  refine g_iconst (v := nI 0) h dX9_goodsOfAll_0 (by decide) ?_
  refine g_istore_n (ls' := [(0, _), (1, _), (2, _)]) h dX9_goodsOfAll_1 rfl (by decide) rfl rfl ?_
  refine g_iconst (v := nI 0) h dX9_goodsOfAll_2 (by decide) ?_
  refine g_istore_n (ls' := [(0, _), (1, _), (2, _), (3, _)]) h dX9_goodsOfAll_3 rfl (by decide) rfl rfl ?_
  exact LP (168 + 1) (0) (by omega) (by omega)
def bitI (x : Int32) (k : Nat) : Int32 := (x.toUInt32 >>> ((nI k).toUInt32 &&& Int32.toUInt32 31)).toInt32 &&& nI 1
def one (k : Nat) : Int32 := nI 1 <<< (nI k &&& 31)
/-- those of a set that are tenants and no children -/
def guI (u : Sto) (x : Int32) : Nat → Int32
  | 0 => nI 0
  | k + 1 => if ¬ bitI x k = 0 ∧ u 13 k = -1 then guI u x k ||| one k else guI u x k
set_option maxHeartbeats 1000000 in
theorem c_X9_grownUps {E : EE} (T : Nat) (hT9 : T ≤ 10) (x : Int32) (u : Sto) (hT : u 10 8 = nI T) : Ct E 2 0 yX9_grownUps cX9_grownUps 4 (some .int) [.ref (E.ad 2), .int x] u (.inl (some (.int (guI u x T)))) (u) := by
  refine ct_of (by decide) (Nat.le_of_ble_eq_true rfl) (fun X h hR hrt htab hargs hini => ?_)
  have LP : ∀ j k : Nat, T < k + j → k ≤ T → G E X (QM E X (.inl (some (.int (guI u x T)))) (u) 0) 4 0 4 [(0, .ref (E.ad 2)), (1, .int x), (2, .int (guI u x k)), (3, .int (nI k))] [] (u) := by
    intro j
    induction j with
    | zero => intro k h1 h2; omega
    | succ j ih =>
      intro k h1 h2
      refine g_iload_n h dX9_grownUps_4 rfl rfl ?_
      refine g_aload_n h dX9_grownUps_5 rfl rfl ?_
      refine g_getR h fl_X9_21_8 sh_2 (by decide) rfl dX9_grownUps_6 ?_
      refine g_getI h fl_X9_53_4 sh_10 (by decide) rfl dX9_grownUps_9 ?_
      refine g_top hT ?_
      refine g_icmp_ge (tgt := 43) h dX9_grownUps_12 (by decide) (fun c12 => ?_) (fun c12 => ?_)
      · have n12 := le_n (by omega) (by omega) (show nI (T) ≤ nI (k) from c12)
        obtain rfl : k = T := by omega
        refine g_iload_n h dX9_grownUps_43 rfl rfl ?_
        exact g_iret h hrt dX9_grownUps_44 (by omega) (by rfl) rfl
      · have n12 := nle_n (by omega) (by omega) (show ¬ nI (T) ≤ nI (k) from c12)
        refine g_iload_n h dX9_grownUps_15 rfl rfl ?_
        refine g_iload_n h dX9_grownUps_16 rfl rfl ?_
        refine g_iushr h dX9_grownUps_17 ?_
        refine g_iconst (v := nI 1) h dX9_grownUps_18 (by decide) ?_
        refine g_iand h dX9_grownUps_19 ?_
        refine g_top (y := bitI x k) rfl ?_
        refine g_if_eq (tgt := 37) h dX9_grownUps_20 (by decide) (fun c20 => ?_) (fun c20 => ?_)
        · refine g_iinc (v := nI (k + 1)) (ls' := [(0, _), (1, _), (2, _), (3, _)]) h dX9_grownUps_37 rfl (inc1 k) (by decide) rfl rfl ?_
          refine g_goto (tgt := 4) h dX9_grownUps_40 (by decide) ?_
          exact g_cv (by rw [guI]; simp [c20]) rfl (ih (k + 1) (by omega) (by omega))
        · refine g_aload_n h dX9_grownUps_23 rfl rfl ?_
          refine g_iload_n h dX9_grownUps_24 rfl rfl ?_
          refine g_V h lv_X9_49_X9 sh_2 (by decide) rfl (c_X9_isChild _ (by omega) _) (fitR hR (by decide) (by decide) (by omega)) rfl rfl (Nat.le_of_ble_eq_true rfl) dX9_grownUps_25 ?_
          refine g_if_ne (tgt := 37) h dX9_grownUps_28 (by decide) (fun c28 => ?_) (fun c28 => ?_)
          · refine g_iinc (v := nI (k + 1)) (ls' := [(0, _), (1, _), (2, _), (3, _)]) h dX9_grownUps_37 rfl (inc1 k) (by decide) rfl rfl ?_
            refine g_goto (tgt := 4) h dX9_grownUps_40 (by decide) ?_
            exact g_cv (by rw [guI]; simp [b2_n0.mp c28]) rfl (ih (k + 1) (by omega) (by omega))
          · refine g_iload_n h dX9_grownUps_31 rfl rfl ?_
            refine g_iconst (v := nI 1) h dX9_grownUps_32 (by decide) ?_
            refine g_iload_n h dX9_grownUps_33 rfl rfl ?_
            refine g_ishl h dX9_grownUps_34 ?_
            refine g_ior h dX9_grownUps_35 ?_
            refine g_istore_n (ls' := [(0, _), (1, _), (2, _), (3, _)]) h dX9_grownUps_36 rfl (by decide) rfl rfl ?_
            refine g_iinc (v := nI (k + 1)) (ls' := [(0, _), (1, _), (2, _), (3, _)]) h dX9_grownUps_37 rfl (inc1 k) (by decide) rfl rfl ?_
            refine g_goto (tgt := 4) h dX9_grownUps_40 (by decide) ?_
            exact g_cv (by rw [guI]; simp [c20, Decidable.not_not.mp (b2_0.mp c28), one]) rfl (ih (k + 1) (by omega) (by omega))
  refine g_iconst (v := nI 0) h dX9_grownUps_0 (by decide) ?_
  refine g_istore_n (ls' := [(0, _), (1, _), (2, _)]) h dX9_grownUps_1 rfl (by decide) rfl rfl ?_
  refine g_iconst (v := nI 0) h dX9_grownUps_2 (by decide) ?_
  refine g_istore_n (ls' := [(0, _), (1, _), (2, _), (3, _)]) h dX9_grownUps_3 rfl (by decide) rfl rfl ?_
  exact LP (T + 1) (0) (by omega) (by omega)
