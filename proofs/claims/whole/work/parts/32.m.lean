theorem sc_c {u : Sto} {k a : Nat} {f : Nat → Int32} (h : a ≠ k) : sc u k f a = u a := sc_ne _ _ h
theorem cpT_c {u : Sto} {t o k : Nat} (h : k < t ∨ t + 6 < k) : cpT u t o k = u k := by
  have h0 : k ≠ t := by omega
  have h1 : k ≠ t + 1 := by omega
  have h2 : k ≠ t + 2 := by omega
  have h3 : k ≠ t + 3 := by omega
  have h4 : k ≠ t + 4 := by omega
  have h5 : k ≠ t + 5 := by omega
  have h6 : k ≠ t + 6 := by omega
  unfold cpT
  simp only [su_c h0, sc_c h1, sc_c h2, sc_c h3, sc_c h4, sc_c h5, sc_c h6]
theorem past_at : ∀ i, i < 12 → ([75, 82, 89, 96, 103, 110, 117, 124, 131, 138, 145, 152] : List Nat)[i]? = some (75 + 7 * i) := by decide
theorem past_tw : ∀ i, i < 12 → 75 + 7 * i ∈ townL := by decide
def shK (k : Nat) : Int32 := Int32.ofInt (24 - 8 * (k : Int))
theorem shK_s : ∀ k, k < 4 → shK k + Int32.ofInt (-8) = shK (k + 1) := by decide
theorem shK_p : ∀ k, k < 4 → ¬ shK k < 0 := by decide
theorem shK_e : shK 4 < 0 := by decide
def byI (x : Int32) (k : Nat) : Int32 := (x.toUInt32 >>> ((shK k).toUInt32 &&& Int32.toUInt32 31)).toInt32 &&& nI 255
def fnK (u : Sto) (tl : Nat) (x : Int32) : Nat → Sto
  | 0 => u
  | k + 1 => su (su (fnK u tl x k) 1 (tl + k) (byI x k)) 0 1 (nI (tl + k + 1))
theorem fnK_01 (u : Sto) (tl : Nat) (x : Int32) (h : u 0 1 = nI tl) : ∀ k, fnK u tl x k 0 1 = nI (tl + k)
  | 0 => h
  | k + 1 => by rw [fnK]; exact su_same _ _ _ _
set_option maxHeartbeats 1000000 in
theorem c_X10_feedNumber {E : EE} (tl : Nat) (ht : tl + 4 ≤ 400) (x : Int32) (u : Sto) (hx : u 0 1 = nI tl) : Ct E 1 0 yX10_feedNumber cX10_feedNumber 3 none [.ref (E.ad 0), .int x] u (.inl none) (fnK u tl x 4) := by
  refine ct_of (by decide) (Nat.le_of_ble_eq_true rfl) (fun X h hR hrt htab hargs hini => ?_)
  have LP : ∀ j k : Nat, 4 < k + j → k ≤ 4 → G E X (QM E X (.inl none) (fnK u tl x 4) 0) 3 0 3 [(0, .ref (E.ad 0)), (1, .int x), (2, .int (shK k))] [] (fnK u tl x k) := by
    intro j
    induction j with
    | zero => intro k h1 h2; omega
    | succ j ih =>
      intro k h1 h2
      refine g_iload_n h dX10_feedNumber_3 rfl rfl ?_
      refine g_if_lt (tgt := 49) h dX10_feedNumber_4 (by decide) (fun c4 => ?_) (fun c4 => ?_)
      · obtain rfl : k = 4 := by
          by_cases q : k < 4
          · exact absurd c4 (shK_p k q)
          · omega
        exact g_vret h hrt dX10_feedNumber_49 (by omega) rfl rfl
      · have n4 : k < 4 := by
          by_cases q : k < 4
          · exact q
          · obtain rfl : k = 4 := by omega
            exact absurd shK_e c4
        refine g_aload_n h dX10_feedNumber_7 rfl rfl ?_
        refine g_getI h fl_X10_82_9 sh_0 (by decide) rfl dX10_feedNumber_8 ?_
        refine g_top (fnK_01 u tl x hx k) ?_
        refine g_sipush (v := nI 400) h dX10_feedNumber_11 (by decide) ?_
        refine g_icmp_ge (tgt := 43) h dX10_feedNumber_14 (by decide) (fun c14 => ?_) (fun c14 => ?_)
        · have n14 := le_n (by omega) (by omega) (show nI (400) ≤ nI (tl + k) from c14)
          omega
        · have n14 := nle_n (by omega) (by omega) (show ¬ nI (400) ≤ nI (tl + k) from c14)
          refine g_aload_n h dX10_feedNumber_17 rfl rfl ?_
          refine g_getR h fl_X10_9_9 sh_0 (by decide) rfl dX10_feedNumber_18 ?_
          refine g_aload_n h dX10_feedNumber_21 rfl rfl ?_
          refine g_getI h fl_X10_82_9 sh_0 (by decide) rfl dX10_feedNumber_22 ?_
          refine g_top (fnK_01 u tl x hx k) ?_
          refine g_iload_n h dX10_feedNumber_25 rfl rfl ?_
          refine g_iload_n h dX10_feedNumber_26 rfl rfl ?_
          refine g_iushr h dX10_feedNumber_27 ?_
          refine g_sipush (v := nI 255) h dX10_feedNumber_28 (by decide) ?_
          refine g_iand h dX10_feedNumber_31 ?_
          refine g_iast h _ _ _ sh_1 (by decide) (by decide) rfl (by omega) dX10_feedNumber_32 ?_
          refine g_aload_n h dX10_feedNumber_33 rfl rfl ?_
          refine g_dup h dX10_feedNumber_34 rfl ?_
          refine g_getI h fl_X10_82_9 sh_0 (by decide) rfl dX10_feedNumber_35 ?_
          refine g_top (y := nI (tl + k)) (by rw [su_ne2 (by decide)]; exact fnK_01 u tl x hx k) ?_
          refine g_iconst (v := nI 1) h dX10_feedNumber_38 (by decide) ?_
          refine g_iadd h dX10_feedNumber_39 ?_
          refine g_top (nI_add (tl + k) 1) ?_
          refine g_putI h pfl_X10_82_9 sh_0 (by decide) rfl dX10_feedNumber_40 ?_
          refine g_iinc (v := shK (k + 1)) (ls' := [(0, _), (1, _), (2, _)]) h dX10_feedNumber_43 rfl (shK_s k n4) (by decide) rfl rfl ?_
          refine g_goto (tgt := 3) h dX10_feedNumber_46 (by decide) ?_
          exact ih (k + 1) (by omega) (by omega)
  refine g_bipush (v := nI 24) h dX10_feedNumber_0 (by decide) ?_
  refine g_istore_n (ls' := [(0, _), (1, _), (2, _)]) h dX10_feedNumber_2 rfl (by decide) rfl rfl ?_
  exact g_cv (by rfl) rfl (LP 5 0 (by omega) (by omega))
def fdS (u : Sto) (tl : Nat) (a b c d e : Int32) : Sto := fnK (fnK (fnK (fnK (fnK u tl a 4) (tl + 4) b 4) (tl + 8) c 4) (tl + 12) d 4) (tl + 16) e 4
set_option maxHeartbeats 1000000 in
theorem c_X10_feed {E : EE} (tl : Nat) (ht : tl ≤ 400) (a b c d e : Int32) (u : Sto) (hx : u 0 1 = nI tl) : Ct E 2 0 yX10_feed cX10_feed 6 (some .int) [.ref (E.ad 0), .int a, .int b, .int c, .int d, .int e] u (.inl (some (.int (if tl + 20 ≤ 400 then nI (tl + 20) else -1)))) (if tl + 20 ≤ 400 then fdS u tl a b c d e else u) := by
  refine ct_of (by decide) (Nat.le_of_ble_eq_true rfl) (fun X h hR hrt htab hargs hini => ?_)
  refine g_aload_n h dX10_feed_0 rfl rfl ?_
  refine g_getI h fl_X10_82_9 sh_0 (by decide) rfl dX10_feed_1 ?_
  refine g_top hx ?_
  refine g_bipush (v := nI 20) h dX10_feed_4 (by decide) ?_
  refine g_iadd h dX10_feed_6 ?_
  refine g_top (nI_add tl 20) ?_
  refine g_sipush (v := nI 400) h dX10_feed_7 (by decide) ?_
  refine g_icmp_le (tgt := 15) h dX10_feed_10 (by decide) (fun c10 => ?_) (fun c10 => ?_)
  · have n10 := le_n (by omega) (by omega) (show nI (tl + 20) ≤ nI (400) from c10)
    have f1 := fnK_01 u tl a hx 4
    have f2 := fnK_01 (fnK u tl a 4) (tl + 4) b f1 4
    have f3 := fnK_01 (fnK (fnK u tl a 4) (tl + 4) b 4) (tl + 8) c f2 4
    have f4 := fnK_01 (fnK (fnK (fnK u tl a 4) (tl + 4) b 4) (tl + 8) c 4) (tl + 12) d f3 4
    have f5 := fnK_01 (fnK (fnK (fnK (fnK u tl a 4) (tl + 4) b 4) (tl + 8) c 4) (tl + 12) d 4) (tl + 16) e f4 4
    refine g_aload_n h dX10_feed_15 rfl rfl ?_
    refine g_iload_n h dX10_feed_16 rfl rfl ?_
    refine g_V h lv_X10_85_X10 sh_0 (by decide) rfl (c_X10_feedNumber tl (by omega) _ _ hx) (fitR hR (by decide) (by decide) (by omega)) rfl rfl (Nat.le_of_ble_eq_true rfl) dX10_feed_17 ?_
    refine g_aload_n h dX10_feed_20 rfl rfl ?_
    refine g_iload_n h dX10_feed_21 rfl rfl ?_
    refine g_V h lv_X10_85_X10 sh_0 (by decide) rfl (c_X10_feedNumber (tl + 4) (by omega) _ _ f1) (fitR hR (by decide) (by decide) (by omega)) rfl rfl (Nat.le_of_ble_eq_true rfl) dX10_feed_22 ?_
    refine g_aload_n h dX10_feed_25 rfl rfl ?_
    refine g_iload_n h dX10_feed_26 rfl rfl ?_
    refine g_V h lv_X10_85_X10 sh_0 (by decide) rfl (c_X10_feedNumber (tl + 8) (by omega) _ _ f2) (fitR hR (by decide) (by decide) (by omega)) rfl rfl (Nat.le_of_ble_eq_true rfl) dX10_feed_27 ?_
    refine g_aload_n h dX10_feed_30 rfl rfl ?_
    refine g_iload h dX10_feed_31 rfl ?_
    refine g_V h lv_X10_85_X10 sh_0 (by decide) rfl (c_X10_feedNumber (tl + 12) (by omega) _ _ f3) (fitR hR (by decide) (by decide) (by omega)) rfl rfl (Nat.le_of_ble_eq_true rfl) dX10_feed_33 ?_
    refine g_aload_n h dX10_feed_36 rfl rfl ?_
    refine g_iload h dX10_feed_37 rfl ?_
    refine g_V h lv_X10_85_X10 sh_0 (by decide) rfl (c_X10_feedNumber (tl + 16) (by omega) _ _ f4) (fitR hR (by decide) (by decide) (by omega)) rfl rfl (Nat.le_of_ble_eq_true rfl) dX10_feed_39 ?_
    refine g_aload_n h dX10_feed_42 rfl rfl ?_
    refine g_getI h fl_X10_82_9 sh_0 (by decide) rfl dX10_feed_43 ?_
    refine g_top f5 ?_
    exact g_iret h hrt dX10_feed_46 (by omega) (by rw [if_pos n10]) (by rw [if_pos n10]; rfl)
  · have n10 := nle_n (by omega) (by omega) (show ¬ nI (tl + 20) ≤ nI (400) from c10)
    refine g_iconst (v := -1) h dX10_feed_13 (by decide) ?_
    exact g_iret h hrt dX10_feed_14 (by omega) (by rw [if_neg (by omega)]) (by rw [if_neg (by omega)])
set_option maxHeartbeats 1000000 in
theorem c_X10_end {E : EE} (tl : Nat) (ht : tl ≤ 400) (x : Int32) (u : Sto) (hx : u 0 1 = nI tl) : Ct E 1 0 yX10_end cX10_end 2 (some .boolean) [.ref (E.ad 0), .int x] u (.inl (some (.int (b2 (¬ x < 0 ∧ x ≤ nI tl))))) (if ¬ x < 0 ∧ x ≤ nI tl then su u 0 1 x else u) := by
  refine ct_of (by decide) (Nat.le_of_ble_eq_true rfl) (fun X h hR hrt htab hargs hini => ?_)
  refine g_iload_n h dX10_end_0 rfl rfl ?_
  refine g_if_lt (tgt := 12) h dX10_end_1 (by decide) (fun c1 => ?_) (fun c1 => ?_)
  · have hz : ¬ (¬ x < 0 ∧ x ≤ nI tl) := fun q => q.1 c1
    refine g_iconst (v := nI 0) h dX10_end_12 (by decide) ?_
    exact g_zret h hrt dX10_end_13 (by omega) (by first | exact Or.inl rfl | exact Or.inr rfl | simp) (by rw [b2_f hz]) (by rw [if_neg hz])
  · refine g_iload_n h dX10_end_4 rfl rfl ?_
    refine g_aload_n h dX10_end_5 rfl rfl ?_
    refine g_getI h fl_X10_82_9 sh_0 (by decide) rfl dX10_end_6 ?_
    refine g_top hx ?_
    refine g_icmp_le (tgt := 14) h dX10_end_9 (by decide) (fun c9 => ?_) (fun c9 => ?_)
    · have hz : ¬ x < 0 ∧ x ≤ nI tl := ⟨c1, c9⟩
      refine g_aload_n h dX10_end_14 rfl rfl ?_
      refine g_iload_n h dX10_end_15 rfl rfl ?_
      refine g_putI h pfl_X10_82_9 sh_0 (by decide) rfl dX10_end_16 ?_
      refine g_iconst (v := nI 1) h dX10_end_19 (by decide) ?_
      exact g_zret h hrt dX10_end_20 (by omega) (by first | exact Or.inl rfl | exact Or.inr rfl | simp) (by rw [b2_t hz]) (by rw [if_pos hz])
    · have hz : ¬ (¬ x < 0 ∧ x ≤ nI tl) := fun q => c9 q.2
      refine g_iconst (v := nI 0) h dX10_end_12 (by decide) ?_
      exact g_zret h hrt dX10_end_13 (by omega) (by first | exact Or.inl rfl | exact Or.inr rfl | simp) (by rw [b2_f hz]) (by rw [if_neg hz])
set_option maxHeartbeats 1000000 in
theorem c_X10_fault {E : EE}  (u : Sto) : Ct E 1 0 yX10_fault cX10_fault 1 (some .int) [.ref (E.ad 0)] u (.inl (some (.int (u 0 2)))) (u) := by
  refine ct_of (by decide) (Nat.le_of_ble_eq_true rfl) (fun X h hR hrt htab hargs hini => ?_)
  refine g_aload_n h dX10_fault_0 rfl rfl ?_
  refine g_getI h fl_X10_13_9 sh_0 (by decide) rfl dX10_fault_1 ?_
  exact g_iret h hrt dX10_fault_4 (by omega) (by rfl) rfl
set_option maxHeartbeats 1000000 in
theorem c_X10_seed {E : EE} (x : Int32) (u : Sto) : Ct E 1 0 yX10_seed cX10_seed 3 (some .int) [.ref (E.ad 0), .int x] u (.inl (some (.int (u 3 11)))) (su u 3 11 x) := by
  refine ct_of (by decide) (Nat.le_of_ble_eq_true rfl) (fun X h hR hrt htab hargs hini => ?_)
  refine g_aload_n h dX10_seed_0 rfl rfl ?_
  refine g_getR h fl_X10_20_9 sh_0 (by decide) rfl dX10_seed_1 ?_
  refine g_getR h fl_X10_89_8 sh_2 (by decide) rfl dX10_seed_4 ?_
  refine g_getI h fl_X10_369_6 sh_3 (by decide) rfl dX10_seed_7 ?_
  refine g_istore_n (ls' := [(0, _), (1, _), (2, _)]) h dX10_seed_10 rfl (by decide) rfl rfl ?_
  refine g_aload_n h dX10_seed_11 rfl rfl ?_
  refine g_getR h fl_X10_20_9 sh_0 (by decide) rfl dX10_seed_12 ?_
  refine g_getR h fl_X10_89_8 sh_2 (by decide) rfl dX10_seed_15 ?_
  refine g_iload_n h dX10_seed_18 rfl rfl ?_
  refine g_putI h pfl_X10_369_6 sh_3 (by decide) rfl dX10_seed_19 ?_
  refine g_iload_n h dX10_seed_22 rfl rfl ?_
  exact g_iret h hrt dX10_seed_23 (by omega) (by rfl) rfl
set_option maxHeartbeats 1000000 in
theorem c_X10_useTape {E : EE}  (u : Sto) : Ct E 1 0 yX10_useTape cX10_useTape 2 (some .int) [.ref (E.ad 0)] u (.inl (some (.int (u 0 1)))) (su u 0 1 (nI 0)) := by
  refine ct_of (by decide) (Nat.le_of_ble_eq_true rfl) (fun X h hR hrt htab hargs hini => ?_)
  refine g_aload_n h dX10_useTape_0 rfl rfl ?_
  refine g_getI h fl_X10_82_9 sh_0 (by decide) rfl dX10_useTape_1 ?_
  refine g_istore_n (ls' := [(0, _), (1, _)]) h dX10_useTape_4 rfl (by decide) rfl rfl ?_
  refine g_aload_n h dX10_useTape_5 rfl rfl ?_
  refine g_iconst (v := nI 0) h dX10_useTape_6 (by decide) ?_
  refine g_putI h pfl_X10_82_9 sh_0 (by decide) rfl dX10_useTape_7 ?_
  refine g_iload_n h dX10_useTape_10 rfl rfl ?_
  exact g_iret h hrt dX10_useTape_11 (by omega) (by rfl) rfl
def rmS (u : Sto) (pf pc : Nat) : Sto :=
  if pc = 12 then su (cpT (su (su u 0 8 (nI ((pf + 1) % 12))) 0 9 (nI 11)) (75 + 7 * (((pf + 1) % 12 + 11) % 12)) 3) 0 9 (nI 12)
  else su (cpT u (75 + 7 * ((pf + pc) % 12)) 3) 0 9 (nI (pc + 1))
set_option maxHeartbeats 1000000 in
theorem c_X10_remember_n {E : EE} (pf : Nat) (hf : pf < 12) (pc : Nat) (hp : pc < 12) (u : Sto) (hpf : u 0 8 = nI pf) (hpc : u 0 9 = nI pc) : Ct E 4 0 yX10_remember cX10_remember 1 none [.ref (E.ad 0)] u (.inl none) (rmS u pf pc) := by
  have hi : (pf + pc) % 12 < 12 := Nat.mod_lt _ (by omega)
  obtain ⟨pt, hpt⟩ : ∃ pt, 75 + 7 * ((pf + pc) % 12) = pt := ⟨_, rfl⟩
  have hpw : pt ∈ townL := by rw [← hpt]; exact past_tw _ hi
  have hlt := (sh_town pt hpw).2.2.2.2.2.2.2
  refine ct_of (by decide) (Nat.le_of_ble_eq_true rfl) (fun X h hR hrt htab hargs hini => ?_)
  refine g_aload_n h dX10_remember_0 rfl rfl ?_
  refine g_getI h fl_X10_129_9 sh_0 (by decide) rfl dX10_remember_1 ?_
  refine g_top hpc ?_
  refine g_bipush (v := nI 12) h dX10_remember_4 (by decide) ?_
  refine g_icmp_ne (tgt := 32) h dX10_remember_6 (by decide) (fun c6 => ?_) (fun c6 => ?_)
  · have n6 := ne_n (show ¬ nI (pc) = nI (12) from c6)
    refine g_aload_n h dX10_remember_32 rfl rfl ?_
    refine g_getR h fl_X10_32_9 sh_0 (by decide) rfl dX10_remember_33 ?_
    refine g_aload_n h dX10_remember_36 rfl rfl ?_
    refine g_getI h fl_X10_372_9 sh_0 (by decide) rfl dX10_remember_37 ?_
    refine g_top (y := nI (pf)) (by exact hpf) ?_
    refine g_aload_n h dX10_remember_40 rfl rfl ?_
    refine g_getI h fl_X10_129_9 sh_0 (by decide) rfl dX10_remember_41 ?_
    refine g_top (y := nI pc) (by exact hpc) ?_
    refine g_iadd h dX10_remember_44 ?_
    refine g_top (nI_add _ _) ?_
    refine g_bipush (v := nI 12) h dX10_remember_45 (by decide) ?_
    refine g_irem h dX10_remember_47 (by decide) ?_
    refine g_top (pk_rem (a := (pf + pc)) (d := 12) (by omega) (by omega) (by omega)) ?_
    refine g_aald (c := pt) h _ _ sh_74 (by decide) (by decide) rfl (by rw [past_at _ hi, hpt]) dX10_remember_48 ?_
    refine g_aload_n h dX10_remember_49 rfl rfl ?_
    refine g_getR h fl_X10_20_9 sh_0 (by decide) rfl dX10_remember_50 ?_
    refine g_getR h fl_X10_89_8 sh_2 (by decide) rfl dX10_remember_53 ?_
    refine g_V h lv_X10_93_X7 (sh_town pt hpw).1 (by omega) rfl (c_X7_copyFrom pt 3 hpw (by decide) _) (fitR hR (by decide) (by decide) (by omega)) rfl rfl (Nat.le_of_ble_eq_true rfl) dX10_remember_56 ?_
    refine g_aload_n h dX10_remember_59 rfl rfl ?_
    refine g_dup h dX10_remember_60 rfl ?_
    refine g_getI h fl_X10_129_9 sh_0 (by decide) rfl dX10_remember_61 ?_
    refine g_top (y := nI pc) (by rw [cpT_c (by omega)]; exact hpc) ?_
    refine g_iconst (v := nI 1) h dX10_remember_64 (by decide) ?_
    refine g_iadd h dX10_remember_65 ?_
    refine g_top (nI_add pc 1) ?_
    refine g_putI h pfl_X10_129_9 sh_0 (by decide) rfl dX10_remember_66 ?_
    exact g_vret h hrt dX10_remember_69 (by omega) rfl (by rw [rmS, if_neg (by omega), hpt])
  · have n6 := eq_n (by omega) (by omega) (show nI (pc) = nI (12) from c6)
    omega
set_option maxHeartbeats 1000000 in
theorem c_X10_remember_f {E : EE} (pf : Nat) (hf : pf < 12) (u : Sto) (hpf : u 0 8 = nI pf) (hpc : u 0 9 = nI 12) : Ct E 4 0 yX10_remember cX10_remember 1 none [.ref (E.ad 0)] u (.inl none) (rmS u pf 12) := by
  have hi : ((pf + 1) % 12 + 11) % 12 < 12 := Nat.mod_lt _ (by omega)
  obtain ⟨pt, hpt⟩ : ∃ pt, 75 + 7 * (((pf + 1) % 12 + 11) % 12) = pt := ⟨_, rfl⟩
  have hpw : pt ∈ townL := by rw [← hpt]; exact past_tw _ hi
  have hlt := (sh_town pt hpw).2.2.2.2.2.2.2
  refine ct_of (by decide) (Nat.le_of_ble_eq_true rfl) (fun X h hR hrt htab hargs hini => ?_)
  refine g_aload_n h dX10_remember_0 rfl rfl ?_
  refine g_getI h fl_X10_129_9 sh_0 (by decide) rfl dX10_remember_1 ?_
  refine g_top hpc ?_
  refine g_bipush (v := nI 12) h dX10_remember_4 (by decide) ?_
  refine g_icmp_ne (tgt := 32) h dX10_remember_6 (by decide) (fun c6 => ?_) (fun c6 => ?_)
  · have n6 := ne_n (show ¬ nI (12) = nI (12) from c6)
    omega
  · have n6 := eq_n (by omega) (by omega) (show nI (12) = nI (12) from c6)
    refine g_aload_n h dX10_remember_9 rfl rfl ?_
    refine g_aload_n h dX10_remember_10 rfl rfl ?_
    skip
    refine g_getI h fl_X10_372_9 sh_0 (by decide) rfl dX10_remember_11 ?_
    refine g_top hpf ?_
    refine g_iconst (v := nI 1) h dX10_remember_14 (by decide) ?_
    refine g_iadd h dX10_remember_15 ?_
    refine g_top (nI_add pf 1) ?_
    refine g_bipush (v := nI 12) h dX10_remember_16 (by decide) ?_
    refine g_irem h dX10_remember_18 (by decide) ?_
    refine g_top (pk_rem (a := pf + 1) (d := 12) (by omega) (by omega) (by omega)) ?_
    refine g_putI h pfl_X10_372_9 sh_0 (by decide) rfl dX10_remember_19 ?_
    refine g_aload_n h dX10_remember_22 rfl rfl ?_
    refine g_dup h dX10_remember_23 rfl ?_
    refine g_getI h fl_X10_129_9 sh_0 (by decide) rfl dX10_remember_24 ?_
    refine g_top (y := nI 12) (by rw [su_slot (by decide)]; exact hpc) ?_
    refine g_iconst (v := nI 1) h dX10_remember_27 (by decide) ?_
    refine g_isub h dX10_remember_28 ?_
    refine g_top (pk_sub (a := 12) (b := 1) (by omega)) ?_
    refine g_putI h pfl_X10_129_9 sh_0 (by decide) rfl dX10_remember_29 ?_
    refine g_aload_n h dX10_remember_32 rfl rfl ?_
    refine g_getR h fl_X10_32_9 sh_0 (by decide) rfl dX10_remember_33 ?_
    refine g_aload_n h dX10_remember_36 rfl rfl ?_
    refine g_getI h fl_X10_372_9 sh_0 (by decide) rfl dX10_remember_37 ?_
    refine g_top (y := nI ((pf + 1) % 12)) (by rw [su_slot (by decide)]; exact su_same _ _ _ _) ?_
    refine g_aload_n h dX10_remember_40 rfl rfl ?_
    refine g_getI h fl_X10_129_9 sh_0 (by decide) rfl dX10_remember_41 ?_
    refine g_top (y := nI 11) (by exact su_same _ _ _ _) ?_
    refine g_iadd h dX10_remember_44 ?_
    refine g_top (nI_add _ _) ?_
    refine g_bipush (v := nI 12) h dX10_remember_45 (by decide) ?_
    refine g_irem h dX10_remember_47 (by decide) ?_
    refine g_top (pk_rem (a := ((pf + 1) % 12 + 11)) (d := 12) (by omega) (by omega) (by omega)) ?_
    refine g_aald (c := pt) h _ _ sh_74 (by decide) (by decide) rfl (by rw [past_at _ hi, hpt]) dX10_remember_48 ?_
    refine g_aload_n h dX10_remember_49 rfl rfl ?_
    refine g_getR h fl_X10_20_9 sh_0 (by decide) rfl dX10_remember_50 ?_
    refine g_getR h fl_X10_89_8 sh_2 (by decide) rfl dX10_remember_53 ?_
    refine g_V h lv_X10_93_X7 (sh_town pt hpw).1 (by omega) rfl (c_X7_copyFrom pt 3 hpw (by decide) _) (fitR hR (by decide) (by decide) (by omega)) rfl rfl (Nat.le_of_ble_eq_true rfl) dX10_remember_56 ?_
    refine g_aload_n h dX10_remember_59 rfl rfl ?_
    refine g_dup h dX10_remember_60 rfl ?_
    refine g_getI h fl_X10_129_9 sh_0 (by decide) rfl dX10_remember_61 ?_
    refine g_top (y := nI 11) (by rw [cpT_c (by omega)]; exact su_same _ _ _ _) ?_
    refine g_iconst (v := nI 1) h dX10_remember_64 (by decide) ?_
    refine g_iadd h dX10_remember_65 ?_
    refine g_top (nI_add 11 1) ?_
    refine g_putI h pfl_X10_129_9 sh_0 (by decide) rfl dX10_remember_66 ?_
    exact g_vret h hrt dX10_remember_69 (by omega) rfl (by rw [rmS, if_pos rfl, hpt])
