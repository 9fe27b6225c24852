set_option maxHeartbeats 1000000 in
theorem c_X4_likesHour {E : EE} (a : Nat) (ha : a < 10) (x : Int32) (u : Sto) : Ct E 1 0 yX4_likesHour cX4_likesHour 3 (some .boolean) [.ref (E.ad 10), .int (nI a), .int x] u (.inl (some (.int (b2 (¬ x < u 11 a ∧ ¬ u 12 a < x))))) (u) := by
  refine ct_of (by decide) (Nat.le_of_ble_eq_true rfl) (fun X h hR hrt htab hargs hini => ?_)
  refine g_iload_n h dX4_likesHour_0 rfl rfl ?_
  refine g_aload_n h dX4_likesHour_1 rfl rfl ?_
  refine g_getR h fl_X4_9_4 sh_10 (by decide) rfl dX4_likesHour_2 ?_
  refine g_iload_n h dX4_likesHour_5 rfl rfl ?_
  refine g_iald h _ _ _ sh_11 (by decide) (by decide) rfl (by omega) dX4_likesHour_6 ?_
  refine g_icmp_lt (tgt := 24) h dX4_likesHour_7 (by decide) (fun c7 => ?_) (fun c7 => ?_)
  · refine g_iconst (v := nI 0) h dX4_likesHour_24 (by decide) ?_
    exact g_zret h hrt dX4_likesHour_25 (by omega) (by first | exact Or.inl rfl | exact Or.inr rfl | simp) (by simp_all [b2]) rfl
  · refine g_iload_n h dX4_likesHour_10 rfl rfl ?_
    refine g_aload_n h dX4_likesHour_11 rfl rfl ?_
    refine g_getR h fl_X4_15_4 sh_10 (by decide) rfl dX4_likesHour_12 ?_
    refine g_iload_n h dX4_likesHour_15 rfl rfl ?_
    refine g_iald h _ _ _ sh_12 (by decide) (by decide) rfl (by omega) dX4_likesHour_16 ?_
    refine g_icmp_gt (tgt := 24) h dX4_likesHour_17 (by decide) (fun c17 => ?_) (fun c17 => ?_)
    · refine g_iconst (v := nI 0) h dX4_likesHour_24 (by decide) ?_
      exact g_zret h hrt dX4_likesHour_25 (by omega) (by first | exact Or.inl rfl | exact Or.inr rfl | simp) (by simp_all [b2]) rfl
    · refine g_iconst (v := nI 1) h dX4_likesHour_20 (by decide) ?_
      refine g_goto (tgt := 25) h dX4_likesHour_21 (by decide) ?_
      exact g_zret h hrt dX4_likesHour_25 (by omega) (by first | exact Or.inl rfl | exact Or.inr rfl | simp) (by simp_all [b2]) rfl
set_option maxHeartbeats 1000000 in
theorem c_X4_wantedRooms {E : EE} (W : Nat) (hW : W ≤ 8) (u : Sto) (hw : u 10 9 = nI W) : Ct E 1 0 yX4_wantedRooms cX4_wantedRooms 3 (some .int) [.ref (E.ad 10)] u (.inl (some (.int (smI (u 16) W)))) (u) := by
  refine ct_of (by decide) (Nat.le_of_ble_eq_true rfl) (fun X h hR hrt htab hargs hini => ?_)
  have LP : ∀ j k : Nat, W < k + j → k ≤ W → G E X (QM E X (.inl (some (.int (smI (u 16) W)))) (u) 0) 3 0 4 [(0, .ref (E.ad 10)), (1, .int (smI (u 16) k)), (2, .int (nI k))] [] (u) := by
    intro j
    induction j with
    | zero => intro k h1 h2; omega
    | succ j ih =>
      intro k h1 h2
      refine g_iload_n h dX4_wantedRooms_4 rfl rfl ?_
      refine g_aload_n h dX4_wantedRooms_5 rfl rfl ?_
      refine g_getI h fl_X4_46_4 sh_10 (by decide) rfl dX4_wantedRooms_6 ?_
      refine g_top hw ?_
      refine g_icmp_ge (tgt := 27) h dX4_wantedRooms_9 (by decide) (fun c9 => ?_) (fun c9 => ?_)
      · have n9 := le_n (by omega) (by omega) (show nI (W) ≤ nI (k) from c9)
        obtain rfl : k = W := by omega
        refine g_iload_n h dX4_wantedRooms_27 rfl rfl ?_
        exact g_iret h hrt dX4_wantedRooms_28 (by omega) (by rfl) rfl
      · have n9 := nle_n (by omega) (by omega) (show ¬ nI (W) ≤ nI (k) from c9)
        refine g_iload_n h dX4_wantedRooms_12 rfl rfl ?_
        refine g_aload_n h dX4_wantedRooms_13 rfl rfl ?_
        refine g_getR h fl_X4_27_4 sh_10 (by decide) rfl dX4_wantedRooms_14 ?_
        refine g_iload_n h dX4_wantedRooms_17 rfl rfl ?_
        refine g_iald h _ _ _ sh_16 (by decide) (by decide) rfl (by omega) dX4_wantedRooms_18 ?_
        refine g_iadd h dX4_wantedRooms_19 ?_
        refine g_istore_n (ls' := [(0, _), (1, _), (2, _)]) h dX4_wantedRooms_20 rfl (by decide) rfl rfl ?_
        refine g_iinc (v := nI (k + 1)) (ls' := [(0, _), (1, _), (2, _)]) h dX4_wantedRooms_21 rfl (inc1 k) (by decide) rfl rfl ?_
        refine g_goto (tgt := 4) h dX4_wantedRooms_24 (by decide) ?_
        exact g_cv (by rfl) (by rfl) (ih (k + 1) (by omega) (by omega))
  refine g_iconst (v := nI 0) h dX4_wantedRooms_0 (by decide) ?_
  refine g_istore_n (ls' := [(0, _), (1, _)]) h dX4_wantedRooms_1 rfl (by decide) rfl rfl ?_
  refine g_iconst (v := nI 0) h dX4_wantedRooms_2 (by decide) ?_
  refine g_istore_n (ls' := [(0, _), (1, _), (2, _)]) h dX4_wantedRooms_3 rfl (by decide) rfl rfl ?_
  exact LP (W + 1) (0) (by omega) (by omega)
def atS (u : Sto) (n : Nat) (f t m : Int32) : Sto := su (su (su (su u 35 n f) 36 n t) 37 n m) 34 8 (nI (n + 1))
set_option maxHeartbeats 1000000 in
theorem c_X4_addTenant {E : EE} (n : Nat) (hn : n < 10) (f t m : Int32) (u : Sto) (hx : u 34 8 = nI n) : Ct E 1 0 yX4_addTenant cX4_addTenant 4 none [.ref (E.ad 34), .int f, .int t, .int m] u (.inl none) (atS u n f t m) := by
  refine ct_of (by decide) (Nat.le_of_ble_eq_true rfl) (fun X h hR hrt htab hargs hini => ?_)
  refine g_aload_n h dX4_addTenant_0 rfl rfl ?_
  refine g_getI h fl_X4_42_4 sh_34 (by decide) rfl dX4_addTenant_1 ?_
  refine g_top hx ?_
  refine g_bipush (v := nI 10) h dX4_addTenant_4 (by decide) ?_
  refine g_icmp_ge (tgt := 49) h dX4_addTenant_6 (by decide) (fun c6 => ?_) (fun c6 => ?_)
  · have n6 := le_n (by omega) (by omega) (show nI (10) ≤ nI (n) from c6)
    omega
  · have n6 := nle_n (by omega) (by omega) (show ¬ nI (10) ≤ nI (n) from c6)
    refine g_aload_n h dX4_addTenant_9 rfl rfl ?_
    refine g_getR h fl_X4_9_4 sh_34 (by decide) rfl dX4_addTenant_10 ?_
    refine g_aload_n h dX4_addTenant_13 rfl rfl ?_
    refine g_getI h fl_X4_42_4 sh_34 (by decide) rfl dX4_addTenant_14 ?_
    refine g_top hx ?_
    refine g_iload_n h dX4_addTenant_17 rfl rfl ?_
    refine g_iast h _ _ _ sh_35 (by decide) (by decide) rfl (by omega) dX4_addTenant_18 ?_
    refine g_aload_n h dX4_addTenant_19 rfl rfl ?_
    refine g_getR h fl_X4_15_4 sh_34 (by decide) rfl dX4_addTenant_20 ?_
    refine g_aload_n h dX4_addTenant_23 rfl rfl ?_
    refine g_getI h fl_X4_42_4 sh_34 (by decide) rfl dX4_addTenant_24 ?_
    refine g_top (y := nI n) (by simp [su, hx]) ?_
    refine g_iload_n h dX4_addTenant_27 rfl rfl ?_
    refine g_iast h _ _ _ sh_36 (by decide) (by decide) rfl (by omega) dX4_addTenant_28 ?_
    refine g_aload_n h dX4_addTenant_29 rfl rfl ?_
    refine g_getR h fl_X4_18_4 sh_34 (by decide) rfl dX4_addTenant_30 ?_
    refine g_aload_n h dX4_addTenant_33 rfl rfl ?_
    refine g_getI h fl_X4_42_4 sh_34 (by decide) rfl dX4_addTenant_34 ?_
    refine g_top (y := nI n) (by simp [su, hx]) ?_
    refine g_iload_n h dX4_addTenant_37 rfl rfl ?_
    refine g_iast h _ _ _ sh_37 (by decide) (by decide) rfl (by omega) dX4_addTenant_38 ?_
    refine g_aload_n h dX4_addTenant_39 rfl rfl ?_
    refine g_dup h dX4_addTenant_40 rfl ?_
    refine g_getI h fl_X4_42_4 sh_34 (by decide) rfl dX4_addTenant_41 ?_
    refine g_top (y := nI n) (by simp [su, hx]) ?_
    refine g_iconst (v := nI 1) h dX4_addTenant_44 (by decide) ?_
    refine g_iadd h dX4_addTenant_45 ?_
    refine g_top (nI_add n 1) ?_
    refine g_putI h pfl_X4_42_4 sh_34 (by decide) rfl dX4_addTenant_46 ?_
    exact g_vret h hrt dX4_addTenant_49 (by omega) rfl rfl
def awS (u : Sto) (n : Nat) (a r f t : Int32) : Sto := su (su (su (su (su u 39 n a) 40 n r) 41 n f) 42 n t) 34 9 (nI (n + 1))
set_option maxHeartbeats 1000000 in
theorem c_X4_addWant {E : EE} (n : Nat) (hn : n < 8) (a r f t : Int32) (u : Sto) (hx : u 34 9 = nI n) : Ct E 1 0 yX4_addWant cX4_addWant 5 none [.ref (E.ad 34), .int a, .int r, .int f, .int t] u (.inl none) (awS u n a r f t) := by
  refine ct_of (by decide) (Nat.le_of_ble_eq_true rfl) (fun X h hR hrt htab hargs hini => ?_)
  refine g_aload_n h dX4_addWant_0 rfl rfl ?_
  refine g_getI h fl_X4_46_4 sh_34 (by decide) rfl dX4_addWant_1 ?_
  refine g_top hx ?_
  refine g_bipush (v := nI 8) h dX4_addWant_4 (by decide) ?_
  refine g_icmp_ge (tgt := 60) h dX4_addWant_6 (by decide) (fun c6 => ?_) (fun c6 => ?_)
  · have n6 := le_n (by omega) (by omega) (show nI (8) ≤ nI (n) from c6)
    omega
  · have n6 := nle_n (by omega) (by omega) (show ¬ nI (8) ≤ nI (n) from c6)
    refine g_aload_n h dX4_addWant_9 rfl rfl ?_
    refine g_getR h fl_X4_24_4 sh_34 (by decide) rfl dX4_addWant_10 ?_
    refine g_aload_n h dX4_addWant_13 rfl rfl ?_
    refine g_getI h fl_X4_46_4 sh_34 (by decide) rfl dX4_addWant_14 ?_
    refine g_top hx ?_
    refine g_iload_n h dX4_addWant_17 rfl rfl ?_
    refine g_iast h _ _ _ sh_39 (by decide) (by decide) rfl (by omega) dX4_addWant_18 ?_
    refine g_aload_n h dX4_addWant_19 rfl rfl ?_
    refine g_getR h fl_X4_27_4 sh_34 (by decide) rfl dX4_addWant_20 ?_
    refine g_aload_n h dX4_addWant_23 rfl rfl ?_
    refine g_getI h fl_X4_46_4 sh_34 (by decide) rfl dX4_addWant_24 ?_
    refine g_top (y := nI n) (by simp [su, hx]) ?_
    refine g_iload_n h dX4_addWant_27 rfl rfl ?_
    refine g_iast h _ _ _ sh_40 (by decide) (by decide) rfl (by omega) dX4_addWant_28 ?_
    refine g_aload_n h dX4_addWant_29 rfl rfl ?_
    refine g_getR h fl_X4_30_4 sh_34 (by decide) rfl dX4_addWant_30 ?_
    refine g_aload_n h dX4_addWant_33 rfl rfl ?_
    refine g_getI h fl_X4_46_4 sh_34 (by decide) rfl dX4_addWant_34 ?_
    refine g_top (y := nI n) (by simp [su, hx]) ?_
    refine g_iload_n h dX4_addWant_37 rfl rfl ?_
    refine g_iast h _ _ _ sh_41 (by decide) (by decide) rfl (by omega) dX4_addWant_38 ?_
    refine g_aload_n h dX4_addWant_39 rfl rfl ?_
    refine g_getR h fl_X4_33_4 sh_34 (by decide) rfl dX4_addWant_40 ?_
    refine g_aload_n h dX4_addWant_43 rfl rfl ?_
    refine g_getI h fl_X4_46_4 sh_34 (by decide) rfl dX4_addWant_44 ?_
    refine g_top (y := nI n) (by simp [su, hx]) ?_
    refine g_iload h dX4_addWant_47 rfl ?_
    refine g_iast h _ _ _ sh_42 (by decide) (by decide) rfl (by omega) dX4_addWant_49 ?_
    refine g_aload_n h dX4_addWant_50 rfl rfl ?_
    refine g_dup h dX4_addWant_51 rfl ?_
    refine g_getI h fl_X4_46_4 sh_34 (by decide) rfl dX4_addWant_52 ?_
    refine g_top (y := nI n) (by simp [su, hx]) ?_
    refine g_iconst (v := nI 1) h dX4_addWant_55 (by decide) ?_
    refine g_iadd h dX4_addWant_56 ?_
    refine g_top (nI_add n 1) ?_
    refine g_putI h pfl_X4_46_4 sh_34 (by decide) rfl dX4_addWant_57 ?_
    exact g_vret h hrt dX4_addWant_60 (by omega) rfl rfl
def clS (u : Sto) : Sto := su (su u 43 5 (nI 0)) 45 0 (nI 0)
set_option maxHeartbeats 1000000 in
theorem c_X2_clearLines {E : EE}  (u : Sto) : Ct E 1 0 yX2_clearLines cX2_clearLines 1 none [.ref (E.ad 43)] u (.inl none) (clS u) := by
  refine ct_of (by decide) (Nat.le_of_ble_eq_true rfl) (fun X h hR hrt htab hargs hini => ?_)
  refine g_aload_n h dX2_clearLines_0 rfl rfl ?_
  refine g_iconst (v := nI 0) h dX2_clearLines_1 (by decide) ?_
  refine g_putI h pfl_X2_27_2 sh_43 (by decide) rfl dX2_clearLines_2 ?_
  refine g_aload_n h dX2_clearLines_5 rfl rfl ?_
  refine g_getR h fl_X2_15_2 sh_43 (by decide) rfl dX2_clearLines_6 ?_
  refine g_iconst (v := nI 0) h dX2_clearLines_9 (by decide) ?_
  refine g_iconst (v := nI 0) h dX2_clearLines_10 (by decide) ?_
  skip
  refine g_iast h _ _ _ sh_45 (by decide) (by decide) rfl (by omega) dX2_clearLines_11 ?_
  exact g_vret h hrt dX2_clearLines_12 (by omega) rfl rfl
def alS (u : Sto) (l : Nat) (kd am : Int32) : Sto := su (su (su (su u 46 l kd) 47 l am) 45 (l + 1) (u 45 l)) 43 5 (nI (l + 1))
set_option maxHeartbeats 1000000 in
theorem c_X2_addLine {E : EE} (l : Nat) (hl : l < 12) (kd am : Int32) (u : Sto) (hx : u 43 5 = nI l) : Ct E 1 0 yX2_addLine cX2_addLine 3 none [.ref (E.ad 43), .int kd, .int am] u (.inl none) (alS u l kd am) := by
  refine ct_of (by decide) (Nat.le_of_ble_eq_true rfl) (fun X h hR hrt htab hargs hini => ?_)
  refine g_aload_n h dX2_addLine_0 rfl rfl ?_
  refine g_getI h fl_X2_27_2 sh_43 (by decide) rfl dX2_addLine_1 ?_
  refine g_top hx ?_
  refine g_if_lt (tgt := 66) h dX2_addLine_4 (by decide) (fun c4 => ?_) (fun c4 => ?_)
  · have n4 := lt_n (by omega) (by omega) (show nI (l) < nI (0) from c4)
    omega
  · have n4 := nlt_n (by omega) (by omega) (show ¬ nI (l) < nI (0) from c4)
    refine g_aload_n h dX2_addLine_7 rfl rfl ?_
    refine g_getI h fl_X2_27_2 sh_43 (by decide) rfl dX2_addLine_8 ?_
    refine g_top hx ?_
    refine g_bipush (v := nI 12) h dX2_addLine_11 (by decide) ?_
    refine g_icmp_ge (tgt := 66) h dX2_addLine_13 (by decide) (fun c13 => ?_) (fun c13 => ?_)
    · have n13 := le_n (by omega) (by omega) (show nI (12) ≤ nI (l) from c13)
      omega
    · have n13 := nle_n (by omega) (by omega) (show ¬ nI (12) ≤ nI (l) from c13)
      refine g_aload_n h dX2_addLine_16 rfl rfl ?_
      refine g_getR h fl_X2_18_2 sh_43 (by decide) rfl dX2_addLine_17 ?_
      refine g_aload_n h dX2_addLine_20 rfl rfl ?_
      refine g_getI h fl_X2_27_2 sh_43 (by decide) rfl dX2_addLine_21 ?_
      refine g_top hx ?_
      refine g_iload_n h dX2_addLine_24 rfl rfl ?_
      refine g_iast h _ _ _ sh_46 (by decide) (by decide) rfl (by omega) dX2_addLine_25 ?_
      refine g_aload_n h dX2_addLine_26 rfl rfl ?_
      refine g_getR h fl_X2_21_2 sh_43 (by decide) rfl dX2_addLine_27 ?_
      refine g_aload_n h dX2_addLine_30 rfl rfl ?_
      refine g_getI h fl_X2_27_2 sh_43 (by decide) rfl dX2_addLine_31 ?_
      refine g_top (y := nI l) (by simp [su, hx]) ?_
      refine g_iload_n h dX2_addLine_34 rfl rfl ?_
      refine g_iast h _ _ _ sh_47 (by decide) (by decide) rfl (by omega) dX2_addLine_35 ?_
      refine g_aload_n h dX2_addLine_36 rfl rfl ?_
      refine g_getR h fl_X2_15_2 sh_43 (by decide) rfl dX2_addLine_37 ?_
      refine g_aload_n h dX2_addLine_40 rfl rfl ?_
      refine g_getI h fl_X2_27_2 sh_43 (by decide) rfl dX2_addLine_41 ?_
      refine g_top (y := nI l) (by simp [su, hx]) ?_
      refine g_iconst (v := nI 1) h dX2_addLine_44 (by decide) ?_
      refine g_iadd h dX2_addLine_45 ?_
      refine g_top (nI_add l 1) ?_
      refine g_aload_n h dX2_addLine_46 rfl rfl ?_
      refine g_getR h fl_X2_15_2 sh_43 (by decide) rfl dX2_addLine_47 ?_
      refine g_aload_n h dX2_addLine_50 rfl rfl ?_
      refine g_getI h fl_X2_27_2 sh_43 (by decide) rfl dX2_addLine_51 ?_
      refine g_top (y := nI l) (by simp [su, hx]) ?_
      refine g_iald h _ _ _ sh_45 (by decide) (by decide) rfl (by omega) dX2_addLine_54 ?_
      refine g_top (y := u 45 l) (by simp [su]) ?_
      refine g_iast h _ _ _ sh_45 (by decide) (by decide) rfl (by omega) dX2_addLine_55 ?_
      refine g_aload_n h dX2_addLine_56 rfl rfl ?_
      refine g_dup h dX2_addLine_57 rfl ?_
      refine g_getI h fl_X2_27_2 sh_43 (by decide) rfl dX2_addLine_58 ?_
      refine g_top (y := nI l) (by simp [su, hx]) ?_
      refine g_iconst (v := nI 1) h dX2_addLine_61 (by decide) ?_
      refine g_iadd h dX2_addLine_62 ?_
      refine g_top (nI_add l 1) ?_
      refine g_putI h pfl_X2_27_2 sh_43 (by decide) rfl dX2_addLine_63 ?_
      exact g_vret h hrt dX2_addLine_66 (by omega) rfl rfl
def adS (u : Sto) (l b : Nat) (w : Int32) : Sto := if b < 400 then su (su u 44 b w) 45 l (nI (b + 1)) else u
set_option maxHeartbeats 1000000 in
theorem c_X2_addWord {E : EE} (l b : Nat) (hl0 : 0 < l) (hl : l ≤ 12) (hb9 : b ≤ 1000) (w : Int32) (u : Sto) (hx : u 43 5 = nI l) (hb : u 45 l = nI b) : Ct E 1 0 yX2_addWord cX2_addWord 2 none [.ref (E.ad 43), .int w] u (.inl none) (adS u l b w) := by
  refine ct_of (by decide) (Nat.le_of_ble_eq_true rfl) (fun X h hR hrt htab hargs hini => ?_)
  refine g_aload_n h dX2_addWord_0 rfl rfl ?_
  refine g_getI h fl_X2_27_2 sh_43 (by decide) rfl dX2_addWord_1 ?_
  refine g_top hx ?_
  refine g_if_le (tgt := 50) h dX2_addWord_4 (by decide) (fun c4 => ?_) (fun c4 => ?_)
  · have n4 := le_n (by omega) (by omega) (show nI (l) ≤ nI (0) from c4)
    omega
  · have n4 := nle_n (by omega) (by omega) (show ¬ nI (l) ≤ nI (0) from c4)
    refine g_aload_n h dX2_addWord_7 rfl rfl ?_
    refine g_getR h fl_X2_15_2 sh_43 (by decide) rfl dX2_addWord_8 ?_
    refine g_aload_n h dX2_addWord_11 rfl rfl ?_
    refine g_getI h fl_X2_27_2 sh_43 (by decide) rfl dX2_addWord_12 ?_
    refine g_top hx ?_
    refine g_iald h _ _ _ sh_45 (by decide) (by decide) rfl (by omega) dX2_addWord_15 ?_
    refine g_top hb ?_
    refine g_sipush (v := nI 400) h dX2_addWord_16 (by decide) ?_
    refine g_icmp_ge (tgt := 50) h dX2_addWord_19 (by decide) (fun c19 => ?_) (fun c19 => ?_)
    · have n19 := le_n (by omega) (by omega) (show nI (400) ≤ nI (b) from c19)
      exact g_vret h hrt dX2_addWord_50 (by omega) rfl (by rw [adS]; split <;> first | rfl | omega)
    · have n19 := nle_n (by omega) (by omega) (show ¬ nI (400) ≤ nI (b) from c19)
      refine g_aload_n h dX2_addWord_22 rfl rfl ?_
      refine g_getR h fl_X2_9_2 sh_43 (by decide) rfl dX2_addWord_23 ?_
      refine g_aload_n h dX2_addWord_26 rfl rfl ?_
      refine g_getR h fl_X2_15_2 sh_43 (by decide) rfl dX2_addWord_27 ?_
      refine g_aload_n h dX2_addWord_30 rfl rfl ?_
      refine g_getI h fl_X2_27_2 sh_43 (by decide) rfl dX2_addWord_31 ?_
      refine g_top hx ?_
      refine g_iald h _ _ _ sh_45 (by decide) (by decide) rfl (by omega) dX2_addWord_34 ?_
      refine g_top hb ?_
      refine g_iload_n h dX2_addWord_35 rfl rfl ?_
      refine g_iast h _ _ _ sh_44 (by decide) (by decide) rfl (by omega) dX2_addWord_36 ?_
      refine g_aload_n h dX2_addWord_37 rfl rfl ?_
      refine g_getR h fl_X2_15_2 sh_43 (by decide) rfl dX2_addWord_38 ?_
      refine g_aload_n h dX2_addWord_41 rfl rfl ?_
      refine g_getI h fl_X2_27_2 sh_43 (by decide) rfl dX2_addWord_42 ?_
      refine g_top (y := nI l) (by simp [su, hx]) ?_
      refine g_dup2 h dX2_addWord_45 rfl rfl ?_
      refine g_iald h _ _ _ sh_45 (by decide) (by decide) rfl (by omega) dX2_addWord_46 ?_
      refine g_top (y := nI b) (by simp [su, hb]) ?_
      refine g_iconst (v := nI 1) h dX2_addWord_47 (by decide) ?_
      refine g_iadd h dX2_addWord_48 ?_
      refine g_top (nI_add b 1) ?_
      refine g_iast h _ _ _ sh_45 (by decide) (by decide) rfl (by omega) dX2_addWord_49 ?_
      exact g_vret h hrt dX2_addWord_50 (by omega) rfl (by rw [adS]; split <;> first | rfl | omega)
def jn (w l r : Int32) : Int32 := if w = -13 then l &&& r else if w = -12 then l ||| r else if w = -11 then b2 (¬ l ≤ r) else if w = -10 then b2 (¬ r ≤ l) else if w = -9 then l + r else l ||| r
set_option maxHeartbeats 1000000 in
theorem c_X2_join {E : EE} (w l r : Int32) (u : Sto) : Ct E 1 0 yX2_join cX2_join 3 (some .int) [.int w, .int l, .int r] u (.inl (some (.int (jn w l r)))) (u) := by
  refine ct_of (by decide) (Nat.le_of_ble_eq_true rfl) (fun X h hR hrt htab hargs hini => ?_)
  refine g_iload_n h dX2_join_0 rfl rfl ?_
  refine g_swV (v := -13) (i := 0) (tgt := 62) h dX2_join_1 (by decide) (by decide) rfl (by decide) (fun e1_0 => ?_) (fun e1_0 => ?_)
  · refine g_iload_n h dX2_join_62 rfl rfl ?_
    refine g_iload_n h dX2_join_63 rfl rfl ?_
    refine g_iand h dX2_join_64 ?_
    exact g_iret h hrt dX2_join_65 (by omega) (by simp_all [jn, b2]) rfl
  refine g_swV (v := -12) (i := 1) (tgt := 66) h dX2_join_1 (by decide) (by decide) rfl (by decide) (fun e1_1 => ?_) (fun e1_1 => ?_)
  · refine g_iload_n h dX2_join_66 rfl rfl ?_
    refine g_iload_n h dX2_join_67 rfl rfl ?_
    refine g_ior h dX2_join_68 ?_
    exact g_iret h hrt dX2_join_69 (by omega) (by simp_all [jn, b2]) rfl
  refine g_swV (v := -11) (i := 2) (tgt := 51) h dX2_join_1 (by decide) (by decide) rfl (by decide) (fun e1_2 => ?_) (fun e1_2 => ?_)
  · refine g_iload_n h dX2_join_51 rfl rfl ?_
    refine g_iload_n h dX2_join_52 rfl rfl ?_
    refine g_icmp_le (tgt := 60) h dX2_join_53 (by decide) (fun c53 => ?_) (fun c53 => ?_)
    · refine g_iconst (v := nI 0) h dX2_join_60 (by decide) ?_
      exact g_iret h hrt dX2_join_61 (by omega) (by simp_all [jn, b2]) rfl
    · refine g_iconst (v := nI 1) h dX2_join_56 (by decide) ?_
      refine g_goto (tgt := 61) h dX2_join_57 (by decide) ?_
      exact g_iret h hrt dX2_join_61 (by omega) (by simp_all [jn, b2]) rfl
  refine g_swV (v := -10) (i := 3) (tgt := 40) h dX2_join_1 (by decide) (by decide) rfl (by decide) (fun e1_3 => ?_) (fun e1_3 => ?_)
  · refine g_iload_n h dX2_join_40 rfl rfl ?_
    refine g_iload_n h dX2_join_41 rfl rfl ?_
    refine g_icmp_ge (tgt := 49) h dX2_join_42 (by decide) (fun c42 => ?_) (fun c42 => ?_)
    · refine g_iconst (v := nI 0) h dX2_join_49 (by decide) ?_
      exact g_iret h hrt dX2_join_50 (by omega) (by simp_all [jn, b2]) rfl
    · refine g_iconst (v := nI 1) h dX2_join_45 (by decide) ?_
      refine g_goto (tgt := 50) h dX2_join_46 (by decide) ?_
      exact g_iret h hrt dX2_join_50 (by omega) (by simp_all [jn, b2]) rfl
  refine g_swV (v := -9) (i := 4) (tgt := 36) h dX2_join_1 (by decide) (by decide) rfl (by decide) (fun e1_4 => ?_) (fun e1_4 => ?_)
  · refine g_iload_n h dX2_join_36 rfl rfl ?_
    refine g_iload_n h dX2_join_37 rfl rfl ?_
    refine g_iadd h dX2_join_38 ?_
    exact g_iret h hrt dX2_join_39 (by omega) (by simp_all [jn, b2]) rfl
  refine g_swO (tgt := 66) h dX2_join_1 (by have := lv_neT e1_0 (show (-13 : Int32).toInt = -13 by decide); have := lv_neT e1_1 (show (-12 : Int32).toInt = -12 by decide); have := lv_neT e1_2 (show (-11 : Int32).toInt = -11 by decide); have := lv_neT e1_3 (show (-10 : Int32).toInt = -10 by decide); have := lv_neT e1_4 (show (-9 : Int32).toInt = -9 by decide); omega) (by decide) ?_
  refine g_iload_n h dX2_join_66 rfl rfl ?_
  refine g_iload_n h dX2_join_67 rfl rfl ?_
  refine g_ior h dX2_join_68 ?_
  exact g_iret h hrt dX2_join_69 (by omega) (by simp_all [jn, b2]) rfl
