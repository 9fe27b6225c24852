def rollL : List Nat := [10, 34, 58]
def lawL : List Nat := [19, 43, 67]
theorem sh_roll0 : rollL.all (fun t => decide (shp t = .inl (4, [some (t+1), some (t+2), some (t+3), some (t+4), some (t+5), some (t+6), some (t+7), some (t+8), none, none, none, none, none])) && decide (shp (t+1) = .inr (.inl (0, 10))) && decide (shp (t+2) = .inr (.inl (0, 10))) && decide (shp (t+3) = .inr (.inl (0, 10))) && decide (shp (t+4) = .inr (.inl (0, 168))) && decide (shp (t+5) = .inr (.inl (0, 8))) && decide (shp (t+6) = .inr (.inl (0, 8))) && decide (shp (t+7) = .inr (.inl (0, 8))) && decide (shp (t+8) = .inr (.inl (0, 8))) && decide (t + 8 < shN)) = true := by decide +kernel
theorem sh_roll : ∀ t ∈ rollL, shp t = .inl (4, [some (t+1), some (t+2), some (t+3), some (t+4), some (t+5), some (t+6), some (t+7), some (t+8), none, none, none, none, none]) ∧ shp (t+1) = .inr (.inl (0, 10)) ∧ shp (t+2) = .inr (.inl (0, 10)) ∧ shp (t+3) = .inr (.inl (0, 10)) ∧ shp (t+4) = .inr (.inl (0, 168)) ∧ shp (t+5) = .inr (.inl (0, 8)) ∧ shp (t+6) = .inr (.inl (0, 8)) ∧ shp (t+7) = .inr (.inl (0, 8)) ∧ shp (t+8) = .inr (.inl (0, 8)) ∧ t + 8 < shN := by
  intro t ht
  have h := List.all_eq_true.mp sh_roll0 t ht
  simp only [Bool.and_eq_true, decide_eq_true_eq] at h
  obtain ⟨⟨⟨⟨⟨⟨⟨⟨⟨h1, h2⟩, h3⟩, h4⟩, h5⟩, h6⟩, h7⟩, h8⟩, h9⟩, h10⟩ := h
  exact ⟨h1, h2, h3, h4, h5, h6, h7, h8, h9, h10⟩
theorem sh_law0 : lawL.all (fun t => decide (shp t = .inl (2, [some (t+1), some (t+2), some (t+3), some (t+4), some (t+5), none])) && decide (shp (t+1) = .inr (.inl (0, 400))) && decide (shp (t+2) = .inr (.inl (0, 13))) && decide (shp (t+3) = .inr (.inl (0, 12))) && decide (shp (t+4) = .inr (.inl (0, 12))) && decide (shp (t+5) = .inr (.inl (0, 40))) && decide (t + 5 < shN)) = true := by decide +kernel
theorem sh_law : ∀ t ∈ lawL, shp t = .inl (2, [some (t+1), some (t+2), some (t+3), some (t+4), some (t+5), none]) ∧ shp (t+1) = .inr (.inl (0, 400)) ∧ shp (t+2) = .inr (.inl (0, 13)) ∧ shp (t+3) = .inr (.inl (0, 12)) ∧ shp (t+4) = .inr (.inl (0, 12)) ∧ shp (t+5) = .inr (.inl (0, 40)) ∧ t + 5 < shN := by
  intro t ht
  have h := List.all_eq_true.mp sh_law0 t ht
  simp only [Bool.and_eq_true, decide_eq_true_eq] at h
  obtain ⟨⟨⟨⟨⟨⟨h1, h2⟩, h3⟩, h4⟩, h5⟩, h6⟩, h7⟩ := h
  exact ⟨h1, h2, h3, h4, h5, h6, h7⟩
/-- an entry of the log -/
def lgE (w r a h : Int32) : Int32 := ((w <<< (nI 15 &&& 31)) ||| (r <<< (nI 7 &&& 31)) ||| (a <<< (nI 3 &&& 31))) ||| h
def enT (u : Sto) (t : Nat) (r a h : Int32) : Sto := su (su (su u (t + 6) (ix (u t 6)) (lgE (u t 9) r a h)) t 6 (nI ((ix (u t 6) + 1) % 80))) t 7 (mnI (u t 7 + nI 1) (nI 80))
theorem su_ne2 {u : Sto} {k j a b : Nat} {v : Int32} (h : a ≠ k) : su u k j v a b = u a b := by rw [su_cell _ _ h]
theorem su_slot {u : Sto} {k j b : Nat} {v : Int32} (h : b ≠ j) : su u k j v k b = u k b := by rw [su_ne]; intro q; exact h q.2
set_option maxHeartbeats 1000000 in
theorem c_X7_enter {E : EE} (t : Nat) (ht : t ∈ townL) (r a w : Int32) (ln : Nat) (hl : ln < 80) (u : Sto) (hln : u t 6 = nI ln) : Ct E 2 0 yX7_enter cX7_enter 4 none [.ref (E.ad t), .int r, .int a, .int w] u (.inl none) (enT u t r a w) := by
  have hlt := (sh_town t ht).2.2.2.2.2.2.2
  have hix : ix (u t 6) = ln := by rw [hln]; exact ix_nI (by omega)
  refine ct_of (by decide) (Nat.le_of_ble_eq_true rfl) (fun X h hR hrt htab hargs hini => ?_)
  refine g_aload_n h dX7_enter_0 rfl rfl ?_
  refine g_getR h fl_X7_27_6 (sh_town t ht).1 (by omega) rfl dX7_enter_1 ?_
  refine g_aload_n h dX7_enter_4 rfl rfl ?_
  refine g_getI h fl_X7_46_6 (sh_town t ht).1 (by omega) rfl dX7_enter_5 ?_
  refine g_top hln ?_
  refine g_aload_n h dX7_enter_8 rfl rfl ?_
  refine g_getI h fl_X7_55_6 (sh_town t ht).1 (by omega) rfl dX7_enter_9 ?_
  refine g_bipush (v := nI 15) h dX7_enter_12 (by decide) ?_
  refine g_ishl h dX7_enter_14 ?_
  refine g_iload_n h dX7_enter_15 rfl rfl ?_
  refine g_bipush (v := nI 7) h dX7_enter_16 (by decide) ?_
  refine g_ishl h dX7_enter_18 ?_
  refine g_ior h dX7_enter_19 ?_
  refine g_iload_n h dX7_enter_20 rfl rfl ?_
  refine g_iconst (v := nI 3) h dX7_enter_21 (by decide) ?_
  refine g_ishl h dX7_enter_22 ?_
  refine g_ior h dX7_enter_23 ?_
  refine g_iload_n h dX7_enter_24 rfl rfl ?_
  refine g_ior h dX7_enter_25 ?_
  refine g_iast h _ _ _ (sh_town t ht).2.2.2.2.2.2.1 (by omega) (by decide) rfl (by omega) dX7_enter_26 ?_
  refine g_aload_n h dX7_enter_27 rfl rfl ?_
  refine g_aload_n h dX7_enter_28 rfl rfl ?_
  refine g_getI h fl_X7_46_6 (sh_town t ht).1 (by omega) rfl dX7_enter_29 ?_
  refine g_top (y := nI ln) (by rw [su_ne2 (by omega)]; exact hln) ?_
  refine g_iconst (v := nI 1) h dX7_enter_32 (by decide) ?_
  refine g_iadd h dX7_enter_33 ?_
  refine g_top (nI_add ln 1) ?_
  refine g_bipush (v := nI 80) h dX7_enter_34 (by decide) ?_
  refine g_irem h dX7_enter_36 (by decide) ?_
  refine g_top (pk_rem (a := ln + 1) (d := 80) (by omega) (by omega) (by omega)) ?_
  refine g_putI h pfl_X7_46_6 (sh_town t ht).1 (by omega) rfl dX7_enter_37 ?_
  refine g_aload_n h dX7_enter_40 rfl rfl ?_
  refine g_aload_n h dX7_enter_41 rfl rfl ?_
  refine g_getI h fl_X7_49_6 (sh_town t ht).1 (by omega) rfl dX7_enter_42 ?_
  refine g_top (y := u t 7) (by rw [su_slot (by omega), su_ne2 (by omega)]) ?_
  refine g_iconst (v := nI 1) h dX7_enter_45 (by decide) ?_
  refine g_iadd h dX7_enter_46 ?_
  refine g_bipush (v := nI 80) h dX7_enter_47 (by decide) ?_
  refine g_S h ls_X7_73 (c_J9_min_7cf53 _ _ _) (fitR hR (by decide) (by decide) (by omega)) rfl rfl (Nat.le_of_ble_eq_true rfl) dX7_enter_49 ?_
  refine g_putI h pfl_X7_49_6 (sh_town t ht).1 (by omega) rfl dX7_enter_52 ?_
  exact g_vret h hrt dX7_enter_55 (by omega) rfl (by rw [enT, hix]; rfl)
theorem fr_6 (u : Sto) (t r : Nat) (j : Nat) : frT u t r t j = u t j := by
  unfold frT
  rw [su_ne2 (by omega), su_ne2 (by omega)]
  split
  · rfl
  · rw [su_ne2 (by omega)]
theorem so_6 (u : Sto) (t r a j : Nat) : soT u t r a t j = u t j := by
  unfold soT
  rw [su_ne2 (by omega), su_ne2 (by omega), fr_6]
def ctT (u : Sto) (t r a : Nat) (w : Int32) : Sto := enT (soT u t r a) t (nI r) (nI a) w
set_option maxHeartbeats 1000000 in
theorem c_X7_comeTo {E : EE} (t : Nat) (ht : t ∈ townL) (r : Nat) (hr : r < 168) (a : Nat) (ha : a < 10) (w : Int32) (ln : Nat) (hl : ln < 80) (u : Sto) (hln : u t 6 = nI ln) (ho : tn (u (t + 1) r) 10) : Ct E 3 0 yX7_comeTo cX7_comeTo 4 none [.ref (E.ad t), .int (nI r), .int (nI a), .int w] u (.inl none) (ctT u t r a w) := by
  have hlt := (sh_town t ht).2.2.2.2.2.2.2
  refine ct_of (by decide) (Nat.le_of_ble_eq_true rfl) (fun X h hR hrt htab hargs hini => ?_)
  refine g_aload_n h dX7_comeTo_0 rfl rfl ?_
  refine g_iload_n h dX7_comeTo_1 rfl rfl ?_
  refine g_iload_n h dX7_comeTo_2 rfl rfl ?_
  refine g_V h lv_X7_65_X7 (sh_town t ht).1 (by omega) rfl (c_X7_setOwner t ht _ (by omega) _ (by omega) _ ho) (fitR hR (by decide) (by decide) (by omega)) rfl rfl (Nat.le_of_ble_eq_true rfl) dX7_comeTo_3 ?_
  refine g_aload_n h dX7_comeTo_6 rfl rfl ?_
  refine g_iload_n h dX7_comeTo_7 rfl rfl ?_
  refine g_iload_n h dX7_comeTo_8 rfl rfl ?_
  refine g_iload_n h dX7_comeTo_9 rfl rfl ?_
  refine g_V h lv_X7_69_X7 (sh_town t ht).1 (by omega) rfl (c_X7_enter t ht _ _ _ ln hl _ (by rw [so_6]; exact hln)) (fitR hR (by decide) (by decide) (by omega)) rfl rfl (Nat.le_of_ble_eq_true rfl) dX7_comeTo_10 ?_
  exact g_vret h hrt dX7_comeTo_13 (by omega) rfl rfl
theorem fm_log : ∀ ln, ln < 80 → ∀ k, k < 80 → fmI (nI ln - nI 1 - nI k) (nI 80) = nI ((ln + 79 - k) % 80) := by decide +kernel
set_option maxHeartbeats 1000000 in
theorem c_X7_entryAgo {E : EE} (t : Nat) (ht : t ∈ townL) (k : Nat) (hk : k < 80) (ln : Nat) (hl : ln < 80) (u : Sto) (hln : u t 6 = nI ln) : Ct E 2 0 yX7_entryAgo cX7_entryAgo 2 (some .int) [.ref (E.ad t), .int (nI k)] u (.inl (some (.int (u (t + 6) ((ln + 79 - k) % 80))))) (u) := by
  have hlt := (sh_town t ht).2.2.2.2.2.2.2
  refine ct_of (by decide) (Nat.le_of_ble_eq_true rfl) (fun X h hR hrt htab hargs hini => ?_)
  refine g_aload_n h dX7_entryAgo_0 rfl rfl ?_
  refine g_getR h fl_X7_27_6 (sh_town t ht).1 (by omega) rfl dX7_entryAgo_1 ?_
  refine g_aload_n h dX7_entryAgo_4 rfl rfl ?_
  refine g_getI h fl_X7_46_6 (sh_town t ht).1 (by omega) rfl dX7_entryAgo_5 ?_
  refine g_top hln ?_
  refine g_iconst (v := nI 1) h dX7_entryAgo_8 (by decide) ?_
  refine g_isub h dX7_entryAgo_9 ?_
  refine g_iload_n h dX7_entryAgo_10 rfl rfl ?_
  refine g_isub h dX7_entryAgo_11 ?_
  refine g_bipush (v := nI 80) h dX7_entryAgo_12 (by decide) ?_
  refine g_S h ls_X7_79 (c_J9_floorMod_7cf53 _ _ (by decide) _) (fitR hR (by decide) (by decide) (by omega)) rfl rfl (Nat.le_of_ble_eq_true rfl) dX7_entryAgo_14 ?_
  refine g_top (fm_log ln hl k hk) ?_
  refine g_iald h _ _ _ (sh_town t ht).2.2.2.2.2.2.1 (by omega) (by decide) rfl (Nat.mod_lt _ (by omega)) dX7_entryAgo_17 ?_
  exact g_iret h hrt dX7_entryAgo_18 (by omega) (by rfl) rfl
def sdN (x : Int32) : Int32 := 1103515245 * x + nI 12345
def drw (x : Int32) : Int32 := ((sdN x).toUInt32 >>> ((nI 16).toUInt32 &&& Int32.toUInt32 31)).toInt32 &&& nI 32767
set_option maxHeartbeats 1000000 in
theorem c_X7_draw {E : EE} (t : Nat) (ht : t ∈ townL) (u : Sto) : Ct E 1 0 yX7_draw cX7_draw 1 (some .int) [.ref (E.ad t)] u (.inl (some (.int (drw (u t 11))))) (su u t 11 (sdN (u t 11))) := by
  have hlt := (sh_town t ht).2.2.2.2.2.2.2
  refine ct_of (by decide) (Nat.le_of_ble_eq_true rfl) (fun X h hR hrt htab hargs hini => ?_)
  refine g_aload_n h dX7_draw_0 rfl rfl ?_
  refine g_ldcI h tw_6_113 dX7_draw_1 ?_
  refine g_aload_n h dX7_draw_3 rfl rfl ?_
  refine g_getI h fl_X7_30_6 (sh_town t ht).1 (by omega) rfl dX7_draw_4 ?_
  refine g_imul h dX7_draw_7 ?_
  refine g_sipush (v := nI 12345) h dX7_draw_8 (by decide) ?_
  refine g_iadd h dX7_draw_11 ?_
  refine g_putI h pfl_X7_30_6 (sh_town t ht).1 (by omega) rfl dX7_draw_12 ?_
  refine g_aload_n h dX7_draw_15 rfl rfl ?_
  refine g_getI h fl_X7_30_6 (sh_town t ht).1 (by omega) rfl dX7_draw_16 ?_
  refine g_bipush (v := nI 16) h dX7_draw_19 (by decide) ?_
  refine g_iushr h dX7_draw_21 ?_
  refine g_sipush (v := nI 32767) h dX7_draw_22 (by decide) ?_
  refine g_iand h dX7_draw_25 ?_
  exact g_iret h hrt dX7_draw_26 (by omega) (by rw [su_same]; rfl) rfl
def cpT (u : Sto) (t o : Nat) : Sto :=
  let u1 := sc u (t + 1) (cpy (u (o + 1)) (u (t + 1)) 168)
  let u2 := sc u1 (t + 2) (cpy (u1 (o + 2)) (u1 (t + 2)) 168)
  let u3 := sc u2 (t + 3) (cpy (u2 (o + 3)) (u2 (t + 3)) 168)
  let u4 := sc u3 (t + 4) (cpy (u3 (o + 4)) (u3 (t + 4)) 10)
  let u5 := sc u4 (t + 5) (cpy (u4 (o + 5)) (u4 (t + 5)) 10)
  let u6 := sc u5 (t + 6) (cpy (u5 (o + 6)) (u5 (t + 6)) 80)
  let v6 := su u6 t 6 (u6 o 6)
  let v7 := su v6 t 7 (v6 o 7)
  let v8 := su v7 t 8 (v7 o 8)
  let v9 := su v8 t 9 (v8 o 9)
  let v10 := su v9 t 10 (v9 o 10)
  let v11 := su v10 t 11 (v10 o 11)
  v11
set_option maxHeartbeats 1000000 in
theorem c_X7_copyFrom {E : EE} (t o : Nat) (ht : t ∈ townL) (ho : o ∈ townL) (u : Sto) : Ct E 3 0 yX7_copyFrom cX7_copyFrom 2 none [.ref (E.ad t), .ref (E.ad o)] u (.inl none) (cpT u t o) := by
  have hlt := (sh_town t ht).2.2.2.2.2.2.2
  have hlo := (sh_town o ho).2.2.2.2.2.2.2
  refine ct_of (by decide) (Nat.le_of_ble_eq_true rfl) (fun X h hR hrt htab hargs hini => ?_)
  refine g_aload_n h dX7_copyFrom_0 rfl rfl ?_
  refine g_getR h fl_X7_9_6 (sh_town o ho).1 (by omega) rfl dX7_copyFrom_1 ?_
  refine g_iconst (v := nI 0) h dX7_copyFrom_4 (by decide) ?_
  refine g_aload_n h dX7_copyFrom_5 rfl rfl ?_
  refine g_getR h fl_X7_9_6 (sh_town t ht).1 (by omega) rfl dX7_copyFrom_6 ?_
  refine g_iconst (v := nI 0) h dX7_copyFrom_9 (by decide) ?_
  refine g_sipush (v := nI 168) h dX7_copyFrom_10 (by decide) ?_
  refine g_copy h _ _ 168 tw_3_97 tw_3_99 tw_3_98 tw_1_14 (sh_town o ho).2.1 (sh_town t ht).2.1 (by omega) (by omega) (by decide) (by rw [hR]; decide) (Nat.le_of_ble_eq_true rfl) dX7_copyFrom_13 ?_
  refine g_aload_n h dX7_copyFrom_16 rfl rfl ?_
  refine g_getR h fl_X7_15_6 (sh_town o ho).1 (by omega) rfl dX7_copyFrom_17 ?_
  refine g_iconst (v := nI 0) h dX7_copyFrom_20 (by decide) ?_
  refine g_aload_n h dX7_copyFrom_21 rfl rfl ?_
  refine g_getR h fl_X7_15_6 (sh_town t ht).1 (by omega) rfl dX7_copyFrom_22 ?_
  refine g_iconst (v := nI 0) h dX7_copyFrom_25 (by decide) ?_
  refine g_sipush (v := nI 168) h dX7_copyFrom_26 (by decide) ?_
  refine g_copy h _ _ 168 tw_3_97 tw_3_99 tw_3_98 tw_1_14 (sh_town o ho).2.2.1 (sh_town t ht).2.2.1 (by omega) (by omega) (by decide) (by rw [hR]; decide) (Nat.le_of_ble_eq_true rfl) dX7_copyFrom_29 ?_
  refine g_aload_n h dX7_copyFrom_32 rfl rfl ?_
  refine g_getR h fl_X7_18_6 (sh_town o ho).1 (by omega) rfl dX7_copyFrom_33 ?_
  refine g_iconst (v := nI 0) h dX7_copyFrom_36 (by decide) ?_
  refine g_aload_n h dX7_copyFrom_37 rfl rfl ?_
  refine g_getR h fl_X7_18_6 (sh_town t ht).1 (by omega) rfl dX7_copyFrom_38 ?_
  refine g_iconst (v := nI 0) h dX7_copyFrom_41 (by decide) ?_
  refine g_sipush (v := nI 168) h dX7_copyFrom_42 (by decide) ?_
  refine g_copy h _ _ 168 tw_3_97 tw_3_99 tw_3_98 tw_1_14 (sh_town o ho).2.2.2.1 (sh_town t ht).2.2.2.1 (by omega) (by omega) (by decide) (by rw [hR]; decide) (Nat.le_of_ble_eq_true rfl) dX7_copyFrom_45 ?_
  refine g_aload_n h dX7_copyFrom_48 rfl rfl ?_
  refine g_getR h fl_X7_21_6 (sh_town o ho).1 (by omega) rfl dX7_copyFrom_49 ?_
  refine g_iconst (v := nI 0) h dX7_copyFrom_52 (by decide) ?_
  refine g_aload_n h dX7_copyFrom_53 rfl rfl ?_
  refine g_getR h fl_X7_21_6 (sh_town t ht).1 (by omega) rfl dX7_copyFrom_54 ?_
  refine g_iconst (v := nI 0) h dX7_copyFrom_57 (by decide) ?_
  refine g_bipush (v := nI 10) h dX7_copyFrom_58 (by decide) ?_
  refine g_copy h _ _ 10 tw_3_97 tw_3_99 tw_3_98 tw_1_14 (sh_town o ho).2.2.2.2.1 (sh_town t ht).2.2.2.2.1 (by omega) (by omega) (by decide) (by rw [hR]; decide) (Nat.le_of_ble_eq_true rfl) dX7_copyFrom_60 ?_
  refine g_aload_n h dX7_copyFrom_63 rfl rfl ?_
  refine g_getR h fl_X7_24_6 (sh_town o ho).1 (by omega) rfl dX7_copyFrom_64 ?_
  refine g_iconst (v := nI 0) h dX7_copyFrom_67 (by decide) ?_
  refine g_aload_n h dX7_copyFrom_68 rfl rfl ?_
  refine g_getR h fl_X7_24_6 (sh_town t ht).1 (by omega) rfl dX7_copyFrom_69 ?_
  refine g_iconst (v := nI 0) h dX7_copyFrom_72 (by decide) ?_
  refine g_bipush (v := nI 10) h dX7_copyFrom_73 (by decide) ?_
  refine g_copy h _ _ 10 tw_3_97 tw_3_99 tw_3_98 tw_1_14 (sh_town o ho).2.2.2.2.2.1 (sh_town t ht).2.2.2.2.2.1 (by omega) (by omega) (by decide) (by rw [hR]; decide) (Nat.le_of_ble_eq_true rfl) dX7_copyFrom_75 ?_
  refine g_aload_n h dX7_copyFrom_78 rfl rfl ?_
  refine g_getR h fl_X7_27_6 (sh_town o ho).1 (by omega) rfl dX7_copyFrom_79 ?_
  refine g_iconst (v := nI 0) h dX7_copyFrom_82 (by decide) ?_
  refine g_aload_n h dX7_copyFrom_83 rfl rfl ?_
  refine g_getR h fl_X7_27_6 (sh_town t ht).1 (by omega) rfl dX7_copyFrom_84 ?_
  refine g_iconst (v := nI 0) h dX7_copyFrom_87 (by decide) ?_
  refine g_bipush (v := nI 80) h dX7_copyFrom_88 (by decide) ?_
  refine g_copy h _ _ 80 tw_3_97 tw_3_99 tw_3_98 tw_1_14 (sh_town o ho).2.2.2.2.2.2.1 (sh_town t ht).2.2.2.2.2.2.1 (by omega) (by omega) (by decide) (by rw [hR]; decide) (Nat.le_of_ble_eq_true rfl) dX7_copyFrom_90 ?_
  refine g_aload_n h dX7_copyFrom_93 rfl rfl ?_
  refine g_aload_n h dX7_copyFrom_94 rfl rfl ?_
  refine g_getI h fl_X7_46_6 (sh_town o ho).1 (by omega) rfl dX7_copyFrom_95 ?_
  refine g_putI h pfl_X7_46_6 (sh_town t ht).1 (by omega) rfl dX7_copyFrom_98 ?_
  refine g_aload_n h dX7_copyFrom_101 rfl rfl ?_
  refine g_aload_n h dX7_copyFrom_102 rfl rfl ?_
  refine g_getI h fl_X7_49_6 (sh_town o ho).1 (by omega) rfl dX7_copyFrom_103 ?_
  refine g_putI h pfl_X7_49_6 (sh_town t ht).1 (by omega) rfl dX7_copyFrom_106 ?_
  refine g_aload_n h dX7_copyFrom_109 rfl rfl ?_
  refine g_aload_n h dX7_copyFrom_110 rfl rfl ?_
  refine g_getI h fl_X7_52_6 (sh_town o ho).1 (by omega) rfl dX7_copyFrom_111 ?_
  refine g_putI h pfl_X7_52_6 (sh_town t ht).1 (by omega) rfl dX7_copyFrom_114 ?_
  refine g_aload_n h dX7_copyFrom_117 rfl rfl ?_
  refine g_aload_n h dX7_copyFrom_118 rfl rfl ?_
  refine g_getI h fl_X7_55_6 (sh_town o ho).1 (by omega) rfl dX7_copyFrom_119 ?_
  refine g_putI h pfl_X7_55_6 (sh_town t ht).1 (by omega) rfl dX7_copyFrom_122 ?_
  refine g_aload_n h dX7_copyFrom_125 rfl rfl ?_
  refine g_aload_n h dX7_copyFrom_126 rfl rfl ?_
  refine g_getI h fl_X7_58_6 (sh_town o ho).1 (by omega) rfl dX7_copyFrom_127 ?_
  refine g_putI h pfl_X7_58_6 (sh_town t ht).1 (by omega) rfl dX7_copyFrom_130 ?_
  refine g_aload_n h dX7_copyFrom_133 rfl rfl ?_
  refine g_aload_n h dX7_copyFrom_134 rfl rfl ?_
  refine g_getI h fl_X7_30_6 (sh_town o ho).1 (by omega) rfl dX7_copyFrom_135 ?_
  refine g_putI h pfl_X7_30_6 (sh_town t ht).1 (by omega) rfl dX7_copyFrom_138 ?_
  exact g_vret h hrt dX7_copyFrom_141 (by omega) rfl rfl
def cpR (u : Sto) (t o : Nat) : Sto :=
  let u1 := sc u (t + 1) (cpy (u (o + 1)) (u (t + 1)) 10)
  let u2 := sc u1 (t + 2) (cpy (u1 (o + 2)) (u1 (t + 2)) 10)
  let u3 := sc u2 (t + 3) (cpy (u2 (o + 3)) (u2 (t + 3)) 10)
  let u4 := sc u3 (t + 4) (cpy (u3 (o + 4)) (u3 (t + 4)) 168)
  let u5 := sc u4 (t + 5) (cpy (u4 (o + 5)) (u4 (t + 5)) 8)
  let u6 := sc u5 (t + 6) (cpy (u5 (o + 6)) (u5 (t + 6)) 8)
  let u7 := sc u6 (t + 7) (cpy (u6 (o + 7)) (u6 (t + 7)) 8)
  let u8 := sc u7 (t + 8) (cpy (u7 (o + 8)) (u7 (t + 8)) 8)
  let v8 := su u8 t 8 (u8 o 8)
  let v9 := su v8 t 9 (v8 o 9)
  let v10 := su v9 t 10 (v9 o 10)
  let v11 := su v10 t 11 (v10 o 11)
  let v12 := su v11 t 12 (v11 o 12)
  v12
set_option maxHeartbeats 1000000 in
theorem c_X4_copyFrom {E : EE} (t o : Nat) (ht : t ∈ rollL) (ho : o ∈ rollL) (u : Sto) : Ct E 3 0 yX4_copyFrom cX4_copyFrom 2 none [.ref (E.ad t), .ref (E.ad o)] u (.inl none) (cpR u t o) := by
  have hlt := (sh_roll t ht).2.2.2.2.2.2.2.2.2
  have hlo := (sh_roll o ho).2.2.2.2.2.2.2.2.2
  refine ct_of (by decide) (Nat.le_of_ble_eq_true rfl) (fun X h hR hrt htab hargs hini => ?_)
  refine g_aload_n h dX4_copyFrom_0 rfl rfl ?_
  refine g_getR h fl_X4_9_4 (sh_roll o ho).1 (by omega) rfl dX4_copyFrom_1 ?_
  refine g_iconst (v := nI 0) h dX4_copyFrom_4 (by decide) ?_
  refine g_aload_n h dX4_copyFrom_5 rfl rfl ?_
  refine g_getR h fl_X4_9_4 (sh_roll t ht).1 (by omega) rfl dX4_copyFrom_6 ?_
  refine g_iconst (v := nI 0) h dX4_copyFrom_9 (by decide) ?_
  refine g_bipush (v := nI 10) h dX4_copyFrom_10 (by decide) ?_
  refine g_copy h _ _ 10 tw_3_113 tw_3_99 tw_3_98 tw_1_14 (sh_roll o ho).2.1 (sh_roll t ht).2.1 (by omega) (by omega) (by decide) (by rw [hR]; decide) (Nat.le_of_ble_eq_true rfl) dX4_copyFrom_12 ?_
  refine g_aload_n h dX4_copyFrom_15 rfl rfl ?_
  refine g_getR h fl_X4_15_4 (sh_roll o ho).1 (by omega) rfl dX4_copyFrom_16 ?_
  refine g_iconst (v := nI 0) h dX4_copyFrom_19 (by decide) ?_
  refine g_aload_n h dX4_copyFrom_20 rfl rfl ?_
  refine g_getR h fl_X4_15_4 (sh_roll t ht).1 (by omega) rfl dX4_copyFrom_21 ?_
  refine g_iconst (v := nI 0) h dX4_copyFrom_24 (by decide) ?_
  refine g_bipush (v := nI 10) h dX4_copyFrom_25 (by decide) ?_
  refine g_copy h _ _ 10 tw_3_113 tw_3_99 tw_3_98 tw_1_14 (sh_roll o ho).2.2.1 (sh_roll t ht).2.2.1 (by omega) (by omega) (by decide) (by rw [hR]; decide) (Nat.le_of_ble_eq_true rfl) dX4_copyFrom_27 ?_
  refine g_aload_n h dX4_copyFrom_30 rfl rfl ?_
  refine g_getR h fl_X4_18_4 (sh_roll o ho).1 (by omega) rfl dX4_copyFrom_31 ?_
  refine g_iconst (v := nI 0) h dX4_copyFrom_34 (by decide) ?_
  refine g_aload_n h dX4_copyFrom_35 rfl rfl ?_
  refine g_getR h fl_X4_18_4 (sh_roll t ht).1 (by omega) rfl dX4_copyFrom_36 ?_
  refine g_iconst (v := nI 0) h dX4_copyFrom_39 (by decide) ?_
  refine g_bipush (v := nI 10) h dX4_copyFrom_40 (by decide) ?_
  refine g_copy h _ _ 10 tw_3_113 tw_3_99 tw_3_98 tw_1_14 (sh_roll o ho).2.2.2.1 (sh_roll t ht).2.2.2.1 (by omega) (by omega) (by decide) (by rw [hR]; decide) (Nat.le_of_ble_eq_true rfl) dX4_copyFrom_42 ?_
  refine g_aload_n h dX4_copyFrom_45 rfl rfl ?_
  refine g_getR h fl_X4_21_4 (sh_roll o ho).1 (by omega) rfl dX4_copyFrom_46 ?_
  refine g_iconst (v := nI 0) h dX4_copyFrom_49 (by decide) ?_
  refine g_aload_n h dX4_copyFrom_50 rfl rfl ?_
  refine g_getR h fl_X4_21_4 (sh_roll t ht).1 (by omega) rfl dX4_copyFrom_51 ?_
  refine g_iconst (v := nI 0) h dX4_copyFrom_54 (by decide) ?_
  refine g_sipush (v := nI 168) h dX4_copyFrom_55 (by decide) ?_
  refine g_copy h _ _ 168 tw_3_113 tw_3_99 tw_3_98 tw_1_14 (sh_roll o ho).2.2.2.2.1 (sh_roll t ht).2.2.2.2.1 (by omega) (by omega) (by decide) (by rw [hR]; decide) (Nat.le_of_ble_eq_true rfl) dX4_copyFrom_58 ?_
  refine g_aload_n h dX4_copyFrom_61 rfl rfl ?_
  refine g_getR h fl_X4_24_4 (sh_roll o ho).1 (by omega) rfl dX4_copyFrom_62 ?_
  refine g_iconst (v := nI 0) h dX4_copyFrom_65 (by decide) ?_
  refine g_aload_n h dX4_copyFrom_66 rfl rfl ?_
  refine g_getR h fl_X4_24_4 (sh_roll t ht).1 (by omega) rfl dX4_copyFrom_67 ?_
  refine g_iconst (v := nI 0) h dX4_copyFrom_70 (by decide) ?_
  refine g_bipush (v := nI 8) h dX4_copyFrom_71 (by decide) ?_
  refine g_copy h _ _ 8 tw_3_113 tw_3_99 tw_3_98 tw_1_14 (sh_roll o ho).2.2.2.2.2.1 (sh_roll t ht).2.2.2.2.2.1 (by omega) (by omega) (by decide) (by rw [hR]; decide) (Nat.le_of_ble_eq_true rfl) dX4_copyFrom_73 ?_
  refine g_aload_n h dX4_copyFrom_76 rfl rfl ?_
  refine g_getR h fl_X4_27_4 (sh_roll o ho).1 (by omega) rfl dX4_copyFrom_77 ?_
  refine g_iconst (v := nI 0) h dX4_copyFrom_80 (by decide) ?_
  refine g_aload_n h dX4_copyFrom_81 rfl rfl ?_
  refine g_getR h fl_X4_27_4 (sh_roll t ht).1 (by omega) rfl dX4_copyFrom_82 ?_
  refine g_iconst (v := nI 0) h dX4_copyFrom_85 (by decide) ?_
  refine g_bipush (v := nI 8) h dX4_copyFrom_86 (by decide) ?_
  refine g_copy h _ _ 8 tw_3_113 tw_3_99 tw_3_98 tw_1_14 (sh_roll o ho).2.2.2.2.2.2.1 (sh_roll t ht).2.2.2.2.2.2.1 (by omega) (by omega) (by decide) (by rw [hR]; decide) (Nat.le_of_ble_eq_true rfl) dX4_copyFrom_88 ?_
  refine g_aload_n h dX4_copyFrom_91 rfl rfl ?_
  refine g_getR h fl_X4_30_4 (sh_roll o ho).1 (by omega) rfl dX4_copyFrom_92 ?_
  refine g_iconst (v := nI 0) h dX4_copyFrom_95 (by decide) ?_
  refine g_aload_n h dX4_copyFrom_96 rfl rfl ?_
  refine g_getR h fl_X4_30_4 (sh_roll t ht).1 (by omega) rfl dX4_copyFrom_97 ?_
  refine g_iconst (v := nI 0) h dX4_copyFrom_100 (by decide) ?_
  refine g_bipush (v := nI 8) h dX4_copyFrom_101 (by decide) ?_
  refine g_copy h _ _ 8 tw_3_113 tw_3_99 tw_3_98 tw_1_14 (sh_roll o ho).2.2.2.2.2.2.2.1 (sh_roll t ht).2.2.2.2.2.2.2.1 (by omega) (by omega) (by decide) (by rw [hR]; decide) (Nat.le_of_ble_eq_true rfl) dX4_copyFrom_103 ?_
  refine g_aload_n h dX4_copyFrom_106 rfl rfl ?_
  refine g_getR h fl_X4_33_4 (sh_roll o ho).1 (by omega) rfl dX4_copyFrom_107 ?_
  refine g_iconst (v := nI 0) h dX4_copyFrom_110 (by decide) ?_
  refine g_aload_n h dX4_copyFrom_111 rfl rfl ?_
  refine g_getR h fl_X4_33_4 (sh_roll t ht).1 (by omega) rfl dX4_copyFrom_112 ?_
  refine g_iconst (v := nI 0) h dX4_copyFrom_115 (by decide) ?_
  refine g_bipush (v := nI 8) h dX4_copyFrom_116 (by decide) ?_
  refine g_copy h _ _ 8 tw_3_113 tw_3_99 tw_3_98 tw_1_14 (sh_roll o ho).2.2.2.2.2.2.2.2.1 (sh_roll t ht).2.2.2.2.2.2.2.2.1 (by omega) (by omega) (by decide) (by rw [hR]; decide) (Nat.le_of_ble_eq_true rfl) dX4_copyFrom_118 ?_
  refine g_aload_n h dX4_copyFrom_121 rfl rfl ?_
  refine g_aload_n h dX4_copyFrom_122 rfl rfl ?_
  refine g_getI h fl_X4_42_4 (sh_roll o ho).1 (by omega) rfl dX4_copyFrom_123 ?_
  refine g_putI h pfl_X4_42_4 (sh_roll t ht).1 (by omega) rfl dX4_copyFrom_126 ?_
  refine g_aload_n h dX4_copyFrom_129 rfl rfl ?_
  refine g_aload_n h dX4_copyFrom_130 rfl rfl ?_
  refine g_getI h fl_X4_46_4 (sh_roll o ho).1 (by omega) rfl dX4_copyFrom_131 ?_
  refine g_putI h pfl_X4_46_4 (sh_roll t ht).1 (by omega) rfl dX4_copyFrom_134 ?_
  refine g_aload_n h dX4_copyFrom_137 rfl rfl ?_
  refine g_aload_n h dX4_copyFrom_138 rfl rfl ?_
  refine g_getI h fl_X4_49_4 (sh_roll o ho).1 (by omega) rfl dX4_copyFrom_139 ?_
  refine g_putI h pfl_X4_49_4 (sh_roll t ht).1 (by omega) rfl dX4_copyFrom_142 ?_
  refine g_aload_n h dX4_copyFrom_145 rfl rfl ?_
  refine g_aload_n h dX4_copyFrom_146 rfl rfl ?_
  refine g_getI h fl_X4_52_4 (sh_roll o ho).1 (by omega) rfl dX4_copyFrom_147 ?_
  refine g_putI h pfl_X4_52_4 (sh_roll t ht).1 (by omega) rfl dX4_copyFrom_150 ?_
  refine g_aload_n h dX4_copyFrom_153 rfl rfl ?_
  refine g_aload_n h dX4_copyFrom_154 rfl rfl ?_
  refine g_getI h fl_X4_55_4 (sh_roll o ho).1 (by omega) rfl dX4_copyFrom_155 ?_
  refine g_putI h pfl_X4_55_4 (sh_roll t ht).1 (by omega) rfl dX4_copyFrom_158 ?_
  exact g_vret h hrt dX4_copyFrom_161 (by omega) rfl rfl
def cpL (u : Sto) (t o : Nat) : Sto :=
  let u1 := sc u (t + 1) (cpy (u (o + 1)) (u (t + 1)) 400)
  let u2 := sc u1 (t + 2) (cpy (u1 (o + 2)) (u1 (t + 2)) 13)
  let u3 := sc u2 (t + 3) (cpy (u2 (o + 3)) (u2 (t + 3)) 12)
  let u4 := sc u3 (t + 4) (cpy (u3 (o + 4)) (u3 (t + 4)) 12)
  let v5 := su u4 t 5 (u4 o 5)
  v5
set_option maxHeartbeats 1000000 in
theorem c_X2_copyFrom {E : EE} (t o : Nat) (ht : t ∈ lawL) (ho : o ∈ lawL) (u : Sto) : Ct E 3 0 yX2_copyFrom cX2_copyFrom 2 none [.ref (E.ad t), .ref (E.ad o)] u (.inl none) (cpL u t o) := by
  have hlt := (sh_law t ht).2.2.2.2.2.2
  have hlo := (sh_law o ho).2.2.2.2.2.2
  refine ct_of (by decide) (Nat.le_of_ble_eq_true rfl) (fun X h hR hrt htab hargs hini => ?_)
  refine g_aload_n h dX2_copyFrom_0 rfl rfl ?_
  refine g_getR h fl_X2_9_2 (sh_law o ho).1 (by omega) rfl dX2_copyFrom_1 ?_
  refine g_iconst (v := nI 0) h dX2_copyFrom_4 (by decide) ?_
  refine g_aload_n h dX2_copyFrom_5 rfl rfl ?_
  refine g_getR h fl_X2_9_2 (sh_law t ht).1 (by omega) rfl dX2_copyFrom_6 ?_
  refine g_iconst (v := nI 0) h dX2_copyFrom_9 (by decide) ?_
  refine g_sipush (v := nI 400) h dX2_copyFrom_10 (by decide) ?_
  refine g_copy h _ _ 400 tw_3_118 tw_3_99 tw_3_98 tw_1_14 (sh_law o ho).2.1 (sh_law t ht).2.1 (by omega) (by omega) (by decide) (by rw [hR]; decide) (Nat.le_of_ble_eq_true rfl) dX2_copyFrom_13 ?_
  refine g_aload_n h dX2_copyFrom_16 rfl rfl ?_
  refine g_getR h fl_X2_15_2 (sh_law o ho).1 (by omega) rfl dX2_copyFrom_17 ?_
  refine g_iconst (v := nI 0) h dX2_copyFrom_20 (by decide) ?_
  refine g_aload_n h dX2_copyFrom_21 rfl rfl ?_
  refine g_getR h fl_X2_15_2 (sh_law t ht).1 (by omega) rfl dX2_copyFrom_22 ?_
  refine g_iconst (v := nI 0) h dX2_copyFrom_25 (by decide) ?_
  refine g_bipush (v := nI 13) h dX2_copyFrom_26 (by decide) ?_
  refine g_copy h _ _ 13 tw_3_118 tw_3_99 tw_3_98 tw_1_14 (sh_law o ho).2.2.1 (sh_law t ht).2.2.1 (by omega) (by omega) (by decide) (by rw [hR]; decide) (Nat.le_of_ble_eq_true rfl) dX2_copyFrom_28 ?_
  refine g_aload_n h dX2_copyFrom_31 rfl rfl ?_
  refine g_getR h fl_X2_18_2 (sh_law o ho).1 (by omega) rfl dX2_copyFrom_32 ?_
  refine g_iconst (v := nI 0) h dX2_copyFrom_35 (by decide) ?_
  refine g_aload_n h dX2_copyFrom_36 rfl rfl ?_
  refine g_getR h fl_X2_18_2 (sh_law t ht).1 (by omega) rfl dX2_copyFrom_37 ?_
  refine g_iconst (v := nI 0) h dX2_copyFrom_40 (by decide) ?_
  refine g_bipush (v := nI 12) h dX2_copyFrom_41 (by decide) ?_
  refine g_copy h _ _ 12 tw_3_118 tw_3_99 tw_3_98 tw_1_14 (sh_law o ho).2.2.2.1 (sh_law t ht).2.2.2.1 (by omega) (by omega) (by decide) (by rw [hR]; decide) (Nat.le_of_ble_eq_true rfl) dX2_copyFrom_43 ?_
  refine g_aload_n h dX2_copyFrom_46 rfl rfl ?_
  refine g_getR h fl_X2_21_2 (sh_law o ho).1 (by omega) rfl dX2_copyFrom_47 ?_
  refine g_iconst (v := nI 0) h dX2_copyFrom_50 (by decide) ?_
  refine g_aload_n h dX2_copyFrom_51 rfl rfl ?_
  refine g_getR h fl_X2_21_2 (sh_law t ht).1 (by omega) rfl dX2_copyFrom_52 ?_
  refine g_iconst (v := nI 0) h dX2_copyFrom_55 (by decide) ?_
  refine g_bipush (v := nI 12) h dX2_copyFrom_56 (by decide) ?_
  refine g_copy h _ _ 12 tw_3_118 tw_3_99 tw_3_98 tw_1_14 (sh_law o ho).2.2.2.2.1 (sh_law t ht).2.2.2.2.1 (by omega) (by omega) (by decide) (by rw [hR]; decide) (Nat.le_of_ble_eq_true rfl) dX2_copyFrom_58 ?_
  refine g_aload_n h dX2_copyFrom_61 rfl rfl ?_
  refine g_aload_n h dX2_copyFrom_62 rfl rfl ?_
  refine g_getI h fl_X2_27_2 (sh_law o ho).1 (by omega) rfl dX2_copyFrom_63 ?_
  refine g_putI h pfl_X2_27_2 (sh_law t ht).1 (by omega) rfl dX2_copyFrom_66 ?_
  exact g_vret h hrt dX2_copyFrom_69 (by omega) rfl rfl
