theorem nI_ge0 {x : Int32} (h : 0 ≤ x) : ∃ a, a < 2 ^ 31 ∧ x = nI a := by
  have e1 : 0 ≤ x.toInt := by
    have := Int32.le_iff_toInt_le.mp h
    have h8 : (0 : Int32).toInt = 0 := by decide
    omega
  have e2 := Int32.toInt_lt x
  refine ⟨x.toInt.toNat, by omega, ?_⟩
  apply Int32.toInt_inj.mp
  rw [nI_toInt (by omega)]
  omega
abbrev okT (u : Sto) (x : Int32) : Prop := ¬ x < 0 ∧ x < u 10 8
abbrev okR (x : Int32) : Prop := ¬ x < 0 ∧ ¬ nI 168 ≤ x
abbrev okN (x a b : Int32) : Prop := ¬ x < a ∧ x ≤ b
theorem okT_n {u : Sto} {x : Int32} {T : Nat} (hT9 : T ≤ 10) (hT : u 10 8 = nI T) (h : okT u x) : ∃ a, a < T ∧ a < 10 ∧ ix (nI a) = a ∧ x = nI a := by
  obtain ⟨h1, h2⟩ := h
  rw [hT] at h2
  obtain ⟨a, ha, rfl⟩ := nI_ge0 (Int32.not_lt.mp h1)
  have := lt_n (by omega) (by omega) h2
  exact ⟨a, this, by omega, ix_nI (by omega), rfl⟩
theorem okR_n {x : Int32} (h : okR x) : ∃ r, r < 168 ∧ ix (nI r) = r ∧ x = nI r := by
  obtain ⟨h1, h2⟩ := h
  obtain ⟨a, ha, rfl⟩ := nI_ge0 (Int32.not_lt.mp h1)
  have := nle_n (by omega) (by omega) h2
  exact ⟨a, by omega, ix_nI (by omega), rfl⟩
abbrev PSp (p : Res × Sto) : Res → Sto → Prop := fun o w => o = p.1 ∧ sim w p.2
theorem psp {p : Res × Sto} {o : Res} {w W : Sto} (h : p = (o, W)) (hs : sim w W) : PSp p o w := by rw [h]; exact ⟨rfl, hs⟩
set_option maxHeartbeats 1000000 in
theorem g_nT {E : EE} {X : XX} {cc : ByteArray} {nL n pc mx L : Nat} {ls : List (Nat × Value)} {rest : List Value} {u : Sto} {P : Res → Sto → Prop} (h : CX E X RX10 cc nL) {x : Int32} {T : Nat}
    (hd : decode cc pc = .ok (.invokevirtual 143, 3)) (hR : X.R = rmL L mx) (hL : 9 ≤ L) (hn : n + 1 ≤ mx) (hTT : T ≤ 10 ∧ u 10 8 = nI T) (kx : ¬ (okT u x) → P (.inr ioob) u) (kk : (okT u x) → G E X (QMP E X P mx) nL n (pc + 3) ls rest u) (hro : (rest.map fun v => v.category).sum ≤ 8 := by decide) (htab : ∀ x ∈ X.c.exceptionTable.toList, False := by assumption) :
    G E X (QMP E X P mx) nL n pc ls (.int x :: .ref (E.ad 0) :: rest) u := by
  obtain ⟨hT9, hT⟩ := hTT
  by_cases hc : (okT u x)
  · exact g_V h lv_X10_143_X10 sh_0 (by decide) rfl (c_X10_needTenant_ok T hT9 x u hT (by rw [← hT]; exact hc)) (fitR hR (by omega) (by decide) (by omega)) rfl rfl hro hd (kk hc)
  · exact g_VXP h lv_X10_143_X10 lv_X10_143_X10_p sh_0 (by decide) rfl (c_X10_needTenant_x T hT9 x u hT (by rw [← hT]; exact hc)) (fitR hR (by omega) (by decide) (by omega)) rfl rfl hro hd htab (by omega) (kx hc)
set_option maxHeartbeats 1000000 in
theorem g_nR {E : EE} {X : XX} {cc : ByteArray} {nL n pc mx L : Nat} {ls : List (Nat × Value)} {rest : List Value} {u : Sto} {P : Res → Sto → Prop} (h : CX E X RX10 cc nL) {x : Int32}
    (hd : decode cc pc = .ok (.invokestatic 178, 3)) (hR : X.R = rmL L mx) (hL : 9 ≤ L) (hn : n + 1 ≤ mx) (kx : ¬ (okR x) → P (.inr ioob) u) (kk : (okR x) → G E X (QMP E X P mx) nL n (pc + 3) ls rest u) (hro : (rest.map fun v => v.category).sum ≤ 8 := by decide) (htab : ∀ x ∈ X.c.exceptionTable.toList, False := by assumption) :
    G E X (QMP E X P mx) nL n pc ls (.int x :: rest) u := by
  by_cases hc : (okR x)
  · exact g_S h ls_X10_178 (c_X10_needRoom_ok x u hc) (fitR hR (by omega) (by decide) (by omega)) rfl rfl hro hd (kk hc)
  · exact g_SXP h ls_X10_178 ls_X10_178_p (c_X10_needRoom_x x u hc) (fitR hR (by omega) (by decide) (by omega)) rfl rfl hro hd htab (by omega) (kx hc)
set_option maxHeartbeats 1000000 in
theorem g_nN {E : EE} {X : XX} {cc : ByteArray} {nL n pc mx L : Nat} {ls : List (Nat × Value)} {rest : List Value} {u : Sto} {P : Res → Sto → Prop} (h : CX E X RX10 cc nL) {x a b : Int32}
    (hd : decode cc pc = .ok (.invokestatic 232, 3)) (hR : X.R = rmL L mx) (hL : 9 ≤ L) (hn : n + 1 ≤ mx) (kx : ¬ (okN x a b) → P (.inr iae) u) (kk : (okN x a b) → G E X (QMP E X P mx) nL n (pc + 3) ls rest u) (hro : (rest.map fun v => v.category).sum ≤ 8 := by decide) (htab : ∀ x ∈ X.c.exceptionTable.toList, False := by assumption) :
    G E X (QMP E X P mx) nL n pc ls (.int b :: .int a :: .int x :: rest) u := by
  by_cases hc : (okN x a b)
  · exact g_S h ls_X10_232 (c_X10_needNumber_ok x a b u hc) (fitR hR (by omega) (by decide) (by omega)) rfl rfl hro hd (kk hc)
  · exact g_SXP h ls_X10_232 ls_X10_232_p (c_X10_needNumber_x x a b u hc) (fitR hR (by omega) (by decide) (by omega)) rfl rfl hro hd htab (by omega) (kx hc)
set_option maxHeartbeats 1000000 in
theorem g_nW {E : EE} {X : XX} {cc : ByteArray} {nL n pc mx L : Nat} {ls : List (Nat × Value)} {rest : List Value} {u : Sto} {P : Res → Sto → Prop} (h : CX E X RX10 cc nL) {x y : Int32}
    (hd : decode cc pc = .ok (.invokestatic 248, 3)) (hR : X.R = rmL L mx) (hL : 9 ≤ L) (hn : n + 1 ≤ mx) (kx : ¬ (¬ x = y) → P (.inr iae) u) (kk : (¬ x = y) → G E X (QMP E X P mx) nL n (pc + 3) ls rest u) (hro : (rest.map fun v => v.category).sum ≤ 8 := by decide) (htab : ∀ x ∈ X.c.exceptionTable.toList, False := by assumption) :
    G E X (QMP E X P mx) nL n pc ls (.int y :: .int x :: rest) u := by
  by_cases hc : (¬ x = y)
  · exact g_S h ls_X10_248 (c_X10_needTwo_ok x y u hc) (fitR hR (by omega) (by decide) (by omega)) rfl rfl hro hd (kk hc)
  · exact g_SXP h ls_X10_248 ls_X10_248_p (c_X10_needTwo_x x y u (Decidable.of_not_not hc)) (fitR hR (by omega) (by decide) (by omega)) rfl rfl hro hd htab (by omega) (kx hc)
set_option maxHeartbeats 1000000 in
theorem g_nA {E : EE} {X : XX} {cc : ByteArray} {nL n pc mx L : Nat} {ls : List (Nat × Value)} {rest : List Value} {u : Sto} {P : Res → Sto → Prop} (h : CX E X RX10 cc nL) {p : Prop} [Decidable p]
    (hd : decode cc pc = .ok (.invokestatic 218, 3)) (hR : X.R = rmL L mx) (hL : 9 ≤ L) (hn : n + 1 ≤ mx) (kx : ¬ (p) → P (.inr ise) u) (kk : (p) → G E X (QMP E X P mx) nL n (pc + 3) ls rest u) (hro : (rest.map fun v => v.category).sum ≤ 8 := by decide) (htab : ∀ x ∈ X.c.exceptionTable.toList, False := by assumption) :
    G E X (QMP E X P mx) nL n pc ls (.int (b2 p) :: rest) u := by
  by_cases hc : (p)
  · exact g_S h ls_X10_218 (c_X10_needAllowed_ok _ u (b2_n0.mpr hc)) (fitR hR (by omega) (by decide) (by omega)) rfl rfl hro hd (kk hc)
  · exact g_SXP h ls_X10_218 ls_X10_218_p (c_X10_needAllowed_x _ u (b2_0.mpr hc)) (fitR hR (by omega) (by decide) (by omega)) rfl rfl hro hd htab (by omega) (kx hc)
def cpW (u : Sto) (b o : Nat) : Sto := cpL (cpR (cpT u (b + 1) (o + 1)) (b + 8) (o + 8)) (b + 17) (o + 17)
set_option maxHeartbeats 1000000 in
theorem c_X9_copyFrom_50 {E : EE}  (u : Sto) : Ct E 4 0 yX9_copyFrom cX9_copyFrom 2 none [.ref (E.ad 50), .ref (E.ad 2)] u (.inl none) (cpW u 50 2) := by
  refine ct_of (by decide) (Nat.le_of_ble_eq_true rfl) (fun X h hR hrt htab hargs hini => ?_)
  refine g_aload_n h dX9_copyFrom_0 rfl rfl ?_
  refine g_getR h fl_X9_12_8 sh_50 (by decide) rfl dX9_copyFrom_1 ?_
  refine g_aload_n h dX9_copyFrom_4 rfl rfl ?_
  refine g_getR h fl_X9_12_8 sh_2 (by decide) rfl dX9_copyFrom_5 ?_
  refine g_V h lv_X9_36_X7 sh_51 (by decide) rfl (c_X7_copyFrom 51 3 (by decide) (by decide) _) (fitR hR (by decide) (by decide) (by omega)) rfl rfl (Nat.le_of_ble_eq_true rfl) dX9_copyFrom_8 ?_
  refine g_aload_n h dX9_copyFrom_11 rfl rfl ?_
  refine g_getR h fl_X9_21_8 sh_50 (by decide) rfl dX9_copyFrom_12 ?_
  refine g_aload_n h dX9_copyFrom_15 rfl rfl ?_
  refine g_getR h fl_X9_21_8 sh_2 (by decide) rfl dX9_copyFrom_16 ?_
  refine g_V h lv_X9_40_X4 sh_58 (by decide) rfl (c_X4_copyFrom 58 10 (by decide) (by decide) _) (fitR hR (by decide) (by decide) (by omega)) rfl rfl (Nat.le_of_ble_eq_true rfl) dX9_copyFrom_19 ?_
  refine g_aload_n h dX9_copyFrom_22 rfl rfl ?_
  refine g_getR h fl_X9_28_8 sh_50 (by decide) rfl dX9_copyFrom_23 ?_
  refine g_aload_n h dX9_copyFrom_26 rfl rfl ?_
  refine g_getR h fl_X9_28_8 sh_2 (by decide) rfl dX9_copyFrom_27 ?_
  refine g_V h lv_X9_43_X2 sh_67 (by decide) rfl (c_X2_copyFrom 67 19 (by decide) (by decide) _) (fitR hR (by decide) (by decide) (by omega)) rfl rfl (Nat.le_of_ble_eq_true rfl) dX9_copyFrom_30 ?_
  exact g_vret h hrt dX9_copyFrom_33 (by omega) rfl rfl
set_option maxHeartbeats 1000000 in
theorem c_X9_copyFrom_2 {E : EE}  (u : Sto) : Ct E 4 0 yX9_copyFrom cX9_copyFrom 2 none [.ref (E.ad 2), .ref (E.ad 50)] u (.inl none) (cpW u 2 50) := by
  refine ct_of (by decide) (Nat.le_of_ble_eq_true rfl) (fun X h hR hrt htab hargs hini => ?_)
  refine g_aload_n h dX9_copyFrom_0 rfl rfl ?_
  refine g_getR h fl_X9_12_8 sh_2 (by decide) rfl dX9_copyFrom_1 ?_
  refine g_aload_n h dX9_copyFrom_4 rfl rfl ?_
  refine g_getR h fl_X9_12_8 sh_50 (by decide) rfl dX9_copyFrom_5 ?_
  refine g_V h lv_X9_36_X7 sh_3 (by decide) rfl (c_X7_copyFrom 3 51 (by decide) (by decide) _) (fitR hR (by decide) (by decide) (by omega)) rfl rfl (Nat.le_of_ble_eq_true rfl) dX9_copyFrom_8 ?_
  refine g_aload_n h dX9_copyFrom_11 rfl rfl ?_
  refine g_getR h fl_X9_21_8 sh_2 (by decide) rfl dX9_copyFrom_12 ?_
  refine g_aload_n h dX9_copyFrom_15 rfl rfl ?_
  refine g_getR h fl_X9_21_8 sh_50 (by decide) rfl dX9_copyFrom_16 ?_
  refine g_V h lv_X9_40_X4 sh_10 (by decide) rfl (c_X4_copyFrom 10 58 (by decide) (by decide) _) (fitR hR (by decide) (by decide) (by omega)) rfl rfl (Nat.le_of_ble_eq_true rfl) dX9_copyFrom_19 ?_
  refine g_aload_n h dX9_copyFrom_22 rfl rfl ?_
  refine g_getR h fl_X9_28_8 sh_2 (by decide) rfl dX9_copyFrom_23 ?_
  refine g_aload_n h dX9_copyFrom_26 rfl rfl ?_
  refine g_getR h fl_X9_28_8 sh_50 (by decide) rfl dX9_copyFrom_27 ?_
  refine g_V h lv_X9_43_X2 sh_19 (by decide) rfl (c_X2_copyFrom 19 67 (by decide) (by decide) _) (fitR hR (by decide) (by decide) (by omega)) rfl rfl (Nat.le_of_ble_eq_true rfl) dX9_copyFrom_30 ?_
  exact g_vret h hrt dX9_copyFrom_33 (by omega) rfl rfl
set_option maxHeartbeats 1000000 in
theorem c_X10_image {E : EE}  (u : Sto) : Ct E 5 0 yX10_image cX10_image 1 none [.ref (E.ad 0)] u (.inl none) (su (cpW u 50 2) 0 6 (nI 1)) := by
  refine ct_of (by decide) (Nat.le_of_ble_eq_true rfl) (fun X h hR hrt htab hargs hini => ?_)
  refine g_aload_n h dX10_image_0 rfl rfl ?_
  refine g_getR h fl_X10_27_9 sh_0 (by decide) rfl dX10_image_1 ?_
  refine g_aload_n h dX10_image_4 rfl rfl ?_
  refine g_getR h fl_X10_20_9 sh_0 (by decide) rfl dX10_image_5 ?_
  refine g_V h lv_X10_375_X9 sh_50 (by decide) rfl (c_X9_copyFrom_50 _) (fitR hR (by decide) (by decide) (by omega)) rfl rfl (Nat.le_of_ble_eq_true rfl) dX10_image_8 ?_
  refine g_aload_n h dX10_image_11 rfl rfl ?_
  refine g_iconst (v := nI 1) h dX10_image_12 (by decide) ?_
  refine g_putZ h pfl_X10_377_9 sh_0 (by decide) rfl (by decide) dX10_image_13 ?_
  exact g_vret h hrt dX10_image_16 (by omega) rfl rfl
set_option maxHeartbeats 1000000 in
theorem c_X10_back {E : EE}  (u : Sto) : Ct E 5 0 yX10_back cX10_back 1 (some .boolean) [.ref (E.ad 0)] u (.inl (some (.int (b2 (¬ u 0 6 = 0))))) (if u 0 6 = 0 then u else su (cpW u 2 50) 0 9 (nI 0)) := by
  refine ct_of (by decide) (Nat.le_of_ble_eq_true rfl) (fun X h hR hrt htab hargs hini => ?_)
  refine g_aload_n h dX10_back_0 rfl rfl ?_
  refine g_getI h fl_X10_377_9 sh_0 (by decide) rfl dX10_back_1 ?_
  refine g_if_ne (tgt := 9) h dX10_back_4 (by decide) (fun c4 => ?_) (fun c4 => ?_)
  · refine g_aload_n h dX10_back_9 rfl rfl ?_
    refine g_getR h fl_X10_20_9 sh_0 (by decide) rfl dX10_back_10 ?_
    refine g_aload_n h dX10_back_13 rfl rfl ?_
    refine g_getR h fl_X10_27_9 sh_0 (by decide) rfl dX10_back_14 ?_
    refine g_V h lv_X10_375_X9 sh_2 (by decide) rfl (c_X9_copyFrom_2 _) (fitR hR (by decide) (by decide) (by omega)) rfl rfl (Nat.le_of_ble_eq_true rfl) dX10_back_17 ?_
    refine g_aload_n h dX10_back_20 rfl rfl ?_
    refine g_iconst (v := nI 0) h dX10_back_21 (by decide) ?_
    refine g_putI h pfl_X10_129_9 sh_0 (by decide) rfl dX10_back_22 ?_
    refine g_iconst (v := nI 1) h dX10_back_25 (by decide) ?_
    exact g_zret h hrt dX10_back_26 (by omega) (by first | exact Or.inl rfl | exact Or.inr rfl | simp) (by rw [b2_t c4]) (by rw [if_neg c4])
  · refine g_iconst (v := nI 0) h dX10_back_7 (by decide) ?_
    exact g_zret h hrt dX10_back_8 (by omega) (by first | exact Or.inl rfl | exact Or.inr rfl | simp) (by rw [b2_f (fun q => q c4)]) (by rw [if_pos c4])
set_option maxHeartbeats 1000000 in
theorem c_X10_undo {E : EE} (pf : Nat) (hf : pf < 12) (pc : Nat) (hp : pc ≤ 12) (u : Sto) (hpf : u 0 8 = nI pf) (hpc : u 0 9 = nI pc) : Ct E 4 0 yX10_undo cX10_undo 1 (some .boolean) [.ref (E.ad 0)] u (.inl (some (.int (b2 (0 < pc))))) (if 0 < pc then cpT (su u 0 9 (nI (pc - 1))) 3 (75 + 7 * ((pf + (pc - 1)) % 12)) else u) := by
  have hi : (pf + (pc - 1)) % 12 < 12 := Nat.mod_lt _ (by omega)
  obtain ⟨pt, hpt⟩ : ∃ pt, 75 + 7 * ((pf + (pc - 1)) % 12) = pt := ⟨_, rfl⟩
  have hpw : pt ∈ townL := by rw [← hpt]; exact past_tw _ hi
  have hlt := (sh_town pt hpw).2.2.2.2.2.2.2
  refine ct_of (by decide) (Nat.le_of_ble_eq_true rfl) (fun X h hR hrt htab hargs hini => ?_)
  refine g_aload_n h dX10_undo_0 rfl rfl ?_
  refine g_getI h fl_X10_129_9 sh_0 (by decide) rfl dX10_undo_1 ?_
  refine g_top hpc ?_
  refine g_if_ne (tgt := 9) h dX10_undo_4 (by decide) (fun c4 => ?_) (fun c4 => ?_)
  · have n4 := ne_n (show ¬ nI (pc) = nI (0) from c4)
    refine g_aload_n h dX10_undo_9 rfl rfl ?_
    refine g_dup h dX10_undo_10 rfl ?_
    refine g_getI h fl_X10_129_9 sh_0 (by decide) rfl dX10_undo_11 ?_
    refine g_top hpc ?_
    refine g_iconst (v := nI 1) h dX10_undo_14 (by decide) ?_
    refine g_isub h dX10_undo_15 ?_
    refine g_top (pk_sub (a := pc) (b := 1) (by omega)) ?_
    refine g_putI h pfl_X10_129_9 sh_0 (by decide) rfl dX10_undo_16 ?_
    refine g_aload_n h dX10_undo_19 rfl rfl ?_
    refine g_getR h fl_X10_20_9 sh_0 (by decide) rfl dX10_undo_20 ?_
    refine g_getR h fl_X10_89_8 sh_2 (by decide) rfl dX10_undo_23 ?_
    refine g_aload_n h dX10_undo_26 rfl rfl ?_
    refine g_getR h fl_X10_32_9 sh_0 (by decide) rfl dX10_undo_27 ?_
    refine g_aload_n h dX10_undo_30 rfl rfl ?_
    refine g_getI h fl_X10_372_9 sh_0 (by decide) rfl dX10_undo_31 ?_
    refine g_top (y := nI pf) (by rw [su_slot (by decide)]; exact hpf) ?_
    refine g_aload_n h dX10_undo_34 rfl rfl ?_
    refine g_getI h fl_X10_129_9 sh_0 (by decide) rfl dX10_undo_35 ?_
    refine g_top (y := nI (pc - 1)) (su_same _ _ _ _) ?_
    refine g_iadd h dX10_undo_38 ?_
    refine g_top (nI_add _ _) ?_
    refine g_bipush (v := nI 12) h dX10_undo_39 (by decide) ?_
    refine g_irem h dX10_undo_41 (by decide) ?_
    refine g_top (pk_rem (a := pf + (pc - 1)) (d := 12) (by omega) (by omega) (by omega)) ?_
    refine g_aald (c := pt) h _ _ sh_74 (by decide) (by decide) rfl (by rw [past_at _ hi, hpt]) dX10_undo_42 ?_
    refine g_V h lv_X10_93_X7 sh_3 (by decide) rfl (c_X7_copyFrom 3 pt (by decide) hpw _) (fitR hR (by decide) (by decide) (by omega)) rfl rfl (Nat.le_of_ble_eq_true rfl) dX10_undo_43 ?_
    refine g_iconst (v := nI 1) h dX10_undo_46 (by decide) ?_
    exact g_zret h hrt dX10_undo_47 (by omega) (by first | exact Or.inl rfl | exact Or.inr rfl | simp) (by rw [b2_t (by omega)]) (by rw [if_pos (by omega), hpt])
  · have n4 := eq_n (by omega) (by omega) (show nI (pc) = nI (0) from c4)
    refine g_iconst (v := nI 0) h dX10_undo_7 (by decide) ?_
    exact g_zret h hrt dX10_undo_8 (by omega) (by first | exact Or.inl rfl | exact Or.inr rfl | simp) (by rw [b2_f (by omega)]) (by rw [if_neg (by omega)])
set_option maxHeartbeats 1000000 in
theorem c_X10_sumOf_7 {E : EE}  (u : Sto) : Ct E 1 0 yX10_sumOf cX10_sumOf 3 (some .int) [.ref (E.ad 7)] u (.inl (some (.int (smI (u 7) 10)))) (u) := by
  refine ct_of (by decide) (Nat.le_of_ble_eq_true rfl) (fun X h hR hrt htab hargs hini => ?_)
  have LP : ∀ j k : Nat, 10 < k + j → k ≤ 10 → G E X (QM E X (.inl (some (.int (smI (u 7) 10)))) (u) 0) 3 0 4 [(0, .ref (E.ad 7)), (1, .int (smI (u 7) k)), (2, .int (nI k))] [] (u) := by
    intro j
    induction j with
    | zero => intro k h1 h2; omega
    | succ j ih =>
      intro k h1 h2
      refine g_iload_n h dX10_sumOf_4 rfl rfl ?_
      refine g_aload_n h dX10_sumOf_5 rfl rfl ?_
      refine g_alen h _ _ sh_7 (by decide) dX10_sumOf_6 ?_
      refine g_icmp_ge (tgt := 22) h dX10_sumOf_7 (by decide) (fun c7 => ?_) (fun c7 => ?_)
      · have n7 := le_n (by omega) (by omega) (show nI (10) ≤ nI (k) from c7)
        obtain rfl : k = 10 := by omega
        refine g_iload_n h dX10_sumOf_22 rfl rfl ?_
        exact g_iret h hrt dX10_sumOf_23 (by omega) (by rfl) rfl
      · have n7 := nle_n (by omega) (by omega) (show ¬ nI (10) ≤ nI (k) from c7)
        refine g_iload_n h dX10_sumOf_10 rfl rfl ?_
        refine g_aload_n h dX10_sumOf_11 rfl rfl ?_
        refine g_iload_n h dX10_sumOf_12 rfl rfl ?_
        refine g_iald h _ _ _ sh_7 (by decide) (by decide) rfl (by omega) dX10_sumOf_13 ?_
        refine g_iadd h dX10_sumOf_14 ?_
        refine g_istore_n (ls' := [(0, _), (1, _), (2, _)]) h dX10_sumOf_15 rfl (by decide) rfl rfl ?_
        refine g_iinc (v := nI (k + 1)) (ls' := [(0, _), (1, _), (2, _)]) h dX10_sumOf_16 rfl (nI_1 k) (by decide) rfl rfl ?_
        refine g_goto (tgt := 4) h dX10_sumOf_19 (by decide) ?_
        exact ih (k + 1) (by omega) (by omega)
  refine g_iconst (v := nI 0) h dX10_sumOf_0 (by decide) ?_
  refine g_istore_n (ls' := [(0, _), (1, _)]) h dX10_sumOf_1 rfl (by decide) rfl rfl ?_
  refine g_iconst (v := nI 0) h dX10_sumOf_2 (by decide) ?_
  refine g_istore_n (ls' := [(0, _), (1, _), (2, _)]) h dX10_sumOf_3 rfl (by decide) rfl rfl ?_
  exact LP (10 + 1) (0) (by omega) (by omega)
set_option maxHeartbeats 1000000 in
theorem c_X10_sumOf_6 {E : EE}  (u : Sto) : Ct E 1 0 yX10_sumOf cX10_sumOf 3 (some .int) [.ref (E.ad 6)] u (.inl (some (.int (smI (u 6) 168)))) (u) := by
  refine ct_of (by decide) (Nat.le_of_ble_eq_true rfl) (fun X h hR hrt htab hargs hini => ?_)
  have LP : ∀ j k : Nat, 168 < k + j → k ≤ 168 → G E X (QM E X (.inl (some (.int (smI (u 6) 168)))) (u) 0) 3 0 4 [(0, .ref (E.ad 6)), (1, .int (smI (u 6) k)), (2, .int (nI k))] [] (u) := by
    intro j
    induction j with
    | zero => intro k h1 h2; omega
    | succ j ih =>
      intro k h1 h2
      refine g_iload_n h dX10_sumOf_4 rfl rfl ?_
      refine g_aload_n h dX10_sumOf_5 rfl rfl ?_
      refine g_alen h _ _ sh_6 (by decide) dX10_sumOf_6 ?_
      refine g_icmp_ge (tgt := 22) h dX10_sumOf_7 (by decide) (fun c7 => ?_) (fun c7 => ?_)
      · have n7 := le_n (by omega) (by omega) (show nI (168) ≤ nI (k) from c7)
        obtain rfl : k = 168 := by omega
        refine g_iload_n h dX10_sumOf_22 rfl rfl ?_
        exact g_iret h hrt dX10_sumOf_23 (by omega) (by rfl) rfl
      · have n7 := nle_n (by omega) (by omega) (show ¬ nI (168) ≤ nI (k) from c7)
        refine g_iload_n h dX10_sumOf_10 rfl rfl ?_
        refine g_aload_n h dX10_sumOf_11 rfl rfl ?_
        refine g_iload_n h dX10_sumOf_12 rfl rfl ?_
        refine g_iald h _ _ _ sh_6 (by decide) (by decide) rfl (by omega) dX10_sumOf_13 ?_
        refine g_iadd h dX10_sumOf_14 ?_
        refine g_istore_n (ls' := [(0, _), (1, _), (2, _)]) h dX10_sumOf_15 rfl (by decide) rfl rfl ?_
        refine g_iinc (v := nI (k + 1)) (ls' := [(0, _), (1, _), (2, _)]) h dX10_sumOf_16 rfl (nI_1 k) (by decide) rfl rfl ?_
        refine g_goto (tgt := 4) h dX10_sumOf_19 (by decide) ?_
        exact ih (k + 1) (by omega) (by omega)
  refine g_iconst (v := nI 0) h dX10_sumOf_0 (by decide) ?_
  refine g_istore_n (ls' := [(0, _), (1, _)]) h dX10_sumOf_1 rfl (by decide) rfl rfl ?_
  refine g_iconst (v := nI 0) h dX10_sumOf_2 (by decide) ?_
  refine g_istore_n (ls' := [(0, _), (1, _), (2, _)]) h dX10_sumOf_3 rfl (by decide) rfl rfl ?_
  exact LP (168 + 1) (0) (by omega) (by omega)
set_option maxHeartbeats 1000000 in
theorem c_X10_sumOf_14 {E : EE}  (u : Sto) : Ct E 1 0 yX10_sumOf cX10_sumOf 3 (some .int) [.ref (E.ad 14)] u (.inl (some (.int (smI (u 14) 168)))) (u) := by
  refine ct_of (by decide) (Nat.le_of_ble_eq_true rfl) (fun X h hR hrt htab hargs hini => ?_)
  have LP : ∀ j k : Nat, 168 < k + j → k ≤ 168 → G E X (QM E X (.inl (some (.int (smI (u 14) 168)))) (u) 0) 3 0 4 [(0, .ref (E.ad 14)), (1, .int (smI (u 14) k)), (2, .int (nI k))] [] (u) := by
    intro j
    induction j with
    | zero => intro k h1 h2; omega
    | succ j ih =>
      intro k h1 h2
      refine g_iload_n h dX10_sumOf_4 rfl rfl ?_
      refine g_aload_n h dX10_sumOf_5 rfl rfl ?_
      refine g_alen h _ _ sh_14 (by decide) dX10_sumOf_6 ?_
      refine g_icmp_ge (tgt := 22) h dX10_sumOf_7 (by decide) (fun c7 => ?_) (fun c7 => ?_)
      · have n7 := le_n (by omega) (by omega) (show nI (168) ≤ nI (k) from c7)
        obtain rfl : k = 168 := by omega
        refine g_iload_n h dX10_sumOf_22 rfl rfl ?_
        exact g_iret h hrt dX10_sumOf_23 (by omega) (by rfl) rfl
      · have n7 := nle_n (by omega) (by omega) (show ¬ nI (168) ≤ nI (k) from c7)
        refine g_iload_n h dX10_sumOf_10 rfl rfl ?_
        refine g_aload_n h dX10_sumOf_11 rfl rfl ?_
        refine g_iload_n h dX10_sumOf_12 rfl rfl ?_
        refine g_iald h _ _ _ sh_14 (by decide) (by decide) rfl (by omega) dX10_sumOf_13 ?_
        refine g_iadd h dX10_sumOf_14 ?_
        refine g_istore_n (ls' := [(0, _), (1, _), (2, _)]) h dX10_sumOf_15 rfl (by decide) rfl rfl ?_
        refine g_iinc (v := nI (k + 1)) (ls' := [(0, _), (1, _), (2, _)]) h dX10_sumOf_16 rfl (nI_1 k) (by decide) rfl rfl ?_
        refine g_goto (tgt := 4) h dX10_sumOf_19 (by decide) ?_
        exact ih (k + 1) (by omega) (by omega)
  refine g_iconst (v := nI 0) h dX10_sumOf_0 (by decide) ?_
  refine g_istore_n (ls' := [(0, _), (1, _)]) h dX10_sumOf_1 rfl (by decide) rfl rfl ?_
  refine g_iconst (v := nI 0) h dX10_sumOf_2 (by decide) ?_
  refine g_istore_n (ls' := [(0, _), (1, _), (2, _)]) h dX10_sumOf_3 rfl (by decide) rfl rfl ?_
  exact LP (168 + 1) (0) (by omega) (by omega)
theorem okR_N {x : Int32} (h : okR x) : ¬ x < nI 0 ∧ x ≤ nI 167 := by
  obtain ⟨r, hr, -, rfl⟩ := okR_n h
  exact ⟨fun q => absurd (lt_n (by omega) (by omega) q) (by omega), (nI_leI (by omega) (by omega)).mpr (by omega)⟩
theorem okR_N2 {x : Int32} (h : ¬ x < nI 0 ∧ x ≤ nI 167) : okR x := by
  obtain ⟨a, ha, rfl⟩ := nI_ge0 (Int32.not_lt.mp h.1)
  have := le_n (by omega) (by omega) h.2
  exact ⟨h.1, fun q => absurd (le_n (by omega) (by omega) q) (by omega)⟩
set_option maxHeartbeats 1000000 in
theorem c_X10_needAllRooms_1 {E : EE} (len : Nat) (hl : len ≤ 400) (u : Sto) (hk : ∀ k, k < len → okR (u 1 (k))) : Ct E 3 0 yX10_needAllRooms cX10_needAllRooms 4 none [.ref (E.ad 0), .int (nI len), .int (nI 1)] u (.inl none) (u) := by
  refine ct_of (by decide) (Nat.le_of_ble_eq_true rfl) (fun X h hR hrt htab hargs hini => ?_)
  have LP : ∀ j k : Nat, len < k + j → k ≤ len → G E X (QM E X (.inl none) (u) 0) 4 0 2 [(0, .ref (E.ad 0)), (1, .int (nI len)), (2, .int (nI 1)), (3, .int (nI (k)))] [] (u) := by
    intro j
    induction j with
    | zero => intro k h1 h2; omega
    | succ j ih =>
      intro k h1 h2
      refine g_iload_n h dX10_needAllRooms_2 rfl rfl ?_
      refine g_iload_n h dX10_needAllRooms_3 rfl rfl ?_
      refine g_icmp_ge (tgt := 34) h dX10_needAllRooms_4 (by decide) (fun c4 => ?_) (fun c4 => ?_)
      · have n4 := le_n (by omega) (by omega) (show nI (len) ≤ nI (k) from c4)
        exact g_vret h hrt dX10_needAllRooms_34 (by omega) rfl rfl
      · have n4 := nle_n (by omega) (by omega) (show ¬ nI (len) ≤ nI (k) from c4)
        refine g_iload_n h dX10_needAllRooms_7 rfl rfl ?_
        refine g_sipush (v := nI 400) h dX10_needAllRooms_8 (by decide) ?_
        refine g_icmp_ge (tgt := 34) h dX10_needAllRooms_11 (by decide) (fun c11 => ?_) (fun c11 => ?_)
        · have n11 := le_n (by omega) (by omega) (show nI (400) ≤ nI (k) from c11)
          omega
        · have n11 := nle_n (by omega) (by omega) (show ¬ nI (400) ≤ nI (k) from c11)
          refine g_aload_n h dX10_needAllRooms_14 rfl rfl ?_
          refine g_getR h fl_X10_9_9 sh_0 (by decide) rfl dX10_needAllRooms_15 ?_
          refine g_iload_n h dX10_needAllRooms_18 rfl rfl ?_
          refine g_iald h _ _ _ sh_1 (by decide) (by decide) rfl (by omega) dX10_needAllRooms_19 ?_
          refine g_iconst (v := nI 0) h dX10_needAllRooms_20 (by decide) ?_
          refine g_sipush (v := nI 167) h dX10_needAllRooms_21 (by decide) ?_
          refine g_S h ls_X10_232 (c_X10_needNumber_ok _ _ _ _ (okR_N (hk k n4))) (fitR hR (by decide) (by decide) (by omega)) rfl rfl (Nat.le_of_ble_eq_true rfl) dX10_needAllRooms_24 ?_
          refine g_iload_n h dX10_needAllRooms_27 rfl rfl ?_
          refine g_iload_n h dX10_needAllRooms_28 rfl rfl ?_
          refine g_iadd h dX10_needAllRooms_29 ?_
          refine g_top (nI_add (k) 1) ?_
          refine g_istore_n (ls' := [(0, _), (1, _), (2, _), (3, _)]) h dX10_needAllRooms_30 rfl (by decide) rfl rfl ?_
          refine g_goto (tgt := 2) h dX10_needAllRooms_31 (by decide) ?_
          exact ih (k + 1) (by omega) (by omega)
  refine g_iconst (v := nI 0) h dX10_needAllRooms_0 (by decide) ?_
  refine g_istore_n (ls' := [(0, _), (1, _), (2, _), (3, _)]) h dX10_needAllRooms_1 rfl (by decide) rfl rfl ?_
  exact LP (len + 1) (0) (by omega) (by omega)
set_option maxHeartbeats 1000000 in
theorem c_X10_needAllRooms_1x {E : EE} (len : Nat) (hl : len ≤ 400) (k0 : Nat) (u : Sto) (hk0 : k0 < len) (hb : ¬ okR (u 1 (k0))) : Ct E 9 1 yX10_needAllRooms cX10_needAllRooms 4 none [.ref (E.ad 0), .int (nI len), .int (nI 1)] u (.inr iae) (u) := by
  refine ct_of (by decide) (Nat.le_of_ble_eq_true rfl) (fun X h hR hrt htab hargs hini => ?_)
  have LP : ∀ j k : Nat, k0 < k + j → k ≤ k0 → G E X (QM E X (.inr iae) (u) 1) 4 0 2 [(0, .ref (E.ad 0)), (1, .int (nI len)), (2, .int (nI 1)), (3, .int (nI (k)))] [] (u) := by
    intro j
    induction j with
    | zero => intro k h1 h2; omega
    | succ j ih =>
      intro k h1 h2
      refine g_iload_n h dX10_needAllRooms_2 rfl rfl ?_
      refine g_iload_n h dX10_needAllRooms_3 rfl rfl ?_
      refine g_icmp_ge (tgt := 34) h dX10_needAllRooms_4 (by decide) (fun c4 => ?_) (fun c4 => ?_)
      · have n4 := le_n (by omega) (by omega) (show nI (len) ≤ nI (k) from c4)
        omega
      · have n4 := nle_n (by omega) (by omega) (show ¬ nI (len) ≤ nI (k) from c4)
        refine g_iload_n h dX10_needAllRooms_7 rfl rfl ?_
        refine g_sipush (v := nI 400) h dX10_needAllRooms_8 (by decide) ?_
        refine g_icmp_ge (tgt := 34) h dX10_needAllRooms_11 (by decide) (fun c11 => ?_) (fun c11 => ?_)
        · have n11 := le_n (by omega) (by omega) (show nI (400) ≤ nI (k) from c11)
          omega
        · have n11 := nle_n (by omega) (by omega) (show ¬ nI (400) ≤ nI (k) from c11)
          refine g_aload_n h dX10_needAllRooms_14 rfl rfl ?_
          refine g_getR h fl_X10_9_9 sh_0 (by decide) rfl dX10_needAllRooms_15 ?_
          refine g_iload_n h dX10_needAllRooms_18 rfl rfl ?_
          refine g_iald h _ _ _ sh_1 (by decide) (by decide) rfl (by omega) dX10_needAllRooms_19 ?_
          refine g_iconst (v := nI 0) h dX10_needAllRooms_20 (by decide) ?_
          refine g_sipush (v := nI 167) h dX10_needAllRooms_21 (by decide) ?_
          by_cases hq : okR (u 1 (k))
          case neg => exact g_SX h ls_X10_232 ls_X10_232_p (c_X10_needNumber_x _ _ _ _ (fun q => hq (okR_N2 q))) (fitR hR (by decide) (by decide) (by omega)) rfl rfl (Nat.le_of_ble_eq_true rfl) dX10_needAllRooms_24 htab (by omega) rfl rfl
          have hkk : k < k0 := by
            rcases Nat.lt_or_ge k k0 with q | q
            · exact q
            · obtain rfl : k = k0 := by omega
              exact absurd hq hb
          refine g_S h ls_X10_232 (c_X10_needNumber_ok _ _ _ _ (okR_N hq)) (fitR hR (by decide) (by decide) (by omega)) rfl rfl (Nat.le_of_ble_eq_true rfl) dX10_needAllRooms_24 ?_
          refine g_iload_n h dX10_needAllRooms_27 rfl rfl ?_
          refine g_iload_n h dX10_needAllRooms_28 rfl rfl ?_
          refine g_iadd h dX10_needAllRooms_29 ?_
          refine g_top (nI_add (k) 1) ?_
          refine g_istore_n (ls' := [(0, _), (1, _), (2, _), (3, _)]) h dX10_needAllRooms_30 rfl (by decide) rfl rfl ?_
          refine g_goto (tgt := 2) h dX10_needAllRooms_31 (by decide) ?_
          exact ih (k + 1) (by omega) (by omega)
  refine g_iconst (v := nI 0) h dX10_needAllRooms_0 (by decide) ?_
  refine g_istore_n (ls' := [(0, _), (1, _), (2, _), (3, _)]) h dX10_needAllRooms_1 rfl (by decide) rfl rfl ?_
  exact LP (k0 + 1) (0) (by omega) (by omega)
set_option maxHeartbeats 1000000 in
theorem c_X10_needAllRooms_2 {E : EE} (len : Nat) (hl : len ≤ 400) (u : Sto) (hk : ∀ k, 2 * k < len → okR (u 1 (2 * k))) : Ct E 3 0 yX10_needAllRooms cX10_needAllRooms 4 none [.ref (E.ad 0), .int (nI len), .int (nI 2)] u (.inl none) (u) := by
  refine ct_of (by decide) (Nat.le_of_ble_eq_true rfl) (fun X h hR hrt htab hargs hini => ?_)
  have LP : ∀ j k : Nat, len < k + j → k ≤ len → G E X (QM E X (.inl none) (u) 0) 4 0 2 [(0, .ref (E.ad 0)), (1, .int (nI len)), (2, .int (nI 2)), (3, .int (nI (2 * k)))] [] (u) := by
    intro j
    induction j with
    | zero => intro k h1 h2; omega
    | succ j ih =>
      intro k h1 h2
      refine g_iload_n h dX10_needAllRooms_2 rfl rfl ?_
      refine g_iload_n h dX10_needAllRooms_3 rfl rfl ?_
      refine g_icmp_ge (tgt := 34) h dX10_needAllRooms_4 (by decide) (fun c4 => ?_) (fun c4 => ?_)
      · have n4 := le_n (by omega) (by omega) (show nI (len) ≤ nI (2 * k) from c4)
        exact g_vret h hrt dX10_needAllRooms_34 (by omega) rfl rfl
      · have n4 := nle_n (by omega) (by omega) (show ¬ nI (len) ≤ nI (2 * k) from c4)
        refine g_iload_n h dX10_needAllRooms_7 rfl rfl ?_
        refine g_sipush (v := nI 400) h dX10_needAllRooms_8 (by decide) ?_
        refine g_icmp_ge (tgt := 34) h dX10_needAllRooms_11 (by decide) (fun c11 => ?_) (fun c11 => ?_)
        · have n11 := le_n (by omega) (by omega) (show nI (400) ≤ nI (2 * k) from c11)
          omega
        · have n11 := nle_n (by omega) (by omega) (show ¬ nI (400) ≤ nI (2 * k) from c11)
          refine g_aload_n h dX10_needAllRooms_14 rfl rfl ?_
          refine g_getR h fl_X10_9_9 sh_0 (by decide) rfl dX10_needAllRooms_15 ?_
          refine g_iload_n h dX10_needAllRooms_18 rfl rfl ?_
          refine g_iald h _ _ _ sh_1 (by decide) (by decide) rfl (by omega) dX10_needAllRooms_19 ?_
          refine g_iconst (v := nI 0) h dX10_needAllRooms_20 (by decide) ?_
          refine g_sipush (v := nI 167) h dX10_needAllRooms_21 (by decide) ?_
          refine g_S h ls_X10_232 (c_X10_needNumber_ok _ _ _ _ (okR_N (hk k n4))) (fitR hR (by decide) (by decide) (by omega)) rfl rfl (Nat.le_of_ble_eq_true rfl) dX10_needAllRooms_24 ?_
          refine g_iload_n h dX10_needAllRooms_27 rfl rfl ?_
          refine g_iload_n h dX10_needAllRooms_28 rfl rfl ?_
          refine g_iadd h dX10_needAllRooms_29 ?_
          refine g_top (nI_add (2 * k) 2) ?_
          refine g_istore_n (ls' := [(0, _), (1, _), (2, _), (3, _)]) h dX10_needAllRooms_30 rfl (by decide) rfl rfl ?_
          refine g_goto (tgt := 2) h dX10_needAllRooms_31 (by decide) ?_
          exact ih (k + 1) (by omega) (by omega)
  refine g_iconst (v := nI 0) h dX10_needAllRooms_0 (by decide) ?_
  refine g_istore_n (ls' := [(0, _), (1, _), (2, _), (3, _)]) h dX10_needAllRooms_1 rfl (by decide) rfl rfl ?_
  exact LP (len + 1) (0) (by omega) (by omega)
set_option maxHeartbeats 1000000 in
theorem c_X10_needAllRooms_2x {E : EE} (len : Nat) (hl : len ≤ 400) (k0 : Nat) (u : Sto) (hk0 : 2 * k0 < len) (hb : ¬ okR (u 1 (2 * k0))) : Ct E 9 1 yX10_needAllRooms cX10_needAllRooms 4 none [.ref (E.ad 0), .int (nI len), .int (nI 2)] u (.inr iae) (u) := by
  refine ct_of (by decide) (Nat.le_of_ble_eq_true rfl) (fun X h hR hrt htab hargs hini => ?_)
  have LP : ∀ j k : Nat, k0 < k + j → k ≤ k0 → G E X (QM E X (.inr iae) (u) 1) 4 0 2 [(0, .ref (E.ad 0)), (1, .int (nI len)), (2, .int (nI 2)), (3, .int (nI (2 * k)))] [] (u) := by
    intro j
    induction j with
    | zero => intro k h1 h2; omega
    | succ j ih =>
      intro k h1 h2
      refine g_iload_n h dX10_needAllRooms_2 rfl rfl ?_
      refine g_iload_n h dX10_needAllRooms_3 rfl rfl ?_
      refine g_icmp_ge (tgt := 34) h dX10_needAllRooms_4 (by decide) (fun c4 => ?_) (fun c4 => ?_)
      · have n4 := le_n (by omega) (by omega) (show nI (len) ≤ nI (2 * k) from c4)
        omega
      · have n4 := nle_n (by omega) (by omega) (show ¬ nI (len) ≤ nI (2 * k) from c4)
        refine g_iload_n h dX10_needAllRooms_7 rfl rfl ?_
        refine g_sipush (v := nI 400) h dX10_needAllRooms_8 (by decide) ?_
        refine g_icmp_ge (tgt := 34) h dX10_needAllRooms_11 (by decide) (fun c11 => ?_) (fun c11 => ?_)
        · have n11 := le_n (by omega) (by omega) (show nI (400) ≤ nI (2 * k) from c11)
          omega
        · have n11 := nle_n (by omega) (by omega) (show ¬ nI (400) ≤ nI (2 * k) from c11)
          refine g_aload_n h dX10_needAllRooms_14 rfl rfl ?_
          refine g_getR h fl_X10_9_9 sh_0 (by decide) rfl dX10_needAllRooms_15 ?_
          refine g_iload_n h dX10_needAllRooms_18 rfl rfl ?_
          refine g_iald h _ _ _ sh_1 (by decide) (by decide) rfl (by omega) dX10_needAllRooms_19 ?_
          refine g_iconst (v := nI 0) h dX10_needAllRooms_20 (by decide) ?_
          refine g_sipush (v := nI 167) h dX10_needAllRooms_21 (by decide) ?_
          by_cases hq : okR (u 1 (2 * k))
          case neg => exact g_SX h ls_X10_232 ls_X10_232_p (c_X10_needNumber_x _ _ _ _ (fun q => hq (okR_N2 q))) (fitR hR (by decide) (by decide) (by omega)) rfl rfl (Nat.le_of_ble_eq_true rfl) dX10_needAllRooms_24 htab (by omega) rfl rfl
          have hkk : k < k0 := by
            rcases Nat.lt_or_ge k k0 with q | q
            · exact q
            · obtain rfl : k = k0 := by omega
              exact absurd hq hb
          refine g_S h ls_X10_232 (c_X10_needNumber_ok _ _ _ _ (okR_N hq)) (fitR hR (by decide) (by decide) (by omega)) rfl rfl (Nat.le_of_ble_eq_true rfl) dX10_needAllRooms_24 ?_
          refine g_iload_n h dX10_needAllRooms_27 rfl rfl ?_
          refine g_iload_n h dX10_needAllRooms_28 rfl rfl ?_
          refine g_iadd h dX10_needAllRooms_29 ?_
          refine g_top (nI_add (2 * k) 2) ?_
          refine g_istore_n (ls' := [(0, _), (1, _), (2, _), (3, _)]) h dX10_needAllRooms_30 rfl (by decide) rfl rfl ?_
          refine g_goto (tgt := 2) h dX10_needAllRooms_31 (by decide) ?_
          exact ih (k + 1) (by omega) (by omega)
  refine g_iconst (v := nI 0) h dX10_needAllRooms_0 (by decide) ?_
  refine g_istore_n (ls' := [(0, _), (1, _), (2, _), (3, _)]) h dX10_needAllRooms_1 rfl (by decide) rfl rfl ?_
  exact LP (k0 + 1) (0) (by omega) (by omega)
