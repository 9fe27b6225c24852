/-- who lives in a room of a town -/
def lvT (u : Sto) (t r : Nat) : Int32 := if u (t + 2) r = -1 then u (t + 1) r else u (t + 2) r
set_option maxHeartbeats 1000000 in
theorem c_X7_livesIn {E : EE} (t : Nat) (ht : t ∈ townL) (r : Nat) (hr : r < 168) (u : Sto) : Ct E 1 0 yX7_livesIn cX7_livesIn 2 (some .int) [.ref (E.ad t), .int (nI r)] u (.inl (some (.int (lvT u t r)))) (u) := by
  have hlt := (sh_town t ht).2.2.2.2.2.2.2
  refine ct_of (by decide) (Nat.le_of_ble_eq_true rfl) (fun X h hR hrt htab hargs hini => ?_)
  refine g_aload_n h dX7_livesIn_0 rfl rfl ?_
  refine g_getR h fl_X7_15_6 (sh_town t ht).1 (by omega) rfl dX7_livesIn_1 ?_
  refine g_iload_n h dX7_livesIn_4 rfl rfl ?_
  refine g_iald h _ _ _ (sh_town t ht).2.2.1 (by omega) (by decide) rfl (by omega) dX7_livesIn_5 ?_
  refine g_iconst (v := -1) h dX7_livesIn_6 (by decide) ?_
  refine g_icmp_eq (tgt := 19) h dX7_livesIn_7 (by decide) (fun c7 => ?_) (fun c7 => ?_)
  · refine g_aload_n h dX7_livesIn_19 rfl rfl ?_
    refine g_getR h fl_X7_9_6 (sh_town t ht).1 (by omega) rfl dX7_livesIn_20 ?_
    refine g_iload_n h dX7_livesIn_23 rfl rfl ?_
    refine g_iald h _ _ _ (sh_town t ht).2.1 (by omega) (by decide) rfl (by omega) dX7_livesIn_24 ?_
    exact g_iret h hrt dX7_livesIn_25 (by omega) (by simp [lvT, c7]) rfl
  · refine g_aload_n h dX7_livesIn_10 rfl rfl ?_
    refine g_getR h fl_X7_15_6 (sh_town t ht).1 (by omega) rfl dX7_livesIn_11 ?_
    refine g_iload_n h dX7_livesIn_14 rfl rfl ?_
    refine g_iald h _ _ _ (sh_town t ht).2.2.1 (by omega) (by decide) rfl (by omega) dX7_livesIn_15 ?_
    refine g_goto (tgt := 25) h dX7_livesIn_16 (by decide) ?_
    exact g_iret h hrt dX7_livesIn_25 (by omega) (by simp [lvT, c7]) rfl
/-- the town with a room freed -/
def frT (u : Sto) (t r : Nat) : Sto := su (su (if u (t + 1) r = -1 then u else su u (t + 5) (ix (u (t + 1) r)) (u (t + 5) (ix (u (t + 1) r)) - nI 1)) (t + 1) r (-1)) (t + 2) r (-1)
set_option maxHeartbeats 1000000 in
theorem c_X7_free {E : EE} (t : Nat) (ht : t ∈ townL) (r : Nat) (hr : r < 168) (u : Sto) (ho : tn (u (t + 1) r) 10) : Ct E 1 0 yX7_free cX7_free 2 none [.ref (E.ad t), .int (nI r)] u (.inl none) (frT u t r) := by
  have hlt := (sh_town t ht).2.2.2.2.2.2.2
  refine ct_of (by decide) (Nat.le_of_ble_eq_true rfl) (fun X h hR hrt htab hargs hini => ?_)
  refine g_aload_n h dX7_free_0 rfl rfl ?_
  refine g_getR h fl_X7_9_6 (sh_town t ht).1 (by omega) rfl dX7_free_1 ?_
  refine g_iload_n h dX7_free_4 rfl rfl ?_
  refine g_iald h _ _ _ (sh_town t ht).2.1 (by omega) (by decide) rfl (by omega) dX7_free_5 ?_
  refine g_iconst (v := -1) h dX7_free_6 (by decide) ?_
  refine g_icmp_eq (tgt := 25) h dX7_free_7 (by decide) (fun c7 => ?_) (fun c7 => ?_)
  · refine g_aload_n h dX7_free_25 rfl rfl ?_
    refine g_getR h fl_X7_9_6 (sh_town t ht).1 (by omega) rfl dX7_free_26 ?_
    refine g_iload_n h dX7_free_29 rfl rfl ?_
    refine g_iconst (v := -1) h dX7_free_30 (by decide) ?_
    refine g_iast h _ _ _ (sh_town t ht).2.1 (by omega) (by decide) rfl (by omega) dX7_free_31 ?_
    refine g_aload_n h dX7_free_32 rfl rfl ?_
    refine g_getR h fl_X7_15_6 (sh_town t ht).1 (by omega) rfl dX7_free_33 ?_
    refine g_iload_n h dX7_free_36 rfl rfl ?_
    refine g_iconst (v := -1) h dX7_free_37 (by decide) ?_
    refine g_iast h _ _ _ (sh_town t ht).2.2.1 (by omega) (by decide) rfl (by omega) dX7_free_38 ?_
    exact g_vret h hrt dX7_free_39 (by omega) rfl (by first | (rw [frT, if_pos c7]; done) | (rw [frT, if_neg c7, hix]; done) | rfl)
  · obtain ⟨a, ha, hx⟩ := ho.resolve_left c7
    have hix : ix (u (t + 1) r) = a := by rw [hx]; exact ix_nI (by omega)
    refine g_aload_n h dX7_free_10 rfl rfl ?_
    refine g_getR h fl_X7_24_6 (sh_town t ht).1 (by omega) rfl dX7_free_11 ?_
    refine g_aload_n h dX7_free_14 rfl rfl ?_
    refine g_getR h fl_X7_9_6 (sh_town t ht).1 (by omega) rfl dX7_free_15 ?_
    refine g_iload_n h dX7_free_18 rfl rfl ?_
    refine g_iald h _ _ _ (sh_town t ht).2.1 (by omega) (by decide) rfl (by omega) dX7_free_19 ?_
    refine g_top hx ?_
    refine g_dup2 h dX7_free_20 rfl rfl ?_
    refine g_iald h _ _ _ (sh_town t ht).2.2.2.2.2.1 (by omega) (by decide) rfl (by omega) dX7_free_21 ?_
    refine g_iconst (v := nI 1) h dX7_free_22 (by decide) ?_
    refine g_isub h dX7_free_23 ?_
    refine g_iast h _ _ _ (sh_town t ht).2.2.2.2.2.1 (by omega) (by decide) rfl (by omega) dX7_free_24 ?_
    refine g_aload_n h dX7_free_25 rfl rfl ?_
    refine g_getR h fl_X7_9_6 (sh_town t ht).1 (by omega) rfl dX7_free_26 ?_
    refine g_iload_n h dX7_free_29 rfl rfl ?_
    refine g_iconst (v := -1) h dX7_free_30 (by decide) ?_
    refine g_iast h _ _ _ (sh_town t ht).2.1 (by omega) (by decide) rfl (by omega) dX7_free_31 ?_
    refine g_aload_n h dX7_free_32 rfl rfl ?_
    refine g_getR h fl_X7_15_6 (sh_town t ht).1 (by omega) rfl dX7_free_33 ?_
    refine g_iload_n h dX7_free_36 rfl rfl ?_
    refine g_iconst (v := -1) h dX7_free_37 (by decide) ?_
    refine g_iast h _ _ _ (sh_town t ht).2.2.1 (by omega) (by decide) rfl (by omega) dX7_free_38 ?_
    exact g_vret h hrt dX7_free_39 (by omega) rfl (by first | (rw [frT, if_pos c7]; done) | (rw [frT, if_neg c7, hix]; done) | rfl)
/-- the town with a room that comes to an owner -/
def soT (u : Sto) (t r a : Nat) : Sto := su (su (frT u t r) (t + 1) r (nI a)) (t + 5) a (frT u t r (t + 5) a + nI 1)
set_option maxHeartbeats 1000000 in
theorem c_X7_setOwner {E : EE} (t : Nat) (ht : t ∈ townL) (r : Nat) (hr : r < 168) (a : Nat) (ha : a < 10) (u : Sto) (ho : tn (u (t + 1) r) 10) : Ct E 2 0 yX7_setOwner cX7_setOwner 3 none [.ref (E.ad t), .int (nI r), .int (nI a)] u (.inl none) (soT u t r a) := by
  have hlt := (sh_town t ht).2.2.2.2.2.2.2
  refine ct_of (by decide) (Nat.le_of_ble_eq_true rfl) (fun X h hR hrt htab hargs hini => ?_)
  refine g_aload_n h dX7_setOwner_0 rfl rfl ?_
  refine g_iload_n h dX7_setOwner_1 rfl rfl ?_
  refine g_V h lv_X7_61_X7 (sh_town t ht).1 (by omega) rfl (c_X7_free t ht _ (by omega) _ ho) (fitR hR (by decide) (by decide) (by omega)) rfl rfl (Nat.le_of_ble_eq_true rfl) dX7_setOwner_2 ?_
  refine g_aload_n h dX7_setOwner_5 rfl rfl ?_
  refine g_getR h fl_X7_9_6 (sh_town t ht).1 (by omega) rfl dX7_setOwner_6 ?_
  refine g_iload_n h dX7_setOwner_9 rfl rfl ?_
  refine g_iload_n h dX7_setOwner_10 rfl rfl ?_
  refine g_iast h _ _ _ (sh_town t ht).2.1 (by omega) (by decide) rfl (by omega) dX7_setOwner_11 ?_
  refine g_aload_n h dX7_setOwner_12 rfl rfl ?_
  refine g_getR h fl_X7_24_6 (sh_town t ht).1 (by omega) rfl dX7_setOwner_13 ?_
  refine g_iload_n h dX7_setOwner_16 rfl rfl ?_
  refine g_dup2 h dX7_setOwner_17 rfl rfl ?_
  refine g_iald h _ _ _ (sh_town t ht).2.2.2.2.2.1 (by omega) (by decide) rfl (by omega) dX7_setOwner_18 ?_
  refine g_iconst (v := nI 1) h dX7_setOwner_19 (by decide) ?_
  refine g_iadd h dX7_setOwner_20 ?_
  refine g_iast h _ _ _ (sh_town t ht).2.2.2.2.2.1 (by omega) (by decide) rfl (by omega) dX7_setOwner_21 ?_
  exact g_vret h hrt dX7_setOwner_22 (by omega) rfl (by rw [soT]; simp [su_cell])
def lg_weekOf (x : Int32) : Int32 := (x.toUInt32 >>> ((nI 15).toUInt32 &&& Int32.toUInt32 31)).toInt32
set_option maxHeartbeats 1000000 in
theorem c_X7_weekOf {E : EE} (x : Int32) (u : Sto) : Ct E 1 0 yX7_weekOf cX7_weekOf 1 (some .int) [.int x] u (.inl (some (.int (lg_weekOf x)))) (u) := by
  refine ct_of (by decide) (Nat.le_of_ble_eq_true rfl) (fun X h hR hrt htab hargs hini => ?_)
  refine g_iload_n h dX7_weekOf_0 rfl rfl ?_
  refine g_bipush (v := nI 15) h dX7_weekOf_1 (by decide) ?_
  refine g_iushr h dX7_weekOf_3 ?_
  exact g_iret h hrt dX7_weekOf_4 (by omega) (by rfl) rfl
def lg_roomIn (x : Int32) : Int32 := (x.toUInt32 >>> ((nI 7).toUInt32 &&& Int32.toUInt32 31)).toInt32 &&& nI 255
set_option maxHeartbeats 1000000 in
theorem c_X7_roomIn {E : EE} (x : Int32) (u : Sto) : Ct E 1 0 yX7_roomIn cX7_roomIn 1 (some .int) [.int x] u (.inl (some (.int (lg_roomIn x)))) (u) := by
  refine ct_of (by decide) (Nat.le_of_ble_eq_true rfl) (fun X h hR hrt htab hargs hini => ?_)
  refine g_iload_n h dX7_roomIn_0 rfl rfl ?_
  refine g_bipush (v := nI 7) h dX7_roomIn_1 (by decide) ?_
  refine g_iushr h dX7_roomIn_3 ?_
  refine g_sipush (v := nI 255) h dX7_roomIn_4 (by decide) ?_
  refine g_iand h dX7_roomIn_7 ?_
  exact g_iret h hrt dX7_roomIn_8 (by omega) (by rfl) rfl
def lg_whoOf (x : Int32) : Int32 := (x.toUInt32 >>> ((nI 3).toUInt32 &&& Int32.toUInt32 31)).toInt32 &&& nI 15
set_option maxHeartbeats 1000000 in
theorem c_X7_whoOf {E : EE} (x : Int32) (u : Sto) : Ct E 1 0 yX7_whoOf cX7_whoOf 1 (some .int) [.int x] u (.inl (some (.int (lg_whoOf x)))) (u) := by
  refine ct_of (by decide) (Nat.le_of_ble_eq_true rfl) (fun X h hR hrt htab hargs hini => ?_)
  refine g_iload_n h dX7_whoOf_0 rfl rfl ?_
  refine g_iconst (v := nI 3) h dX7_whoOf_1 (by decide) ?_
  refine g_iushr h dX7_whoOf_2 ?_
  refine g_bipush (v := nI 15) h dX7_whoOf_3 (by decide) ?_
  refine g_iand h dX7_whoOf_5 ?_
  exact g_iret h hrt dX7_whoOf_6 (by omega) (by rfl) rfl
def lg_howOf (x : Int32) : Int32 := x &&& nI 7
set_option maxHeartbeats 1000000 in
theorem c_X7_howOf {E : EE} (x : Int32) (u : Sto) : Ct E 1 0 yX7_howOf cX7_howOf 1 (some .int) [.int x] u (.inl (some (.int (lg_howOf x)))) (u) := by
  refine ct_of (by decide) (Nat.le_of_ble_eq_true rfl) (fun X h hR hrt htab hargs hini => ?_)
  refine g_iload_n h dX7_howOf_0 rfl rfl ?_
  refine g_bipush (v := nI 7) h dX7_howOf_1 (by decide) ?_
  refine g_iand h dX7_howOf_3 ?_
  exact g_iret h hrt dX7_howOf_4 (by omega) (by rfl) rfl
def mnI (a b : Int32) : Int32 := if b < a then b else a
def mxI (a b : Int32) : Int32 := if a < b then b else a
set_option maxHeartbeats 1000000 in
theorem c_J9_min_7cf53 {E : EE} (a b : Int32) (u : Sto) : Ct E 1 0 yJ9_min_7cf53 cJ9_min_7cf53 2 (some .int) [.int a, .int b] u (.inl (some (.int (mnI a b)))) (u) := by
  refine ct_ofF (by decide +kernel) (Nat.le_of_ble_eq_true rfl) (fun X h hR hrt htab hargs => ?_)
  refine g_iload_n h dJ9_min_7cf53_0 rfl rfl ?_
  refine g_iload_n h dJ9_min_7cf53_1 rfl rfl ?_
  refine g_icmp_gt (tgt := 9) h dJ9_min_7cf53_2 (by decide) (fun c2 => ?_) (fun c2 => ?_)
  · refine g_iload_n h dJ9_min_7cf53_9 rfl rfl ?_
    exact g_iret h hrt dJ9_min_7cf53_10 (by omega) (by simp [mnI, c2]) rfl
  · refine g_iload_n h dJ9_min_7cf53_5 rfl rfl ?_
    refine g_goto (tgt := 10) h dJ9_min_7cf53_6 (by decide) ?_
    exact g_iret h hrt dJ9_min_7cf53_10 (by omega) (by simp [mnI, c2]) rfl
set_option maxHeartbeats 1000000 in
theorem c_J9_max_7cf53 {E : EE} (a b : Int32) (u : Sto) : Ct E 1 0 yJ9_max_7cf53 cJ9_max_7cf53 2 (some .int) [.int a, .int b] u (.inl (some (.int (mxI a b)))) (u) := by
  refine ct_ofF (by decide +kernel) (Nat.le_of_ble_eq_true rfl) (fun X h hR hrt htab hargs => ?_)
  refine g_iload_n h dJ9_max_7cf53_0 rfl rfl ?_
  refine g_iload_n h dJ9_max_7cf53_1 rfl rfl ?_
  refine g_icmp_lt (tgt := 9) h dJ9_max_7cf53_2 (by decide) (fun c2 => ?_) (fun c2 => ?_)
  · refine g_iload_n h dJ9_max_7cf53_9 rfl rfl ?_
    exact g_iret h hrt dJ9_max_7cf53_10 (by omega) (by simp [mxI, c2]) rfl
  · refine g_iload_n h dJ9_max_7cf53_5 rfl rfl ?_
    refine g_goto (tgt := 10) h dJ9_max_7cf53_6 (by decide) ?_
    exact g_iret h hrt dJ9_max_7cf53_10 (by omega) (by simp [mxI, c2]) rfl
def rmI (x y : Int32) : Int32 := x - x / y * y
def fmI (a b : Int32) : Int32 := if 0 ≤ a ^^^ b then rmI a b else if rmI a b = 0 then rmI a b else rmI a b + b
set_option maxHeartbeats 1000000 in
theorem c_J9_floorMod_7cf53 {E : EE} (a b : Int32) (hb : ¬ b = 0) (u : Sto) : Ct E 1 0 yJ9_floorMod_7cf53 cJ9_floorMod_7cf53 3 (some .int) [.int a, .int b] u (.inl (some (.int (fmI a b)))) (u) := by
  refine ct_ofF (by decide +kernel) (Nat.le_of_ble_eq_true rfl) (fun X h hR hrt htab hargs => ?_)
  refine g_iload_n h dJ9_floorMod_7cf53_0 rfl rfl ?_
  refine g_iload_n h dJ9_floorMod_7cf53_1 rfl rfl ?_
  refine g_irem h dJ9_floorMod_7cf53_2 hb ?_
  refine g_istore_n (ls' := [(0, _), (1, _), (2, _)]) h dJ9_floorMod_7cf53_3 rfl (by decide) rfl rfl ?_
  refine g_iload_n h dJ9_floorMod_7cf53_4 rfl rfl ?_
  refine g_iload_n h dJ9_floorMod_7cf53_5 rfl rfl ?_
  refine g_ixor h dJ9_floorMod_7cf53_6 ?_
  refine g_if_ge (tgt := 18) h dJ9_floorMod_7cf53_7 (by decide) (fun c7 => ?_) (fun c7 => ?_)
  · refine g_iload_n h dJ9_floorMod_7cf53_18 rfl rfl ?_
    exact g_iret h hrt dJ9_floorMod_7cf53_19 (by omega) (by simp_all [fmI, rmI]) rfl
  · refine g_iload_n h dJ9_floorMod_7cf53_10 rfl rfl ?_
    refine g_if_eq (tgt := 18) h dJ9_floorMod_7cf53_11 (by decide) (fun c11 => ?_) (fun c11 => ?_)
    · refine g_iload_n h dJ9_floorMod_7cf53_18 rfl rfl ?_
      exact g_iret h hrt dJ9_floorMod_7cf53_19 (by omega) (by simp_all [fmI, rmI]) rfl
    · refine g_iload_n h dJ9_floorMod_7cf53_14 rfl rfl ?_
      refine g_iload_n h dJ9_floorMod_7cf53_15 rfl rfl ?_
      refine g_iadd h dJ9_floorMod_7cf53_16 ?_
      exact g_iret h hrt dJ9_floorMod_7cf53_17 (by omega) (by simp_all [fmI, rmI]) rfl
set_option maxHeartbeats 1000000 in
theorem c_X10_after {E : EE} (r : Nat) (hr : r < 168) (u : Sto) : Ct E 1 0 yX10_after cX10_after 1 (some .int) [.int (nI r)] u (.inl (some (.int (nI (aft r))))) (u) := by
  refine ct_of (by decide) (Nat.le_of_ble_eq_true rfl) (fun X h hR hrt htab hargs hini => ?_)
  refine g_iload_n h dX10_after_0 rfl rfl ?_
  refine g_iconst (v := nI 1) h dX10_after_1 (by decide) ?_
  refine g_iadd h dX10_after_2 ?_
  refine g_top (nI_add r 1) ?_
  refine g_sipush (v := nI 168) h dX10_after_3 (by decide) ?_
  refine g_icmp_ge (tgt := 15) h dX10_after_6 (by decide) (fun c6 => ?_) (fun c6 => ?_)
  · have n6 := le_n (by omega) (by omega) (show nI (168) ≤ nI (r + 1) from c6)
    refine g_iconst (v := nI 0) h dX10_after_15 (by decide) ?_
    exact g_iret h hrt dX10_after_16 (by omega) (by rw [aft]; split <;> first | rfl | omega) rfl
  · have n6 := nle_n (by omega) (by omega) (show ¬ nI (168) ≤ nI (r + 1) from c6)
    refine g_iload_n h dX10_after_9 rfl rfl ?_
    refine g_iconst (v := nI 1) h dX10_after_10 (by decide) ?_
    refine g_iadd h dX10_after_11 ?_
    refine g_top (nI_add r 1) ?_
    refine g_goto (tgt := 16) h dX10_after_12 (by decide) ?_
    exact g_iret h hrt dX10_after_16 (by omega) (by rw [aft]; split <;> first | rfl | omega) rfl
set_option maxHeartbeats 1000000 in
theorem c_X10_before {E : EE} (r : Nat) (hr : r < 168) (u : Sto) : Ct E 1 0 yX10_before cX10_before 1 (some .int) [.int (nI r)] u (.inl (some (.int (nI (bef r))))) (u) := by
  refine ct_of (by decide) (Nat.le_of_ble_eq_true rfl) (fun X h hR hrt htab hargs hini => ?_)
  refine g_iload_n h dX10_before_0 rfl rfl ?_
  refine g_if_le (tgt := 10) h dX10_before_1 (by decide) (fun c1 => ?_) (fun c1 => ?_)
  · have n1 := le_n (by omega) (by omega) (show nI (r) ≤ nI (0) from c1)
    refine g_sipush (v := nI 167) h dX10_before_10 (by decide) ?_
    exact g_iret h hrt dX10_before_13 (by omega) (by rw [bef]; split <;> first | rfl | omega) rfl
  · have n1 := nle_n (by omega) (by omega) (show ¬ nI (r) ≤ nI (0) from c1)
    refine g_iload_n h dX10_before_4 rfl rfl ?_
    refine g_iconst (v := nI 1) h dX10_before_5 (by decide) ?_
    refine g_isub h dX10_before_6 ?_
    refine g_top (pk_sub (a := r) (b := 1) (by omega)) ?_
    refine g_goto (tgt := 13) h dX10_before_7 (by decide) ?_
    exact g_iret h hrt dX10_before_13 (by omega) (by rw [bef]; split <;> first | rfl | omega) rfl
set_option maxHeartbeats 1000000 in
theorem c_X10_isRoom {E : EE} (x : Int32) (u : Sto) : Ct E 1 0 yX10_isRoom cX10_isRoom 1 (some .boolean) [.int x] u (.inl (some (.int (b2 (¬ x < 0 ∧ ¬ nI 168 ≤ x))))) (u) := by
  refine ct_of (by decide) (Nat.le_of_ble_eq_true rfl) (fun X h hR hrt htab hargs hini => ?_)
  refine g_iload_n h dX10_isRoom_0 rfl rfl ?_
  refine g_if_lt (tgt := 15) h dX10_isRoom_1 (by decide) (fun c1 => ?_) (fun c1 => ?_)
  · refine g_iconst (v := nI 0) h dX10_isRoom_15 (by decide) ?_
    exact g_zret h hrt dX10_isRoom_16 (by omega) (by first | exact Or.inl rfl | exact Or.inr rfl | simp) (by simp_all [b2]) rfl
  · refine g_iload_n h dX10_isRoom_4 rfl rfl ?_
    refine g_sipush (v := nI 168) h dX10_isRoom_5 (by decide) ?_
    refine g_icmp_ge (tgt := 15) h dX10_isRoom_8 (by decide) (fun c8 => ?_) (fun c8 => ?_)
    · refine g_iconst (v := nI 0) h dX10_isRoom_15 (by decide) ?_
      exact g_zret h hrt dX10_isRoom_16 (by omega) (by first | exact Or.inl rfl | exact Or.inr rfl | simp) (by simp_all [b2]) rfl
    · refine g_iconst (v := nI 1) h dX10_isRoom_11 (by decide) ?_
      refine g_goto (tgt := 16) h dX10_isRoom_12 (by decide) ?_
      exact g_zret h hrt dX10_isRoom_16 (by omega) (by first | exact Or.inl rfl | exact Or.inr rfl | simp) (by simp_all [b2]) rfl
