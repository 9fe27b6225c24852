-- after: 38.r 39.s 40.t 47.str 48.tx 49.ty 50.tt 53.lw
/-- the model's row g beside a world's town t -/
abbrev LKt (v : Sto) (t : Nat) (g : Nat → Int32) : Prop := (∀ r, r < 168 → g (88 + 4 * r) = v (t + 1) r) ∧ (∀ r, r < 168 → g (89 + 4 * r) = lvT v t r) ∧ (∀ r, r < 168 → g (90 + 4 * r) = v (t + 3) r) ∧ (∀ a, a < 10 → g (16 + 4 * a) = v (t + 4) a) ∧ (g 4 = v t 9) ∧ (g 5 = v t 10) ∧ (g 6 = v t 8) ∧ (g 11 = v t 11) ∧ (g 10 = v t 7)
theorem LKt.own {v : Sto} {t : Nat} {g : Nat → Int32} (h : LKt v t g) : ∀ r, r < 168 → g (88 + 4 * r) = v (t + 1) r := h.1
theorem LKt.liv {v : Sto} {t : Nat} {g : Nat → Int32} (h : LKt v t g) : ∀ r, r < 168 → g (89 + 4 * r) = lvT v t r := h.2.1
theorem LKt.gds {v : Sto} {t : Nat} {g : Nat → Int32} (h : LKt v t g) : ∀ r, r < 168 → g (90 + 4 * r) = v (t + 3) r := h.2.2.1
theorem LKt.con {v : Sto} {t : Nat} {g : Nat → Int32} (h : LKt v t g) : ∀ a, a < 10 → g (16 + 4 * a) = v (t + 4) a := h.2.2.2.1
theorem LKt.wk {v : Sto} {t : Nat} {g : Nat → Int32} (h : LKt v t g) : g 4 = v t 9 := h.2.2.2.2.1
theorem LKt.nw {v : Sto} {t : Nat} {g : Nat → Int32} (h : LKt v t g) : g 5 = v t 10 := h.2.2.2.2.2.1
theorem LKt.tl {v : Sto} {t : Nat} {g : Nat → Int32} (h : LKt v t g) : g 6 = v t 8 := h.2.2.2.2.2.2.1
theorem LKt.sd {v : Sto} {t : Nat} {g : Nat → Int32} (h : LKt v t g) : g 11 = v t 11 := h.2.2.2.2.2.2.2.1
theorem LKt.lgs {v : Sto} {t : Nat} {g : Nat → Int32} (h : LKt v t g) : g 10 = v t 7 := h.2.2.2.2.2.2.2.2
/-- and beside a world's roll r -/
abbrev LKr (v : Sto) (r : Nat) (g : Nat → Int32) (T W : Nat) : Prop := (g 0 = v r 11) ∧ (g 1 = nI T) ∧ (v r 8 = nI T) ∧ (T ≤ 10) ∧ (g 7 = v r 12) ∧ (g 8 = v r 10) ∧ (g 9 = nI W) ∧ (v r 9 = nI W) ∧ (W ≤ 8) ∧ (∀ a, a < T → g (17 + 4 * a) = v (r + 1) a) ∧ (∀ a, a < T → g (18 + 4 * a) = v (r + 2) a) ∧ (∀ a, a < T → g (19 + 4 * a) = v (r + 3) a) ∧ (∀ m, m < 168 → g (91 + 4 * m) = v (r + 4) m) ∧ (∀ k, k < W → g (56 + 4 * k) = v (r + 5) k) ∧ (∀ k, k < W → g (57 + 4 * k) = v (r + 6) k) ∧ (∀ k, k < W → g (58 + 4 * k) = v (r + 7) k) ∧ (∀ k, k < W → g (59 + 4 * k) = v (r + 8) k)
theorem LKr.tx {v : Sto} {r : Nat} {g : Nat → Int32} {T W : Nat} (h : LKr v r g T W) : g 0 = v r 11 := h.1
theorem LKr.ten {v : Sto} {r : Nat} {g : Nat → Int32} {T W : Nat} (h : LKr v r g T W) : g 1 = nI T := h.2.1
theorem LKr.vt {v : Sto} {r : Nat} {g : Nat → Int32} {T W : Nat} (h : LKr v r g T W) : v r 8 = nI T := h.2.2.1
theorem LKr.hT {v : Sto} {r : Nat} {g : Nat → Int32} {T W : Nat} (h : LKr v r g T W) : T ≤ 10 := h.2.2.2.1
theorem LKr.told {v : Sto} {r : Nat} {g : Nat → Int32} {T W : Nat} (h : LKr v r g T W) : g 7 = v r 12 := h.2.2.2.2.1
theorem LKr.cha {v : Sto} {r : Nat} {g : Nat → Int32} {T W : Nat} (h : LKr v r g T W) : g 8 = v r 10 := h.2.2.2.2.2.1
theorem LKr.wan {v : Sto} {r : Nat} {g : Nat → Int32} {T W : Nat} (h : LKr v r g T W) : g 9 = nI W := h.2.2.2.2.2.2.1
theorem LKr.vw {v : Sto} {r : Nat} {g : Nat → Int32} {T W : Nat} (h : LKr v r g T W) : v r 9 = nI W := h.2.2.2.2.2.2.2.1
theorem LKr.hW {v : Sto} {r : Nat} {g : Nat → Int32} {T W : Nat} (h : LKr v r g T W) : W ≤ 8 := h.2.2.2.2.2.2.2.2.1
theorem LKr.lfr {v : Sto} {r : Nat} {g : Nat → Int32} {T W : Nat} (h : LKr v r g T W) : ∀ a, a < T → g (17 + 4 * a) = v (r + 1) a := h.2.2.2.2.2.2.2.2.2.1
theorem LKr.lto {v : Sto} {r : Nat} {g : Nat → Int32} {T W : Nat} (h : LKr v r g T W) : ∀ a, a < T → g (18 + 4 * a) = v (r + 2) a := h.2.2.2.2.2.2.2.2.2.2.1
theorem LKr.mot {v : Sto} {r : Nat} {g : Nat → Int32} {T W : Nat} (h : LKr v r g T W) : ∀ a, a < T → g (19 + 4 * a) = v (r + 3) a := h.2.2.2.2.2.2.2.2.2.2.2.1
theorem LKr.sht {v : Sto} {r : Nat} {g : Nat → Int32} {T W : Nat} (h : LKr v r g T W) : ∀ m, m < 168 → g (91 + 4 * m) = v (r + 4) m := h.2.2.2.2.2.2.2.2.2.2.2.2.1
theorem LKr.w0 {v : Sto} {r : Nat} {g : Nat → Int32} {T W : Nat} (h : LKr v r g T W) : ∀ k, k < W → g (56 + 4 * k) = v (r + 5) k := h.2.2.2.2.2.2.2.2.2.2.2.2.2.1
theorem LKr.w1 {v : Sto} {r : Nat} {g : Nat → Int32} {T W : Nat} (h : LKr v r g T W) : ∀ k, k < W → g (57 + 4 * k) = v (r + 6) k := h.2.2.2.2.2.2.2.2.2.2.2.2.2.2.1
theorem LKr.w2 {v : Sto} {r : Nat} {g : Nat → Int32} {T W : Nat} (h : LKr v r g T W) : ∀ k, k < W → g (58 + 4 * k) = v (r + 7) k := h.2.2.2.2.2.2.2.2.2.2.2.2.2.2.2.1
theorem LKr.w3 {v : Sto} {r : Nat} {g : Nat → Int32} {T W : Nat} (h : LKr v r g T W) : ∀ k, k < W → g (59 + 4 * k) = v (r + 8) k := h.2.2.2.2.2.2.2.2.2.2.2.2.2.2.2.2
theorem ix16 {t w : Nat} (ht : t < 400) (hw : w < 100) : nI 16 + nI 4 * nI t + nI w = nI (16 + 4 * t + w) := by rw [nI_mul, nI_add, nI_add]
theorem ix88 {t w : Nat} (ht : t < 400) (hw : w < 100) : nI 88 + nI 4 * nI t + nI w = nI (88 + 4 * t + w) := by rw [nI_mul, nI_add, nI_add]
theorem mn_ge {a b : Int32} (h : b ≤ a) : mnI a b = b := by
  unfold mnI
  split
  · rfl
  · rename_i q; exact Int32.le_antisymm (Int32.not_lt.mp q) h
theorem sh_bit {x y : Int32} : (x >>> (y &&& 31)) &&& nI 1 = bitJ x y := by
  show _ = (x.toUInt32 >>> (y.toUInt32 &&& Int32.toUInt32 31)).toInt32 &&& nI 1
  apply Int32.toBitVec_inj.mp
  rw [Int32.toBitVec_and, Int32.toBitVec_and, Int32.toBitVec_shiftRight, UInt32.toBitVec_toInt32, UInt32.toBitVec_shiftRight]
  have e1 : (y &&& 31).toBitVec = y.toBitVec &&& 31#32 := rfl
  have e2 : (y.toUInt32 &&& Int32.toUInt32 31).toBitVec = y.toBitVec &&& 31#32 := rfl
  have e3 : x.toUInt32.toBitVec = x.toBitVec := rfl
  rw [e1, e2, e3]
  generalize hz : y.toBitVec &&& 31#32 = z
  have hlt : z.toNat < 32 := by
    rw [← hz, BitVec.toNat_and]
    exact Nat.lt_of_le_of_lt Nat.and_le_right (by decide)
  have h1 : z.smod 32#32 = z := by
    apply BitVec.eq_of_toNat_eq
    have hm : z.msb = false := by
      rw [BitVec.msb_eq_false_iff_two_mul_lt]; omega
    rw [BitVec.smod_eq, hm]
    show (z % 32#32).toNat = z.toNat
    rw [BitVec.toNat_umod]
    exact Nat.mod_eq_of_lt hlt
  have h2 : z % 32#32 = z := by
    apply BitVec.eq_of_toNat_eq
    rw [BitVec.toNat_umod]
    exact Nat.mod_eq_of_lt hlt
  show x.toBitVec.sshiftRight' (z.smod 32#32) &&& 1#32 = (x.toBitVec >>> (z % 32#32)) &&& 1#32
  rw [h1, h2]
  apply BitVec.eq_of_getLsbD_eq
  intro i hi
  rw [BitVec.getLsbD_and, BitVec.getLsbD_and]
  by_cases h0 : i = 0
  · subst h0
    show ((x.toBitVec.sshiftRight z.toNat).getLsbD 0 && _) = ((x.toBitVec >>> z.toNat).getLsbD 0 && _)
    rw [BitVec.getLsbD_sshiftRight, BitVec.getLsbD_ushiftRight]
    simp [hlt]
  · have : (1#32).getLsbD i = false := by
      rw [BitVec.getLsbD_one]; simp [h0]
    rw [this]; simp
theorem bit_01 {x y : Int32} : bitJ x y = nI 0 ∨ bitJ x y = nI 1 := by
  unfold bitJ
  generalize (x.toUInt32 >>> (y.toUInt32 &&& Int32.toUInt32 31)).toInt32 = z
  have h : (z &&& nI 1).toBitVec = z.toBitVec &&& 1#32 := rfl
  have h2 : (z.toBitVec &&& 1#32).toNat = z.toBitVec.toNat % 2 := by
    rw [BitVec.toNat_and]; exact Nat.and_one_is_mod _
  rcases Nat.mod_two_eq_zero_or_one z.toBitVec.toNat with e | e
  · exact Or.inl (Int32.toBitVec_inj.mp (BitVec.eq_of_toNat_eq (by rw [h, h2, e]; rfl)))
  · exact Or.inr (Int32.toBitVec_inj.mp (BitVec.eq_of_toNat_eq (by rw [h, h2, e]; rfl)))
theorem bit_n {x y : Int32} : bitJ x y = nI 1 ↔ ¬ bitJ x y = 0 := by
  constructor
  · intro h; rw [h]; decide
  · intro h
    rcases bit_01 (x := x) (y := y) with e | e
    · exact absurd e h
    · exact e
set_option maxHeartbeats 1000000 in
theorem c_X11_thrown {E : EE}  (u : Sto) : Ct E 1 0 yX11_thrown cX11_thrown 1 (some .int) [.ref (E.ad 178)] u (.inl (some (.int (u 178 0)))) (u) := by
  refine ct_of (by decide) (Nat.le_of_ble_eq_true rfl) (fun X h hR hrt htab hargs hini => ?_)
  refine g_aload_n h dX11_thrown_0 rfl rfl ?_
  refine g_getI h fl_X11_69_10 sh_178 (by decide) rfl dX11_thrown_1 ?_
  exact g_iret h hrt dX11_thrown_4 (by omega) (by rfl) rfl
set_option maxHeartbeats 1000000 in
theorem c_X11_isIn {E : EE} (x a b : Int32) (u : Sto) : Ct E 1 0 yX11_isIn cX11_isIn 3 (some .boolean) [.int x, .int a, .int b] u (.inl (some (.int (b2 (okN x a b))))) (u) := by
  refine ct_of (by decide) (Nat.le_of_ble_eq_true rfl) (fun X h hR hrt htab hargs hini => ?_)
  refine g_iload_n h dX11_isIn_0 rfl rfl ?_
  refine g_iload_n h dX11_isIn_1 rfl rfl ?_
  refine g_icmp_lt (tgt := 14) h dX11_isIn_2 (by decide) (fun c2 => ?_) (fun c2 => ?_)
  · refine g_iconst (v := nI 0) h dX11_isIn_14 (by decide) ?_
    exact g_zret h hrt dX11_isIn_15 (by omega) (by first | exact Or.inl rfl | exact Or.inr rfl | exact b2_01 _ | exact hF.2.2.2.1 | exact hF.2.2.2.2 | exact hy | exact hv | simp) (by rw [b2_f (fun q : okN x a b => q.1 c2)]) rfl
  · refine g_iload_n h dX11_isIn_5 rfl rfl ?_
    refine g_iload_n h dX11_isIn_6 rfl rfl ?_
    refine g_icmp_gt (tgt := 14) h dX11_isIn_7 (by decide) (fun c7 => ?_) (fun c7 => ?_)
    · refine g_iconst (v := nI 0) h dX11_isIn_14 (by decide) ?_
      exact g_zret h hrt dX11_isIn_15 (by omega) (by first | exact Or.inl rfl | exact Or.inr rfl | exact b2_01 _ | exact hF.2.2.2.1 | exact hF.2.2.2.2 | exact hy | exact hv | simp) (by rw [b2_f (fun q : okN x a b => absurd c7 (Int32.not_lt.mpr q.2))]) rfl
    · refine g_iconst (v := nI 1) h dX11_isIn_10 (by decide) ?_
      refine g_goto (tgt := 15) h dX11_isIn_11 (by decide) ?_
      exact g_zret h hrt dX11_isIn_15 (by omega) (by first | exact Or.inl rfl | exact Or.inr rfl | exact b2_01 _ | exact hF.2.2.2.1 | exact hF.2.2.2.2 | exact hy | exact hv | simp) (by rw [b2_t (show okN x a b from ⟨c2, Int32.not_lt.mp c7⟩)]) rfl
set_option maxHeartbeats 1000000 in
theorem c_X11_lesser {E : EE} (a b : Int32) (u : Sto) : Ct E 1 0 yX11_lesser cX11_lesser 2 (some .int) [.int a, .int b] u (.inl (some (.int (mnI a b)))) (u) := by
  refine ct_of (by decide) (Nat.le_of_ble_eq_true rfl) (fun X h hR hrt htab hargs hini => ?_)
  refine g_iload_n h dX11_lesser_0 rfl rfl ?_
  refine g_iload_n h dX11_lesser_1 rfl rfl ?_
  refine g_icmp_ge (tgt := 9) h dX11_lesser_2 (by decide) (fun c2 => ?_) (fun c2 => ?_)
  · refine g_iload_n h dX11_lesser_9 rfl rfl ?_
    exact g_iret h hrt dX11_lesser_10 (by omega) (by rw [mn_ge c2]) rfl
  · refine g_iload_n h dX11_lesser_5 rfl rfl ?_
    refine g_goto (tgt := 10) h dX11_lesser_6 (by decide) ?_
    exact g_iret h hrt dX11_lesser_10 (by omega) (by rw [mnI, if_neg (fun q => c2 (Int32.le_of_lt q))]) rfl
set_option maxHeartbeats 1000000 in
theorem c_X11_isOf {E : EE} (x y : Int32) (u : Sto) : Ct E 1 0 yX11_isOf cX11_isOf 2 (some .boolean) [.int x, .int y] u (.inl (some (.int (b2 (¬ bitJ x y = 0))))) (u) := by
  refine ct_of (by decide) (Nat.le_of_ble_eq_true rfl) (fun X h hR hrt htab hargs hini => ?_)
  refine g_iload_n h dX11_isOf_0 rfl rfl ?_
  refine g_iload_n h dX11_isOf_1 rfl rfl ?_
  refine g_ishr h dX11_isOf_2 ?_
  refine g_iconst (v := nI 1) h dX11_isOf_3 (by decide) ?_
  refine g_iand h dX11_isOf_4 ?_
  refine g_top sh_bit ?_
  refine g_iconst (v := nI 1) h dX11_isOf_5 (by decide) ?_
  refine g_icmp_ne (tgt := 13) h dX11_isOf_6 (by decide) (fun c6 => ?_) (fun c6 => ?_)
  · refine g_iconst (v := nI 0) h dX11_isOf_13 (by decide) ?_
    exact g_zret h hrt dX11_isOf_14 (by omega) (by first | exact Or.inl rfl | exact Or.inr rfl | exact b2_01 _ | exact hF.2.2.2.1 | exact hF.2.2.2.2 | exact hy | exact hv | simp) (by rw [b2_f (fun q => c6 (bit_n.mpr q))]) rfl
  · refine g_iconst (v := nI 1) h dX11_isOf_9 (by decide) ?_
    refine g_goto (tgt := 14) h dX11_isOf_10 (by decide) ?_
    exact g_zret h hrt dX11_isOf_14 (by omega) (by first | exact Or.inl rfl | exact Or.inr rfl | exact b2_01 _ | exact hF.2.2.2.1 | exact hF.2.2.2.2 | exact hy | exact hv | simp) (by rw [b2_t (bit_n.mp c6)]) rfl
set_option maxHeartbeats 1000000 in
theorem c_X11_of {E : EE} (t w : Nat) (ht : t < 10) (hw : w < 4) (u : Sto) : Ct E 1 0 yX11_of cX11_of 3 (some .int) [.ref (E.ad 178), .int (nI t), .int (nI w)] u (.inl (some (.int (u 179 (16 + 4 * t + w))))) (u) := by
  refine ct_of (by decide) (Nat.le_of_ble_eq_true rfl) (fun X h hR hrt htab hargs hini => ?_)
  refine g_aload_n h dX11_of_0 rfl rfl ?_
  refine g_getR h fl_X11_7_10 sh_178 (by decide) rfl dX11_of_1 ?_
  refine g_bipush (v := nI 16) h dX11_of_4 (by decide) ?_
  refine g_iconst (v := nI 4) h dX11_of_6 (by decide) ?_
  refine g_iload_n h dX11_of_7 rfl rfl ?_
  refine g_imul h dX11_of_8 ?_
  refine g_iadd h dX11_of_9 ?_
  refine g_iload_n h dX11_of_10 rfl rfl ?_
  refine g_iadd h dX11_of_11 ?_
  refine g_top (ix16 (by omega) (by omega)) ?_
  refine g_iald h _ _ _ sh_179 (by decide) (by decide) rfl (by omega) dX11_of_12 ?_
  exact g_iret h hrt dX11_of_13 (by omega) (by rfl) rfl
set_option maxHeartbeats 1000000 in
theorem c_X11_ofRoom {E : EE} (r w : Nat) (hr : r < 168) (hw : w < 4) (u : Sto) : Ct E 1 0 yX11_ofRoom cX11_ofRoom 3 (some .int) [.ref (E.ad 178), .int (nI r), .int (nI w)] u (.inl (some (.int (u 179 (88 + 4 * r + w))))) (u) := by
  refine ct_of (by decide) (Nat.le_of_ble_eq_true rfl) (fun X h hR hrt htab hargs hini => ?_)
  refine g_aload_n h dX11_ofRoom_0 rfl rfl ?_
  refine g_getR h fl_X11_7_10 sh_178 (by decide) rfl dX11_ofRoom_1 ?_
  refine g_bipush (v := nI 88) h dX11_ofRoom_4 (by decide) ?_
  refine g_iconst (v := nI 4) h dX11_ofRoom_6 (by decide) ?_
  refine g_iload_n h dX11_ofRoom_7 rfl rfl ?_
  refine g_imul h dX11_ofRoom_8 ?_
  refine g_iadd h dX11_ofRoom_9 ?_
  refine g_iload_n h dX11_ofRoom_10 rfl rfl ?_
  refine g_iadd h dX11_ofRoom_11 ?_
  refine g_top (ix88 (by omega) (by omega)) ?_
  refine g_iald h _ _ _ sh_179 (by decide) (by decide) rfl (by omega) dX11_ofRoom_12 ?_
  exact g_iret h hrt dX11_ofRoom_13 (by omega) (by rfl) rfl
theorem okT_m {x : Int32} {T : Nat} (hT : T ≤ 10) : okN x (nI 0) (nI T - nI 1) ↔ (¬ x < 0 ∧ x < nI T) := by
  have e0 : (nI 0 : Int32) = 0 := by decide
  unfold okN
  rw [e0]
  have h1 : (nI T - nI 1).toInt = (T : Int) - 1 := by
    rw [Int32.toInt_sub, nI_toInt (by omega), nI_toInt (by omega), Int.bmod_eq_of_le (by omega) (by omega)]; omega
  constructor
  · intro ⟨a, b⟩
    have := Int32.le_iff_toInt_le.mp b
    exact ⟨a, Int32.lt_iff_toInt_lt.mpr (by rw [nI_toInt (by omega)]; omega)⟩
  · intro ⟨a, b⟩
    have := Int32.lt_iff_toInt_lt.mp b
    rw [nI_toInt (by omega)] at this
    exact ⟨a, Int32.le_iff_toInt_le.mpr (by omega)⟩
theorem okR_m {x : Int32} : okN x (nI 0) (nI 167) ↔ okR x := by
  have e0 : (nI 0 : Int32) = 0 := by decide
  unfold okN okR
  rw [e0]
  constructor
  · intro ⟨a, b⟩
    have := Int32.le_iff_toInt_le.mp b
    rw [nI_toInt (by omega)] at this
    exact ⟨a, fun q => by have := Int32.le_iff_toInt_le.mp q; rw [nI_toInt (by omega)] at this; omega⟩
  · intro ⟨a, b⟩
    refine ⟨a, Int32.le_iff_toInt_le.mpr ?_⟩
    have := Int32.lt_iff_toInt_lt.mp (Int32.not_le.mp b)
    rw [nI_toInt (by omega)] at this ⊢
    omega
set_option maxHeartbeats 1000000 in
theorem c_X11_isTenant {E : EE} (x : Int32) (v : Sto) (T W : Nat) (u : Sto) (kR : LKr v 10 (u 179) T W) : Ct E 2 0 yX11_isTenant cX11_isTenant 2 (some .boolean) [.ref (E.ad 178), .int x] u (.inl (some (.int (b2 (okT v x))))) (u) := by
  refine ct_of (by decide) (Nat.le_of_ble_eq_true rfl) (fun X h hR hrt htab hargs hini => ?_)
  refine g_iload_n h dX11_isTenant_0 rfl rfl ?_
  refine g_iconst (v := nI 0) h dX11_isTenant_1 (by decide) ?_
  refine g_aload_n h dX11_isTenant_2 rfl rfl ?_
  refine g_getR h fl_X11_7_10 sh_178 (by decide) rfl dX11_isTenant_3 ?_
  refine g_iconst (v := nI 1) h dX11_isTenant_6 (by decide) ?_
  refine g_iald h _ _ _ sh_179 (by decide) (by decide) rfl (by omega) dX11_isTenant_7 ?_
  refine g_top kR.ten ?_
  refine g_iconst (v := nI 1) h dX11_isTenant_8 (by decide) ?_
  refine g_isub h dX11_isTenant_9 ?_
  refine g_S h ls_X11_72 (c_X11_isIn x (nI 0) (nI T - nI 1) _) (fitR hR (by first | decide | omega) (by decide) (by omega)) rfl rfl (Nat.le_of_ble_eq_true rfl) dX11_isTenant_10 ?_
  exact g_zret h hrt dX11_isTenant_13 (by omega) (by first | exact Or.inl rfl | exact Or.inr rfl | exact b2_01 _ | exact hF.2.2.2.1 | exact hF.2.2.2.2 | exact hy | exact hv | simp) (by rw [b2_iff (okT_m kR.hT), ← kR.vt]) rfl
set_option maxHeartbeats 1000000 in
theorem c_X11_isRoom {E : EE} (x : Int32) (u : Sto) : Ct E 2 0 yX11_isRoom cX11_isRoom 1 (some .boolean) [.int x] u (.inl (some (.int (b2 (okR x))))) (u) := by
  refine ct_of (by decide) (Nat.le_of_ble_eq_true rfl) (fun X h hR hrt htab hargs hini => ?_)
  refine g_iload_n h dX11_isRoom_0 rfl rfl ?_
  refine g_iconst (v := nI 0) h dX11_isRoom_1 (by decide) ?_
  refine g_sipush (v := nI 167) h dX11_isRoom_2 (by decide) ?_
  refine g_S h ls_X11_72 (c_X11_isIn x (nI 0) (nI 167) _) (fitR hR (by first | decide | omega) (by decide) (by omega)) rfl rfl (Nat.le_of_ble_eq_true rfl) dX11_isRoom_5 ?_
  exact g_zret h hrt dX11_isRoom_8 (by omega) (by first | exact Or.inl rfl | exact Or.inr rfl | exact b2_01 _ | exact hF.2.2.2.1 | exact hF.2.2.2.2 | exact hy | exact hv | simp) (by rw [b2_iff okR_m]) rfl
set_option maxHeartbeats 1000000 in
theorem c_X11_isChild {E : EE} (a : Nat) (v : Sto) (T W : Nat) (ha : a < T) (u : Sto) (kR : LKr v 10 (u 179) T W) : Ct E 2 0 yX11_isChild cX11_isChild 2 (some .boolean) [.ref (E.ad 178), .int (nI a)] u (.inl (some (.int (b2 (¬ v 13 a = -1))))) (u) := by
  have hT := kR.hT
  have hm : u 179 (16 + 4 * a + 3) = v 13 a := by rw [show 16 + 4 * a + 3 = 19 + 4 * a by omega]; exact kR.mot a ha
  refine ct_of (by decide) (Nat.le_of_ble_eq_true rfl) (fun X h hR hrt htab hargs hini => ?_)
  refine g_aload_n h dX11_isChild_0 rfl rfl ?_
  refine g_iload_n h dX11_isChild_1 rfl rfl ?_
  refine g_iconst (v := nI 3) h dX11_isChild_2 (by decide) ?_
  refine g_V h lv_X11_76_X11 sh_178 (by decide) rfl (c_X11_of a 3 (by omega) (by omega) u) (fitR hR (by first | decide | omega) (by decide) (by omega)) rfl rfl (Nat.le_of_ble_eq_true rfl) dX11_isChild_3 ?_
  refine g_top hm ?_
  refine g_iconst (v := -1) h dX11_isChild_6 (by decide) ?_
  refine g_icmp_eq (tgt := 14) h dX11_isChild_7 (by decide) (fun c7 => ?_) (fun c7 => ?_)
  · refine g_iconst (v := nI 0) h dX11_isChild_14 (by decide) ?_
    exact g_zret h hrt dX11_isChild_15 (by omega) (by first | exact Or.inl rfl | exact Or.inr rfl | exact b2_01 _ | exact hF.2.2.2.1 | exact hF.2.2.2.2 | exact hy | exact hv | simp) (by rw [b2_f (fun q => q c7)]) rfl
  · refine g_iconst (v := nI 1) h dX11_isChild_10 (by decide) ?_
    refine g_goto (tgt := 15) h dX11_isChild_11 (by decide) ?_
    exact g_zret h hrt dX11_isChild_15 (by omega) (by first | exact Or.inl rfl | exact Or.inr rfl | exact b2_01 _ | exact hF.2.2.2.1 | exact hF.2.2.2.2 | exact hy | exact hv | simp) (by rw [b2_t c7]) rfl
set_option maxHeartbeats 1000000 in
theorem c_X11_adult {E : EE} (a : Nat) (v : Sto) (T W : Nat) (ha : a < T) (u : Sto) (kR : LKr v 10 (u 179) T W) : Ct E 3 0 yX11_adult cX11_adult 2 (some .int) [.ref (E.ad 178), .int (nI a)] u (.inl (some (.int (hmI v a)))) (u) := by
  have hT := kR.hT
  have hm : u 179 (16 + 4 * a + 3) = v 13 a := by rw [show 16 + 4 * a + 3 = 19 + 4 * a by omega]; exact kR.mot a ha
  refine ct_of (by decide) (Nat.le_of_ble_eq_true rfl) (fun X h hR hrt htab hargs hini => ?_)
  refine g_aload_n h dX11_adult_0 rfl rfl ?_
  refine g_iload_n h dX11_adult_1 rfl rfl ?_
  refine g_V h lv_X11_80_X11 sh_178 (by decide) rfl (c_X11_isChild a v T W ha u kR) (fitR hR (by first | decide | omega) (by decide) (by omega)) rfl rfl (Nat.le_of_ble_eq_true rfl) dX11_adult_2 ?_
  refine g_if_eq (tgt := 17) h dX11_adult_5 (by decide) (fun c5 => ?_) (fun c5 => ?_)
  · refine g_iload_n h dX11_adult_17 rfl rfl ?_
    exact g_iret h hrt dX11_adult_18 (by omega) (by rw [hmI, if_pos (Decidable.not_not.mp (b2_0.mp c5))]) rfl
  · refine g_aload_n h dX11_adult_8 rfl rfl ?_
    refine g_iload_n h dX11_adult_9 rfl rfl ?_
    refine g_iconst (v := nI 3) h dX11_adult_10 (by decide) ?_
    refine g_V h lv_X11_76_X11 sh_178 (by decide) rfl (c_X11_of a 3 (by omega) (by omega) u) (fitR hR (by first | decide | omega) (by decide) (by omega)) rfl rfl (Nat.le_of_ble_eq_true rfl) dX11_adult_11 ?_
    refine g_top hm ?_
    refine g_goto (tgt := 18) h dX11_adult_14 (by decide) ?_
    exact g_iret h hrt dX11_adult_18 (by omega) (by rw [hmI, if_neg (b2_n0.mp c5)]) rfl
set_option maxHeartbeats 1000000 in
theorem c_X11_livesIn {E : EE} (x : Int32) (k : Nat) (hx : x + nI 168 = nI k) (hk : k < 400) (v : Sto) (T W : Nat) (u : Sto) (kT : LKt v 3 (u 179)) : Ct E 2 0 yX11_livesIn cX11_livesIn 2 (some .int) [.ref (E.ad 178), .int x] u (.inl (some (.int (lvT v 3 (k % 168))))) (u) := by
  have hm : k % 168 < 168 := Nat.mod_lt _ (by omega)
  refine ct_of (by decide) (Nat.le_of_ble_eq_true rfl) (fun X h hR hrt htab hargs hini => ?_)
  refine g_aload_n h dX11_livesIn_0 rfl rfl ?_
  refine g_iload_n h dX11_livesIn_1 rfl rfl ?_
  refine g_sipush (v := nI 168) h dX11_livesIn_2 (by decide) ?_
  refine g_iadd h dX11_livesIn_5 ?_
  refine g_top hx ?_
  refine g_sipush (v := nI 168) h dX11_livesIn_6 (by decide) ?_
  refine g_irem h dX11_livesIn_9 (by decide) ?_
  refine g_top (y := nI (k % 168)) (pk_rem (by omega) (by omega) (by omega)) ?_
  refine g_iconst (v := nI 1) h dX11_livesIn_10 (by decide) ?_
  refine g_V h lv_X11_84_X11 sh_178 (by decide) rfl (c_X11_ofRoom (k % 168) 1 hm (by omega) u) (fitR hR (by first | decide | omega) (by decide) (by omega)) rfl rfl (Nat.le_of_ble_eq_true rfl) dX11_livesIn_11 ?_
  exact g_iret h hrt dX11_livesIn_14 (by omega) (by rw [show 88 + 4 * (k % 168) + 1 = 89 + 4 * (k % 168) by omega, kT.liv _ hm]) rfl
set_option maxHeartbeats 1000000 in
theorem c_X11_isSublet {E : EE} (r : Nat) (hr : r < 168) (v : Sto) (T W : Nat) (u : Sto) (kT : LKt v 3 (u 179)) : Ct E 2 0 yX11_isSublet cX11_isSublet 2 (some .boolean) [.ref (E.ad 178), .int (nI r)] u (.inl (some (.int (b2 (¬ lvT v 3 r = v 4 r))))) (u) := by
  refine ct_of (by decide) (Nat.le_of_ble_eq_true rfl) (fun X h hR hrt htab hargs hini => ?_)
  refine g_aload_n h dX11_isSublet_0 rfl rfl ?_
  refine g_iload_n h dX11_isSublet_1 rfl rfl ?_
  refine g_iconst (v := nI 1) h dX11_isSublet_2 (by decide) ?_
  refine g_V h lv_X11_84_X11 sh_178 (by decide) rfl (c_X11_ofRoom r 1 hr (by omega) u) (fitR hR (by first | decide | omega) (by decide) (by omega)) rfl rfl (Nat.le_of_ble_eq_true rfl) dX11_isSublet_3 ?_
  refine g_top (y := lvT v 3 r) (by rw [show 88 + 4 * r + 1 = 89 + 4 * r by omega]; exact kT.liv r hr) ?_
  refine g_aload_n h dX11_isSublet_6 rfl rfl ?_
  refine g_iload_n h dX11_isSublet_7 rfl rfl ?_
  refine g_iconst (v := nI 0) h dX11_isSublet_8 (by decide) ?_
  refine g_V h lv_X11_84_X11 sh_178 (by decide) rfl (c_X11_ofRoom r 0 hr (by omega) u) (fitR hR (by first | decide | omega) (by decide) (by omega)) rfl rfl (Nat.le_of_ble_eq_true rfl) dX11_isSublet_9 ?_
  refine g_top (y := v 4 r) (kT.own r hr) ?_
  refine g_icmp_eq (tgt := 19) h dX11_isSublet_12 (by decide) (fun c12 => ?_) (fun c12 => ?_)
  · refine g_iconst (v := nI 0) h dX11_isSublet_19 (by decide) ?_
    exact g_zret h hrt dX11_isSublet_20 (by omega) (by first | exact Or.inl rfl | exact Or.inr rfl | exact b2_01 _ | exact hF.2.2.2.1 | exact hF.2.2.2.2 | exact hy | exact hv | simp) (by rw [b2_f (fun q => q c12)]) rfl
  · refine g_iconst (v := nI 1) h dX11_isSublet_15 (by decide) ?_
    refine g_goto (tgt := 20) h dX11_isSublet_16 (by decide) ?_
    exact g_zret h hrt dX11_isSublet_20 (by omega) (by first | exact Or.inl rfl | exact Or.inr rfl | exact b2_01 _ | exact hF.2.2.2.1 | exact hF.2.2.2.2 | exact hy | exact hv | simp) (by rw [b2_t c12]) rfl
theorem ct_1 {p : Nat → Bool} {k : Nat} (h : p k = true) : ctI p (k + 1) = ctI p k + nI 1 := by rw [ctI, if_pos h]; rfl
theorem ct_0 {p : Nat → Bool} {k : Nat} (h : ¬ p k = true) : ctI p (k + 1) = ctI p k + nI 0 := by rw [ctI, if_neg h]; exact (Int32.add_zero _).symm
theorem sm_s {f : Nat → Int32} {k : Nat} : smI f (k + 1) = smI f k + f k := rfl
set_option maxHeartbeats 1000000 in
theorem c_X11_ownsOf {E : EE} (x : Int32) (v : Sto) (T W : Nat) (u : Sto) (kT : LKt v 3 (u 179)) : Ct E 2 0 yX11_ownsOf cX11_ownsOf 4 (some .int) [.ref (E.ad 178), .int x] u (.inl (some (.int (ctI (fun r => decide (v 4 r = x)) 168)))) (u) := by
  refine ct_of (by decide) (Nat.le_of_ble_eq_true rfl) (fun X h hR hrt htab hargs hini => ?_)
  have LP : ∀ j k : Nat, 168 < k + j → k ≤ 168 → G E X (QM E X (.inl (some (.int (ctI (fun r => decide (v 4 r = x)) 168)))) (u) 0) 4 0 4 [(0, .ref (E.ad 178)), (1, .int x), (2, .int (ctI (fun r => decide (v 4 r = x)) k)), (3, .int (nI k))] [] (u) := by
    intro j
    induction j with
    | zero => intro k h1 h2; omega
    | succ j ih =>
      intro k h1 h2
      refine g_iload_n h dX11_ownsOf_4 rfl rfl ?_
      refine g_sipush (v := nI 168) h dX11_ownsOf_5 (by decide) ?_
      refine g_icmp_ge (tgt := 35) h dX11_ownsOf_8 (by decide) (fun c8 => ?_) (fun c8 => ?_)
      · have n8 := le_n (by omega) (by omega) (show nI (168) ≤ nI (k) from c8)
        refine g_iload_n h dX11_ownsOf_35 rfl rfl ?_
        exact g_iret h hrt dX11_ownsOf_36 (by omega) (by rw [show k = 168 by omega]) rfl
      · have n8 := nle_n (by omega) (by omega) (show ¬ nI (168) ≤ nI (k) from c8)
        refine g_iload_n h dX11_ownsOf_11 rfl rfl ?_
        refine g_aload_n h dX11_ownsOf_12 rfl rfl ?_
        refine g_iload_n h dX11_ownsOf_13 rfl rfl ?_
        refine g_iconst (v := nI 0) h dX11_ownsOf_14 (by decide) ?_
        refine g_V h lv_X11_84_X11 sh_178 (by decide) rfl (c_X11_ofRoom k 0 (by omega) (by omega) u) (fitR hR (by first | decide | omega) (by decide) (by omega)) rfl rfl (Nat.le_of_ble_eq_true rfl) dX11_ownsOf_15 ?_
        refine g_top (y := v 4 k) (kT.own k (by omega)) ?_
        refine g_iload_n h dX11_ownsOf_18 rfl rfl ?_
        refine g_icmp_ne (tgt := 26) h dX11_ownsOf_19 (by decide) (fun c19 => ?_) (fun c19 => ?_)
        · refine g_iconst (v := nI 0) h dX11_ownsOf_26 (by decide) ?_
          refine g_iadd h dX11_ownsOf_27 ?_
          refine g_istore_n (ls' := [(0, _), (1, _), (2, _), (3, _)]) h dX11_ownsOf_28 rfl (by decide) rfl rfl ?_
          refine g_iinc (v := nI (k + 1)) (ls' := [(0, _), (1, _), (2, _), (3, _)]) h dX11_ownsOf_29 rfl (nI_1 k) (by decide) rfl rfl ?_
          refine g_goto (tgt := 4) h dX11_ownsOf_32 (by decide) ?_
          exact g_cv (by rw [ct_0 (fun q => c19 (of_decide_eq_true q))]) rfl (ih (k + 1) (by omega) (by omega))
        · refine g_iconst (v := nI 1) h dX11_ownsOf_22 (by decide) ?_
          refine g_goto (tgt := 27) h dX11_ownsOf_23 (by decide) ?_
          refine g_iadd h dX11_ownsOf_27 ?_
          refine g_istore_n (ls' := [(0, _), (1, _), (2, _), (3, _)]) h dX11_ownsOf_28 rfl (by decide) rfl rfl ?_
          refine g_iinc (v := nI (k + 1)) (ls' := [(0, _), (1, _), (2, _), (3, _)]) h dX11_ownsOf_29 rfl (nI_1 k) (by decide) rfl rfl ?_
          refine g_goto (tgt := 4) h dX11_ownsOf_32 (by decide) ?_
          exact g_cv (by rw [ct_1 (decide_eq_true c19)]) rfl (ih (k + 1) (by omega) (by omega))
  refine g_iconst (v := nI 0) h dX11_ownsOf_0 (by decide) ?_
  refine g_istore_n (ls' := [(0, _), (1, _), (2, _)]) h dX11_ownsOf_1 rfl (by decide) rfl rfl ?_
  refine g_iconst (v := nI 0) h dX11_ownsOf_2 (by decide) ?_
  refine g_istore_n (ls' := [(0, _), (1, _), (2, _), (3, _)]) h dX11_ownsOf_3 rfl (by decide) rfl rfl ?_
  exact LP (168 + 1) (0) (by omega) (by omega)
set_option maxHeartbeats 1000000 in
theorem c_X11_livesOf {E : EE} (a : Nat) (v : Sto) (T W : Nat) (ha : a < T) (u : Sto) (kT : LKt v 3 (u 179)) (kR : LKr v 10 (u 179) T W) : Ct E 4 0 yX11_livesOf cX11_livesOf 4 (some .int) [.ref (E.ad 178), .int (nI a)] u (.inl (some (.int (lvI v (hmI v a))))) (u) := by
  refine ct_of (by decide) (Nat.le_of_ble_eq_true rfl) (fun X h hR hrt htab hargs hini => ?_)
  have LP : ∀ j k : Nat, 168 < k + j → k ≤ 168 → G E X (QM E X (.inl (some (.int (lvI v (hmI v a))))) (u) 0) 4 0 4 [(0, .ref (E.ad 178)), (1, .int (nI a)), (2, .int (ctI (fun r => decide (lvT v 3 r = hmI v a)) k)), (3, .int (nI k))] [] (u) := by
    intro j
    induction j with
    | zero => intro k h1 h2; omega
    | succ j ih =>
      intro k h1 h2
      refine g_iload_n h dX11_livesOf_4 rfl rfl ?_
      refine g_sipush (v := nI 168) h dX11_livesOf_5 (by decide) ?_
      refine g_icmp_ge (tgt := 39) h dX11_livesOf_8 (by decide) (fun c8 => ?_) (fun c8 => ?_)
      · have n8 := le_n (by omega) (by omega) (show nI (168) ≤ nI (k) from c8)
        refine g_iload_n h dX11_livesOf_39 rfl rfl ?_
        exact g_iret h hrt dX11_livesOf_40 (by omega) (by rw [show k = 168 by omega]; rfl) rfl
      · have n8 := nle_n (by omega) (by omega) (show ¬ nI (168) ≤ nI (k) from c8)
        refine g_iload_n h dX11_livesOf_11 rfl rfl ?_
        refine g_aload_n h dX11_livesOf_12 rfl rfl ?_
        refine g_iload_n h dX11_livesOf_13 rfl rfl ?_
        refine g_iconst (v := nI 1) h dX11_livesOf_14 (by decide) ?_
        refine g_V h lv_X11_84_X11 sh_178 (by decide) rfl (c_X11_ofRoom k 1 (by omega) (by omega) u) (fitR hR (by first | decide | omega) (by decide) (by omega)) rfl rfl (Nat.le_of_ble_eq_true rfl) dX11_livesOf_15 ?_
        refine g_top (y := lvT v 3 k) (by rw [show 88 + 4 * k + 1 = 89 + 4 * k by omega]; exact kT.liv k (by omega)) ?_
        refine g_aload_n h dX11_livesOf_18 rfl rfl ?_
        refine g_iload_n h dX11_livesOf_19 rfl rfl ?_
        refine g_V h lv_X11_87_X11 sh_178 (by decide) rfl (c_X11_adult a v T W ha u kR) (fitR hR (by first | decide | omega) (by decide) (by omega)) rfl rfl (Nat.le_of_ble_eq_true rfl) dX11_livesOf_20 ?_
        refine g_icmp_ne (tgt := 30) h dX11_livesOf_23 (by decide) (fun c23 => ?_) (fun c23 => ?_)
        · refine g_iconst (v := nI 0) h dX11_livesOf_30 (by decide) ?_
          refine g_iadd h dX11_livesOf_31 ?_
          refine g_istore_n (ls' := [(0, _), (1, _), (2, _), (3, _)]) h dX11_livesOf_32 rfl (by decide) rfl rfl ?_
          refine g_iinc (v := nI (k + 1)) (ls' := [(0, _), (1, _), (2, _), (3, _)]) h dX11_livesOf_33 rfl (nI_1 k) (by decide) rfl rfl ?_
          refine g_goto (tgt := 4) h dX11_livesOf_36 (by decide) ?_
          exact g_cv (by rw [ct_0 (fun q => c23 (of_decide_eq_true q))]) rfl (ih (k + 1) (by omega) (by omega))
        · refine g_iconst (v := nI 1) h dX11_livesOf_26 (by decide) ?_
          refine g_goto (tgt := 31) h dX11_livesOf_27 (by decide) ?_
          refine g_iadd h dX11_livesOf_31 ?_
          refine g_istore_n (ls' := [(0, _), (1, _), (2, _), (3, _)]) h dX11_livesOf_32 rfl (by decide) rfl rfl ?_
          refine g_iinc (v := nI (k + 1)) (ls' := [(0, _), (1, _), (2, _), (3, _)]) h dX11_livesOf_33 rfl (nI_1 k) (by decide) rfl rfl ?_
          refine g_goto (tgt := 4) h dX11_livesOf_36 (by decide) ?_
          exact g_cv (by rw [ct_1 (decide_eq_true c23)]) rfl (ih (k + 1) (by omega) (by omega))
  refine g_iconst (v := nI 0) h dX11_livesOf_0 (by decide) ?_
  refine g_istore_n (ls' := [(0, _), (1, _), (2, _)]) h dX11_livesOf_1 rfl (by decide) rfl rfl ?_
  refine g_iconst (v := nI 0) h dX11_livesOf_2 (by decide) ?_
  refine g_istore_n (ls' := [(0, _), (1, _), (2, _), (3, _)]) h dX11_livesOf_3 rfl (by decide) rfl rfl ?_
  exact LP (168 + 1) (0) (by omega) (by omega)
set_option maxHeartbeats 1000000 in
theorem c_X11_has {E : EE} (r : Nat) (hr : r < 168) (x y : Int32) (u : Sto) : Ct E 1 0 yX11_has cX11_has 4 none [.ref (E.ad 178), .int (nI r), .int x, .int y] u (.inl none) ((su (su u 179 (88 + 4 * r) x) 179 (89 + 4 * r) y)) := by
  refine ct_of (by decide) (Nat.le_of_ble_eq_true rfl) (fun X h hR hrt htab hargs hini => ?_)
  refine g_aload_n h dX11_has_0 rfl rfl ?_
  refine g_getR h fl_X11_7_10 sh_178 (by decide) rfl dX11_has_1 ?_
  refine g_bipush (v := nI 88) h dX11_has_4 (by decide) ?_
  refine g_iconst (v := nI 4) h dX11_has_6 (by decide) ?_
  refine g_iload_n h dX11_has_7 rfl rfl ?_
  refine g_imul h dX11_has_8 ?_
  refine g_iadd h dX11_has_9 ?_
  refine g_iconst (v := nI 0) h dX11_has_10 (by decide) ?_
  refine g_iadd h dX11_has_11 ?_
  refine g_top (y := nI (88 + 4 * r)) (ix88 (w := 0) (by omega) (by omega)) ?_
  refine g_iload_n h dX11_has_12 rfl rfl ?_
  refine g_iast h _ _ _ sh_179 (by decide) (by decide) rfl (by omega) dX11_has_13 ?_
  refine g_aload_n h dX11_has_14 rfl rfl ?_
  refine g_getR h fl_X11_7_10 sh_178 (by decide) rfl dX11_has_15 ?_
  refine g_bipush (v := nI 88) h dX11_has_18 (by decide) ?_
  refine g_iconst (v := nI 4) h dX11_has_20 (by decide) ?_
  refine g_iload_n h dX11_has_21 rfl rfl ?_
  refine g_imul h dX11_has_22 ?_
  refine g_iadd h dX11_has_23 ?_
  refine g_iconst (v := nI 1) h dX11_has_24 (by decide) ?_
  refine g_iadd h dX11_has_25 ?_
  refine g_top (y := nI (89 + 4 * r)) ((ix88 (w := 1) (by omega) (by omega)).trans (congrArg nI (by omega))) ?_
  refine g_iload_n h dX11_has_26 rfl rfl ?_
  refine g_iast h _ _ _ sh_179 (by decide) (by decide) rfl (by omega) dX11_has_27 ?_
  exact g_vret h hrt dX11_has_28 (by omega) rfl rfl
