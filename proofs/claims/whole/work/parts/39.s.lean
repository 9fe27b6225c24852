-- after: 38.r
def flF (f : Nat → Int32) (x : Int32) (n : Nat) : Nat → Int32 := fun j => if j < n then x else f j
theorem fl_0 (f : Nat → Int32) (x : Int32) : flF f x 0 = f := by funext j; exact if_neg (by omega)
theorem fl_s (f : Nat → Int32) (x : Int32) (n : Nat) : upd (flF f x n) n x = flF f x (n + 1) := by
  funext j
  unfold flF
  by_cases h : j = n
  · subst h; rw [pk_us, if_pos (by omega)]
  · rw [pk_un h]
    by_cases q : j < n
    · rw [if_pos q, if_pos (by omega)]
    · rw [if_neg q, if_neg (by omega)]
set_option maxHeartbeats 1000000 in
theorem c_J7_fill_53178 {E : EE} (c N : Nat) (hs : shp c = .inr (.inl (0, N))) (hc : c < shN) (hN : N < 2 ^ 30) (x : Int32) (u : Sto) : Ct E 1 0 yJ7_fill_53178 cJ7_fill_53178 4 none [.ref (E.ad c), .int x] u (.inl none) (sc u c (flF (u c) x N)) := by
  have hN1 : N < 2 ^ 31 := by omega
  refine ct_ofF (by decide +kernel) (Nat.le_of_ble_eq_true rfl) (fun X h hR hrt htab hargs => ?_)
  have LP : ∀ j k : Nat, N < k + j → k ≤ N → G E X (QM E X (.inl none) (sc u c (flF (u c) x N)) 0) 4 0 5 [(0, .ref (E.ad c)), (1, .int x), (2, .int (nI k)), (3, .int (nI N))] [] (sc u c (flF (u c) x k)) := by
    intro j
    induction j with
    | zero => intro k h1 h2; omega
    | succ j ih =>
      intro k h1 h2
      refine g_iload_n h dJ7_fill_53178_5 rfl rfl ?_
      refine g_iload_n h dJ7_fill_53178_6 rfl rfl ?_
      refine g_icmp_ge (tgt := 20) h dJ7_fill_53178_7 (by decide) (fun c7 => ?_) (fun c7 => ?_)
      · have n7 := le_n (by omega) (by omega) (show nI (N) ≤ nI (k) from c7)
        obtain rfl : k = N := by omega
        exact g_vret h hrt dJ7_fill_53178_20 (by omega) rfl rfl
      · have n7 := nle_n (by omega) (by omega) (show ¬ nI (N) ≤ nI (k) from c7)
        refine g_aload_n h dJ7_fill_53178_10 rfl rfl ?_
        refine g_iload_n h dJ7_fill_53178_11 rfl rfl ?_
        refine g_iload_n h dJ7_fill_53178_12 rfl rfl ?_
        refine g_iast h _ _ _ hs hc (by omega) rfl (by omega) dJ7_fill_53178_13 ?_
        refine g_iinc (v := nI (k + 1)) (ls' := [(0, _), (1, _), (2, _), (3, _)]) h dJ7_fill_53178_14 rfl (nI_1 k) (by decide) rfl rfl ?_
        refine g_goto (tgt := 5) h dJ7_fill_53178_17 (by decide) ?_
        exact g_cv rfl (by rw [su_sc, fl_s]) (ih (k + 1) (by omega) (by omega))
  refine g_iconst (v := nI 0) h dJ7_fill_53178_0 (by decide) ?_
  refine g_istore_n (ls' := [(0, _), (1, _), (2, _)]) h dJ7_fill_53178_1 rfl (by decide) rfl rfl ?_
  refine g_aload_n h dJ7_fill_53178_2 rfl rfl ?_
  refine g_alen h _ _ hs hc dJ7_fill_53178_3 ?_
  refine g_istore_n (ls' := [(0, _), (1, _), (2, _), (3, _)]) h dJ7_fill_53178_4 rfl (by decide) rfl rfl ?_
  exact g_cv rfl (by rw [fl_0, sc_self]) (LP (N + 1) 0 (by omega) (by omega))
def bcI (x : Int32) : Int32 :=
  let a := x - ((x.toUInt32 >>> ((nI 1).toUInt32 &&& Int32.toUInt32 31)).toInt32 &&& 1431655765)
  let b := (a &&& 858993459) + ((a.toUInt32 >>> ((nI 2).toUInt32 &&& Int32.toUInt32 31)).toInt32 &&& 858993459)
  let c := (b + (b.toUInt32 >>> ((nI 4).toUInt32 &&& Int32.toUInt32 31)).toInt32) &&& 252645135
  let d := c + (c.toUInt32 >>> ((nI 8).toUInt32 &&& Int32.toUInt32 31)).toInt32
  let e := d + (d.toUInt32 >>> ((nI 16).toUInt32 &&& Int32.toUInt32 31)).toInt32
  e &&& nI 63
set_option maxHeartbeats 1000000 in
theorem c_J6_bitCount_0f7a4 {E : EE} (x : Int32) (u : Sto) : Ct E 1 0 yJ6_bitCount_0f7a4 cJ6_bitCount_0f7a4 1 (some .int) [.int x] u (.inl (some (.int (bcI x)))) (u) := by
  refine ct_ofF (by decide +kernel) (Nat.le_of_ble_eq_true rfl) (fun X h hR hrt htab hargs => ?_)
  refine g_iload_n h dJ6_bitCount_0f7a4_0 rfl rfl ?_
  refine g_iload_n h dJ6_bitCount_0f7a4_1 rfl rfl ?_
  refine g_iconst (v := nI 1) h dJ6_bitCount_0f7a4_2 (by decide) ?_
  refine g_iushr h dJ6_bitCount_0f7a4_3 ?_
  refine g_ldcwI h tw_6_207 dJ6_bitCount_0f7a4_4 ?_
  refine g_iand h dJ6_bitCount_0f7a4_7 ?_
  refine g_isub h dJ6_bitCount_0f7a4_8 ?_
  refine g_istore_n (ls' := [(0, _)]) h dJ6_bitCount_0f7a4_9 rfl (by decide) rfl rfl ?_
  refine g_iload_n h dJ6_bitCount_0f7a4_10 rfl rfl ?_
  refine g_ldcwI h tw_6_208 dJ6_bitCount_0f7a4_11 ?_
  refine g_iand h dJ6_bitCount_0f7a4_14 ?_
  refine g_iload_n h dJ6_bitCount_0f7a4_15 rfl rfl ?_
  refine g_iconst (v := nI 2) h dJ6_bitCount_0f7a4_16 (by decide) ?_
  refine g_iushr h dJ6_bitCount_0f7a4_17 ?_
  refine g_ldcwI h tw_6_208 dJ6_bitCount_0f7a4_18 ?_
  refine g_iand h dJ6_bitCount_0f7a4_21 ?_
  refine g_iadd h dJ6_bitCount_0f7a4_22 ?_
  refine g_istore_n (ls' := [(0, _)]) h dJ6_bitCount_0f7a4_23 rfl (by decide) rfl rfl ?_
  refine g_iload_n h dJ6_bitCount_0f7a4_24 rfl rfl ?_
  refine g_iload_n h dJ6_bitCount_0f7a4_25 rfl rfl ?_
  refine g_iconst (v := nI 4) h dJ6_bitCount_0f7a4_26 (by decide) ?_
  refine g_iushr h dJ6_bitCount_0f7a4_27 ?_
  refine g_iadd h dJ6_bitCount_0f7a4_28 ?_
  refine g_ldcwI h tw_6_209 dJ6_bitCount_0f7a4_29 ?_
  refine g_iand h dJ6_bitCount_0f7a4_32 ?_
  refine g_istore_n (ls' := [(0, _)]) h dJ6_bitCount_0f7a4_33 rfl (by decide) rfl rfl ?_
  refine g_iload_n h dJ6_bitCount_0f7a4_34 rfl rfl ?_
  refine g_iload_n h dJ6_bitCount_0f7a4_35 rfl rfl ?_
  refine g_bipush (v := nI 8) h dJ6_bitCount_0f7a4_36 (by decide) ?_
  refine g_iushr h dJ6_bitCount_0f7a4_38 ?_
  refine g_iadd h dJ6_bitCount_0f7a4_39 ?_
  refine g_istore_n (ls' := [(0, _)]) h dJ6_bitCount_0f7a4_40 rfl (by decide) rfl rfl ?_
  refine g_iload_n h dJ6_bitCount_0f7a4_41 rfl rfl ?_
  refine g_iload_n h dJ6_bitCount_0f7a4_42 rfl rfl ?_
  refine g_bipush (v := nI 16) h dJ6_bitCount_0f7a4_43 (by decide) ?_
  refine g_iushr h dJ6_bitCount_0f7a4_45 ?_
  refine g_iadd h dJ6_bitCount_0f7a4_46 ?_
  refine g_istore_n (ls' := [(0, _)]) h dJ6_bitCount_0f7a4_47 rfl (by decide) rfl rfl ?_
  refine g_iload_n h dJ6_bitCount_0f7a4_48 rfl rfl ?_
  refine g_bipush (v := nI 63) h dJ6_bitCount_0f7a4_49 (by decide) ?_
  refine g_iand h dJ6_bitCount_0f7a4_51 ?_
  exact g_iret h hrt dJ6_bitCount_0f7a4_52 (by omega) (by rfl) rfl
/-- the cheapest of those that are left -/
def clF (f : Nat → Int32) : Nat → Int32
  | 0 => -1
  | k + 1 => if ¬ f k < 0 ∧ (clF f k = -1 ∨ f k < f (ix (clF f k))) then nI k else clF f k
theorem cl_tn (f : Nat → Int32) : ∀ k, tn (clF f k) k
  | 0 => Or.inl rfl
  | k + 1 => by
    rw [clF]
    split
    · exact Or.inr ⟨k, by omega, rfl⟩
    · rcases cl_tn f k with h | ⟨a, ha, h⟩
      · exact Or.inl h
      · exact Or.inr ⟨a, by omega, h⟩
theorem cl_cong {f g : Nat → Int32} {n : Nat} (h : ∀ j, j < n → f j = g j) (hn : n < 2 ^ 31) : ∀ k, k ≤ n → clF f k = clF g k
  | 0, _ => rfl
  | k + 1, hk => by
    rw [clF, clF, cl_cong h hn k (by omega), h k (by omega)]
    by_cases e : clF g k = -1
    · rw [e]; simp
    · rw [h _ (by have := tn_ix (by omega) (cl_tn g k) e; omega)]
def prI (u : Sto) (a r : Nat) : Int32 := if mtP u a r 1000000 then rtI u a r else -1
theorem prI_sim {w u : Sto} (h : sim w u) (a r : Nat) : prI w a r = prI u a r := by
  unfold prI
  by_cases q : mtP u a r 1000000
  · rw [if_pos q, if_pos ((mtP_sim h a r _).mpr q), rtI_sim h]
  · rw [if_neg q, if_neg (fun z => q ((mtP_sim h a r _).mp z))]
def chF : Nat → (Nat → Int32) → Int32 → Option ((Nat → Int32) × Int32)
  | 0, f, s => some (f, s)
  | j + 1, f, s => if clF f 168 = -1 then none else chF j (upd f (ix (clF f 168)) (-2)) (s + f (ix (clF f 168)))
theorem ch_s {f : Nat → Int32} {s : Int32} {n k : Nat} (h : k < n) : chF (n - k) f s = if clF f 168 = -1 then none else chF (n - (k + 1)) (upd f (ix (clF f 168)) (-2)) (s + f (ix (clF f 168))) := by
  rw [show n - k = (n - (k + 1)) + 1 by omega]; rfl
theorem ch_e {f : Nat → Int32} {s : Int32} {n : Nat} : chF (n - n) f s = some (f, s) := by rw [Nat.sub_self]; rfl
def csI (f : Nat → Int32) (k : Int32) : Int32 := ledF (fun r => decide (f r < -1)) nI 168 0 k
theorem led_cong {p q : Nat → Bool} {v : Nat → Int32} {n : Nat} (h : ∀ j, j < n → p j = q j) : ∀ j k l, k + j ≤ n → ledF p v j k l = ledF q v j k l
  | 0, _, _, _ => rfl
  | j + 1, k, l, hk => by rw [ledF, ledF, h k (by omega), led_cong h j (k + 1) _ (by omega), led_cong h j (k + 1) _ (by omega)]
theorem cs_cong {f g : Nat → Int32} (h : ∀ j, j < 168 → f j = g j) (k : Int32) : csI f k = csI g k := led_cong (fun j hj => by rw [h j hj]) 168 0 k (by omega)
def chV (u : Sto) (a n : Nat) (k : Int32) : Int32 := match chF n (prI u a) (nI 0) with | none => -1 | some q => if k = -1 then q.2 else csI q.1 k
set_option maxHeartbeats 1000000 in
theorem c_X0_cheapestLeft {E : EE}  (u : Sto) : Ct E 1 0 yX0_cheapestLeft cX0_cheapestLeft 3 (some .int) [.ref (E.ad 164)] u (.inl (some (.int (clF (u 165) 168)))) (u) := by
  refine ct_of (by decide) (Nat.le_of_ble_eq_true rfl) (fun X h hR hrt htab hargs hini => ?_)
  have LP : ∀ j k : Nat, 168 < k + j → k ≤ 168 → G E X (QM E X (.inl (some (.int (clF (u 165) 168)))) (u) 0) 3 0 4 [(0, .ref (E.ad 164)), (1, .int (clF (u 165) k)), (2, .int (nI k))] [] (u) := by
    intro j
    induction j with
    | zero => intro k h1 h2; omega
    | succ j ih =>
      intro k h1 h2
      refine g_iload_n h dX0_cheapestLeft_4 rfl rfl ?_
      refine g_sipush (v := nI 168) h dX0_cheapestLeft_5 (by decide) ?_
      refine g_icmp_ge (tgt := 48) h dX0_cheapestLeft_8 (by decide) (fun c8 => ?_) (fun c8 => ?_)
      · have n8 := le_n (by omega) (by omega) (show nI (168) ≤ nI (k) from c8)
        obtain rfl : k = 168 := by omega
        refine g_iload_n h dX0_cheapestLeft_48 rfl rfl ?_
        exact g_iret h hrt dX0_cheapestLeft_49 (by omega) (by rfl) rfl
      · have n8 := nle_n (by omega) (by omega) (show ¬ nI (168) ≤ nI (k) from c8)
        refine g_aload_n h dX0_cheapestLeft_11 rfl rfl ?_
        refine g_getR h fl_X0_9_0 sh_164 (by decide) rfl dX0_cheapestLeft_12 ?_
        refine g_iload_n h dX0_cheapestLeft_15 rfl rfl ?_
        refine g_iald h _ _ _ sh_165 (by decide) (by decide) rfl (by omega) dX0_cheapestLeft_16 ?_
        refine g_if_lt (tgt := 42) h dX0_cheapestLeft_17 (by decide) (fun c17 => ?_) (fun c17 => ?_)
        · have hz : ¬ (¬ u 165 k < 0 ∧ (clF (u 165) k = -1 ∨ u 165 k < u 165 (ix (clF (u 165) k)))) := fun q => q.1 c17
          refine g_iinc (v := nI (k + 1)) (ls' := [(0, _), (1, _), (2, _)]) h dX0_cheapestLeft_42 rfl (nI_1 k) (by decide) rfl rfl ?_
          refine g_goto (tgt := 4) h dX0_cheapestLeft_45 (by decide) ?_
          exact g_cv (by rw [clF, if_neg hz]) rfl (ih (k + 1) (by omega) (by omega))
        · refine g_iload_n h dX0_cheapestLeft_20 rfl rfl ?_
          refine g_iconst (v := -1) h dX0_cheapestLeft_21 (by decide) ?_
          refine g_icmp_eq (tgt := 40) h dX0_cheapestLeft_22 (by decide) (fun c22 => ?_) (fun c22 => ?_)
          · have hz : ¬ u 165 k < 0 ∧ (clF (u 165) k = -1 ∨ u 165 k < u 165 (ix (clF (u 165) k))) := ⟨c17, Or.inl c22⟩
            refine g_iload_n h dX0_cheapestLeft_40 rfl rfl ?_
            refine g_istore_n (ls' := [(0, _), (1, _), (2, _)]) h dX0_cheapestLeft_41 rfl (by decide) rfl rfl ?_
            refine g_iinc (v := nI (k + 1)) (ls' := [(0, _), (1, _), (2, _)]) h dX0_cheapestLeft_42 rfl (nI_1 k) (by decide) rfl rfl ?_
            refine g_goto (tgt := 4) h dX0_cheapestLeft_45 (by decide) ?_
            exact g_cv (by rw [clF, if_pos hz]) rfl (ih (k + 1) (by omega) (by omega))
          · have hb := tn_ix (by omega) (cl_tn (u 165) k) c22
            refine g_aload_n h dX0_cheapestLeft_25 rfl rfl ?_
            refine g_getR h fl_X0_9_0 sh_164 (by decide) rfl dX0_cheapestLeft_26 ?_
            refine g_iload_n h dX0_cheapestLeft_29 rfl rfl ?_
            refine g_iald h _ _ _ sh_165 (by decide) (by decide) rfl (by omega) dX0_cheapestLeft_30 ?_
            refine g_aload_n h dX0_cheapestLeft_31 rfl rfl ?_
            refine g_getR h fl_X0_9_0 sh_164 (by decide) rfl dX0_cheapestLeft_32 ?_
            refine g_iload_n h dX0_cheapestLeft_35 rfl rfl ?_
            refine g_top hb.1 ?_
            refine g_iald h _ _ _ sh_165 (by decide) (by decide) rfl (by omega) dX0_cheapestLeft_36 ?_
            refine g_icmp_ge (tgt := 42) h dX0_cheapestLeft_37 (by decide) (fun c37 => ?_) (fun c37 => ?_)
            · have hz : ¬ (¬ u 165 k < 0 ∧ (clF (u 165) k = -1 ∨ u 165 k < u 165 (ix (clF (u 165) k)))) := fun q => by
                rcases q.2 with q2 | q2
                · exact c22 q2
                · exact absurd q2 (Int32.not_lt.mpr c37)
              refine g_iinc (v := nI (k + 1)) (ls' := [(0, _), (1, _), (2, _)]) h dX0_cheapestLeft_42 rfl (nI_1 k) (by decide) rfl rfl ?_
              refine g_goto (tgt := 4) h dX0_cheapestLeft_45 (by decide) ?_
              exact g_cv (by rw [clF, if_neg hz]) rfl (ih (k + 1) (by omega) (by omega))
            · have hz : ¬ u 165 k < 0 ∧ (clF (u 165) k = -1 ∨ u 165 k < u 165 (ix (clF (u 165) k))) := ⟨c17, Or.inr (Int32.not_le.mp c37)⟩
              refine g_iload_n h dX0_cheapestLeft_40 rfl rfl ?_
              refine g_istore_n (ls' := [(0, _), (1, _), (2, _)]) h dX0_cheapestLeft_41 rfl (by decide) rfl rfl ?_
              refine g_iinc (v := nI (k + 1)) (ls' := [(0, _), (1, _), (2, _)]) h dX0_cheapestLeft_42 rfl (nI_1 k) (by decide) rfl rfl ?_
              refine g_goto (tgt := 4) h dX0_cheapestLeft_45 (by decide) ?_
              exact g_cv (by rw [clF, if_pos hz]) rfl (ih (k + 1) (by omega) (by omega))
  refine g_iconst (v := -1) h dX0_cheapestLeft_0 (by decide) ?_
  refine g_istore_n (ls' := [(0, _), (1, _)]) h dX0_cheapestLeft_1 rfl (by decide) rfl rfl ?_
  refine g_iconst (v := nI 0) h dX0_cheapestLeft_2 (by decide) ?_
  refine g_istore_n (ls' := [(0, _), (1, _), (2, _)]) h dX0_cheapestLeft_3 rfl (by decide) rfl rfl ?_
  exact LP (168 + 1) (0) (by omega) (by omega)
set_option maxHeartbeats 1000000 in
theorem c_X0_chosen {E : EE} (x : Int32) (u : Sto) : Ct E 1 0 yX0_chosen cX0_chosen 4 (some .int) [.ref (E.ad 164), .int x] u (.inl (some (.int (csI (u 165) x)))) (u) := by
  refine ct_of (by decide) (Nat.le_of_ble_eq_true rfl) (fun X h hR hrt htab hargs hini => ?_)
  have LP : ∀ j k : Nat, ∀ l : Int32, ledF (fun r => decide (u 165 r < -1)) nI 168 0 x = ledF (fun r => decide (u 165 r < -1)) nI (168 - k) k l → 168 < k + j → k ≤ 168 → G E X (QM E X (.inl (some (.int (csI (u 165) x)))) (u) 0) 4 0 4 [(0, .ref (E.ad 164)), (1, .int x), (2, .int l), (3, .int (nI k))] [] (u) := by
    intro j
    induction j with
    | zero => intro k l hf h1 h2; omega
    | succ j ih =>
      intro k l hf h1 h2
      refine g_iload_n h dX0_chosen_4 rfl rfl ?_
      refine g_sipush (v := nI 168) h dX0_chosen_5 (by decide) ?_
      refine g_icmp_ge (tgt := 36) h dX0_chosen_8 (by decide) (fun c8 => ?_) (fun c8 => ?_)
      · have n8 := le_n (by omega) (by omega) (show nI (168) ≤ nI (k) from c8)
        obtain rfl : k = 168 := by omega
        rw [led_e] at hf
        refine g_iconst (v := -1) h dX0_chosen_36 (by decide) ?_
        exact g_iret h hrt dX0_chosen_37 (by omega) (by rw [csI, hf]) rfl
      · have n8 := nle_n (by omega) (by omega) (show ¬ nI (168) ≤ nI (k) from c8)
        rw [led_s (by omega)] at hf
        refine g_aload_n h dX0_chosen_11 rfl rfl ?_
        refine g_getR h fl_X0_9_0 sh_164 (by decide) rfl dX0_chosen_12 ?_
        refine g_iload_n h dX0_chosen_15 rfl rfl ?_
        refine g_iald h _ _ _ sh_165 (by decide) (by decide) rfl (by omega) dX0_chosen_16 ?_
        refine g_iconst (v := -1) h dX0_chosen_17 (by decide) ?_
        refine g_icmp_ge (tgt := 30) h dX0_chosen_18 (by decide) (fun c18 => ?_) (fun c18 => ?_)
        · rw [if_neg (fun q => absurd (of_decide_eq_true q) (Int32.not_lt.mpr c18))] at hf
          refine g_iinc (v := nI (k + 1)) (ls' := [(0, _), (1, _), (2, _), (3, _)]) h dX0_chosen_30 rfl (nI_1 k) (by decide) rfl rfl ?_
          refine g_goto (tgt := 4) h dX0_chosen_33 (by decide) ?_
          exact ih (k + 1) _ hf (by omega) (by omega)
        · rw [if_pos (decide_eq_true (Int32.not_le.mp c18))] at hf
          refine g_iload_n h dX0_chosen_21 rfl rfl ?_
          refine g_if_ne (tgt := 27) h dX0_chosen_22 (by decide) (fun c22 => ?_) (fun c22 => ?_)
          · rw [if_neg c22] at hf
            refine g_iinc (ls' := [(0, _), (1, _), (2, _), (3, _)]) h dX0_chosen_27 rfl rfl (by decide) rfl rfl ?_
            refine g_iinc (v := nI (k + 1)) (ls' := [(0, _), (1, _), (2, _), (3, _)]) h dX0_chosen_30 rfl (nI_1 k) (by decide) rfl rfl ?_
            refine g_goto (tgt := 4) h dX0_chosen_33 (by decide) ?_
            exact ih (k + 1) _ hf (by omega) (by omega)
          · rw [if_pos c22] at hf
            refine g_iload_n h dX0_chosen_25 rfl rfl ?_
            exact g_iret h hrt dX0_chosen_26 (by omega) (by rw [csI, hf]) rfl
  refine g_iload_n h dX0_chosen_0 rfl rfl ?_
  refine g_istore_n (ls' := [(0, _), (1, _), (2, _)]) h dX0_chosen_1 rfl (by decide) rfl rfl ?_
  refine g_iconst (v := nI 0) h dX0_chosen_2 (by decide) ?_
  refine g_istore_n (ls' := [(0, _), (1, _), (2, _), (3, _)]) h dX0_chosen_3 rfl (by decide) rfl rfl ?_
  exact LP (168 + 1) (0) x rfl (by omega) (by omega)
theorem su_row {v : Sto} {c k j : Nat} {x : Int32} : su v c k x c j = if j = k then x else v c j := by
  by_cases h : j = k
  · rw [if_pos h, h]; exact su_same _ _ _ _
  · rw [if_neg h, su_slot h]
set_option maxHeartbeats 1000000 in
theorem c_X0_cheapest {E : EE} (a : Nat) (ha : a < 10) (n : Nat) (hn : n ≤ 20) (x : Int32) (u : Sto) (hl : lawI u) : CtP E 6 0 yX0_cheapest cX0_cheapest 7 (some .int) [.ref (E.ad 164), .int (nI a), .int (nI n), .int x] u (PS (.inl (some (.int (chV u a n x)))) u) := by
  refine ctp_of (by decide) (Nat.le_of_ble_eq_true rfl) (fun X h hR hrt htab hargs => ?_)
  refine g_iconst (v := nI 0) h dX0_cheapest_0 (by decide) ?_
  refine g_istore (ls' := [(0, _), (1, _), (2, _), (3, _), (4, _)]) h dX0_cheapest_1 (by decide) rfl rfl ?_
  have LP : ∀ j k : Nat, ∀ w : Sto, sim w u → (∀ j, j < k → w 165 j = prI u a j) → 168 < k + j → k ≤ 168 → G E X (QMP E X (PS (.inl (some (.int (chV u a n x)))) u) 0) 7 0 3 [(0, .ref (E.ad 164)), (1, .int (nI a)), (2, .int (nI n)), (3, .int x), (4, .int (nI k))] [] (w) := by
    intro j
    induction j with
    | zero => intro k w hs hc h1 h2; omega
    | succ j ih =>
      intro k w hs hc h1 h2
      refine g_iload h dX0_cheapest_3 rfl ?_
      refine g_sipush (v := nI 168) h dX0_cheapest_5 (by decide) ?_
      refine g_icmp_ge (tgt := 57) h dX0_cheapest_8 (by decide) (fun c8 => ?_) (fun c8 => ?_)
      · have n8 := le_n (by omega) (by omega) (show nI (168) ≤ nI (k) from c8)
        obtain rfl : k = 168 := by omega
        refine g_iconst (v := nI 0) h dX0_cheapest_57 (by decide) ?_
        refine g_istore (ls' := [(0, _), (1, _), (2, _), (3, _), (4, _)]) h dX0_cheapest_58 (by decide) rfl rfl ?_
        refine g_iconst (v := nI 0) h dX0_cheapest_60 (by decide) ?_
        refine g_istore (ls' := [(0, _), (1, _), (2, _), (3, _), (4, _), (5, _)]) h dX0_cheapest_61 (by decide) rfl rfl ?_
        have LP2 : ∀ j k : Nat, ∀ (w2 : Sto) (f : Nat → Int32) (t : Int32), sim w2 u → (∀ j, j < 168 → w2 165 j = f j) → chF n (prI u a) (nI 0) = chF (n - k) f t → n < k + j → k ≤ n → G E X (QMP E X (PS (.inl (some (.int (chV u a n x)))) u) 0) 7 0 63 [(0, .ref (E.ad 164)), (1, .int (nI a)), (2, .int (nI n)), (3, .int x), (4, .int t), (5, .int (nI k))] [] (w2) := by
          intro j
          induction j with
          | zero => intro k w2 f t hw hv hf h1 h2; omega
          | succ j ih =>
            intro k w2 f t hw hv hf h1 h2
            refine g_iload h dX0_cheapest_63 rfl ?_
            refine g_iload_n h dX0_cheapest_65 rfl rfl ?_
            refine g_icmp_ge (tgt := 110) h dX0_cheapest_66 (by decide) (fun c66 => ?_) (fun c66 => ?_)
            · have n66 := le_n (by omega) (by omega) (show nI (n) ≤ nI (k) from c66)
              obtain rfl : k = n := by omega
              rw [ch_e] at hf
              refine g_iload_n h dX0_cheapest_110 rfl rfl ?_
              refine g_iconst (v := -1) h dX0_cheapest_111 (by decide) ?_
              refine g_icmp_ne (tgt := 120) h dX0_cheapest_112 (by decide) (fun c112 => ?_) (fun c112 => ?_)
              · refine g_aload_n h dX0_cheapest_120 rfl rfl ?_
                refine g_iload_n h dX0_cheapest_121 rfl rfl ?_
                refine g_V h lv_X0_60_X0 sh_164 (by decide) rfl (c_X0_chosen _ _) (fitR hR (by decide) (by decide) (by omega)) rfl rfl (Nat.le_of_ble_eq_true rfl) dX0_cheapest_122 ?_
                refine g_top (y := csI f x) (cs_cong hv x) ?_
                exact g_iretP h hrt dX0_cheapest_125 (by omega) ⟨by first | (rw [chV, hf]; exact congrArg (fun q => Sum.inl (some (Value.int q))) (if_pos c112).symm) | (rw [chV, hf]; exact congrArg (fun q => Sum.inl (some (Value.int q))) (if_neg c112).symm), hw⟩
              · refine g_iload h dX0_cheapest_115 rfl ?_
                refine g_goto (tgt := 125) h dX0_cheapest_117 (by decide) ?_
                exact g_iretP h hrt dX0_cheapest_125 (by omega) ⟨by first | (rw [chV, hf]; exact congrArg (fun q => Sum.inl (some (Value.int q))) (if_pos c112).symm) | (rw [chV, hf]; exact congrArg (fun q => Sum.inl (some (Value.int q))) (if_neg c112).symm), hw⟩
            · have n66 := nle_n (by omega) (by omega) (show ¬ nI (n) ≤ nI (k) from c66)
              rw [ch_s (by omega)] at hf
              refine g_aload_n h dX0_cheapest_69 rfl rfl ?_
              refine g_V h lv_X0_56_X0 sh_164 (by decide) rfl (c_X0_cheapestLeft _) (fitR hR (by decide) (by decide) (by omega)) rfl rfl (Nat.le_of_ble_eq_true rfl) dX0_cheapest_70 ?_
              refine g_top (y := clF f 168) (cl_cong hv (by omega) 168 (by omega)) ?_
              refine g_istore (ls' := [(0, _), (1, _), (2, _), (3, _), (4, _), (5, _), (6, _)]) h dX0_cheapest_73 (by decide) rfl rfl ?_
              refine g_iload h dX0_cheapest_75 rfl ?_
              refine g_iconst (v := -1) h dX0_cheapest_77 (by decide) ?_
              refine g_icmp_ne (tgt := 83) h dX0_cheapest_78 (by decide) (fun c78 => ?_) (fun c78 => ?_)
              · rw [if_neg c78] at hf
                have hb := tn_ix (by decide) (cl_tn f 168) c78
                refine g_iload h dX0_cheapest_83 rfl ?_
                refine g_aload_n h dX0_cheapest_85 rfl rfl ?_
                refine g_getR h fl_X0_9_0 sh_164 (by decide) rfl dX0_cheapest_86 ?_
                refine g_iload h dX0_cheapest_89 rfl ?_
                refine g_top hb.1 ?_
                refine g_iald h _ _ _ sh_165 (by decide) (by decide) rfl hb.2 dX0_cheapest_91 ?_
                refine g_top (y := f (ix (clF f 168))) (hv _ hb.2) ?_
                refine g_iadd h dX0_cheapest_92 ?_
                refine g_istore (ls' := [(0, _), (1, _), (2, _), (3, _), (4, _), (5, _), (6, _)]) h dX0_cheapest_93 (by decide) rfl rfl ?_
                refine g_aload_n h dX0_cheapest_95 rfl rfl ?_
                refine g_getR h fl_X0_9_0 sh_164 (by decide) rfl dX0_cheapest_96 ?_
                refine g_iload h dX0_cheapest_99 rfl ?_
                refine g_top hb.1 ?_
                refine g_bipush (v := -2) h dX0_cheapest_101 (by decide) ?_
                refine g_iast h _ _ _ sh_165 (by decide) (by decide) rfl hb.2 dX0_cheapest_103 ?_
                refine g_iinc (v := nI (k + 1)) (ls' := [(0, _), (1, _), (2, _), (3, _), (4, _), (5, _), (6, _)]) h dX0_cheapest_104 rfl (nI_1 k) (by decide) rfl rfl ?_
                refine g_goto (tgt := 63) h dX0_cheapest_107 (by decide) ?_
                refine g_del 6 (ls' := [(0, _), (1, _), (2, _), (3, _), (4, _), (5, _)]) rfl ?_
                exact ih (k + 1) _ _ _ (sim_scr hw _ (by rfl)) (fun j hj => by
                  rw [su_row, upd]
                  split
                  · rfl
                  · exact hv j hj) hf (by omega) (by omega)
              · rw [if_pos c78] at hf
                refine g_iconst (v := -1) h dX0_cheapest_81 (by decide) ?_
                exact g_iretP h hrt dX0_cheapest_82 (by omega) ⟨by rw [chV, hf], hw⟩
        exact LP2 (n + 1) (0) w (prI u a) (nI 0) hs hc rfl (by omega) (by omega)
        
      · have n8 := nle_n (by omega) (by omega) (show ¬ nI (168) ≤ nI (k) from c8)
        refine g_aload_n h dX0_cheapest_11 rfl rfl ?_
        refine g_getR h fl_X0_36_0 sh_164 (by decide) rfl dX0_cheapest_12 ?_
        refine g_iload_n h dX0_cheapest_15 rfl rfl ?_
        refine g_iload h dX0_cheapest_16 rfl ?_
        refine g_ldcI h tw_6_156 dX0_cheapest_18 ?_
        refine g_VP h lv_X0_48_X9 sh_2 (by decide) rfl (c_X9_mayTakeT a ha k (by omega) _ _ (lawI_sim hs hl)) pt_nx (fitR hR (by decide) (by decide) (by omega)) rfl rfl (Nat.le_of_ble_eq_true rfl) dX0_cheapest_20 (fun v20 u20 hs20 => ?_)
        obtain ⟨hv20, hs20⟩ := hs20
        cases hv20
        have hs2 := hs20.sim.trans hs
        refine g_istore (ls' := [(0, _), (1, _), (2, _), (3, _), (4, _), (5, _)]) h dX0_cheapest_23 (by decide) rfl rfl ?_
        refine g_aload_n h dX0_cheapest_25 rfl rfl ?_
        refine g_getR h fl_X0_9_0 sh_164 (by decide) rfl dX0_cheapest_26 ?_
        refine g_iload h dX0_cheapest_29 rfl ?_
        refine g_iload h dX0_cheapest_31 rfl ?_
        refine g_if_eq (tgt := 49) h dX0_cheapest_33 (by decide) (fun c33 => ?_) (fun c33 => ?_)
        · have d33 := b2_0.mp c33
          have hs3 := hs2
          have h165 := hs20 165 (by decide) (by decide)
          refine g_iconst (v := -1) h dX0_cheapest_49 (by decide) ?_
          refine g_top (y := prI u a k) (by rw [prI, if_neg (fun q => d33 ((mtP_sim hs a k _).mpr q))]) ?_
          refine g_iast h _ _ _ sh_165 (by decide) (by decide) rfl (by omega) dX0_cheapest_50 ?_
          refine g_iinc (v := nI (k + 1)) (ls' := [(0, _), (1, _), (2, _), (3, _), (4, _), (5, _)]) h dX0_cheapest_51 rfl (nI_1 k) (by decide) rfl rfl ?_
          refine g_goto (tgt := 3) h dX0_cheapest_54 (by decide) ?_
          refine g_del 5 (ls' := [(0, _), (1, _), (2, _), (3, _), (4, _)]) rfl ?_
          exact ih (k + 1) _ (sim_scr hs3 _ (by rfl)) (fun j hj => by
            rw [su_row, h165]
            split
            · rename_i e; rw [e]
            · exact hc j (by omega)) (by omega) (by omega)
        · have d33 := b2_n0.mp c33
          refine g_aload_n h dX0_cheapest_36 rfl rfl ?_
          refine g_getR h fl_X0_36_0 sh_164 (by decide) rfl dX0_cheapest_37 ?_
          refine g_iload_n h dX0_cheapest_40 rfl rfl ?_
          refine g_iload h dX0_cheapest_41 rfl ?_
          refine g_VP h lv_X0_52_X9 sh_2 (by decide) rfl (c_X9_rentOfT a ha k (by omega) _ (lawI_sim hs2 hl)) pt_nx (fitR hR (by decide) (by decide) (by omega)) rfl rfl (Nat.le_of_ble_eq_true rfl) dX0_cheapest_43 (fun v43 u43 hs43 => ?_)
          obtain ⟨hv43, hs43⟩ := hs43
          cases hv43
          have hs3 := hs43.sim.trans hs2
          have h165 := (hs43 165 (by decide) (by decide)).trans (hs20 165 (by decide) (by decide))
          refine g_top (y := prI u a k) (by rw [rtI_sim hs2, prI, if_pos ((mtP_sim hs a k _).mp d33)]) ?_
          refine g_goto (tgt := 50) h dX0_cheapest_46 (by decide) ?_
          refine g_iast h _ _ _ sh_165 (by decide) (by decide) rfl (by omega) dX0_cheapest_50 ?_
          refine g_iinc (v := nI (k + 1)) (ls' := [(0, _), (1, _), (2, _), (3, _), (4, _), (5, _)]) h dX0_cheapest_51 rfl (nI_1 k) (by decide) rfl rfl ?_
          refine g_goto (tgt := 3) h dX0_cheapest_54 (by decide) ?_
          refine g_del 5 (ls' := [(0, _), (1, _), (2, _), (3, _), (4, _)]) rfl ?_
          exact ih (k + 1) _ (sim_scr hs3 _ (by rfl)) (fun j hj => by
            rw [su_row, h165]
            split
            · rename_i e; rw [e]
            · exact hc j (by omega)) (by omega) (by omega)
  exact LP (168 + 1) (0) u (sim.refl u) (fun j hj => absurd hj (by omega)) (by omega) (by omega)
  
