-- after: 38.r 39.s 40.t 47.str 48.tx
def nx (f : Nat → Int32) (L b : Nat) : Nat := skp f L (enN f L b)
theorem nx_b {f : Nat → Int32} {L b : Nat} (h : b ≤ L) : b ≤ nx f L b ∧ nx f L b ≤ L := by
  have h1 := enN_b (f := f) h
  have h2 := skp_b (f := f) h1.2
  exact ⟨Nat.le_trans h1.1 h2.1, h2.2⟩
def wdB (f : Nat → Int32) (L b i : Nat) : Bool := decide (kdN f L b = 1 ∧ enN f L b - b = strLen.getD i 0) && allB (fun j => decide (f (b + j) = strC i j)) (strLen.getD i 0)
abbrev sgP (f : Nat → Int32) (L b : Nat) (c : Int32) : Prop := kdN f L b = 3 ∧ f b = c
abbrev nuP (f : Nat → Int32) (L b d : Nat) (lo hi : Int32) : Prop := kdN f L b = 2 ∧ enN f L b - b ≤ d ∧ ¬ nmI f L b < lo ∧ nmI f L b ≤ hi
theorem kd_lt {f : Nat → Int32} {L b : Nat} (h : kdN f L b ≠ 0) : b < L := by
  unfold kdN at h
  by_cases q : L ≤ b
  · rw [if_pos q] at h; exact absurd rfl h
  · omega
theorem kd_4 (f : Nat → Int32) (L b : Nat) : kdN f L b < 4 := by
  unfold kdN
  split
  · omega
  · split
    · omega
    · split <;> omega
theorem mn_400 {L : Nat} (h : L ≤ 400) : mnI (nI L) (nI 400) = nI L := by
  unfold mnI
  split
  · rename_i q
    have := lt_n (by omega) (by omega) q
    omega
  · rfl
set_option maxHeartbeats 1000000 in
theorem c_X6_firstWrong_159 {E : EE} (f : Nat → Int32) (L b : Nat) (w : Int32) (u : Sto) (hf : u 1 = f) (hL : L ≤ 400) (hb : b ≤ L) : Ct E 1 0 yX6_firstWrong cX6_firstWrong 1 (some .int) [.ref (E.ad 159)] (tkS9 u 159 f L b w) (.inl (some (.int w))) ((tkS9 u 159 f L b w)) := by
  have hk4 := kd_4 f L b
  have he9 := enN_b (f := f) hb
  have hm9 := nx_b (f := f) hb
  refine ct_of (by decide) (Nat.le_of_ble_eq_true rfl) (fun X h hR hrt htab hargs hini => ?_)
  refine g_aload_n h dX6_firstWrong_0 rfl rfl ?_
  refine g_getI h fl_X6_28_7 sh_159 (by decide) rfl dX6_firstWrong_1 ?_
  refine g_top tx_r6 ?_
  exact g_iret h hrt dX6_firstWrong_4 (by omega) (by rfl) rfl
set_option maxHeartbeats 1000000 in
theorem c_X6_readNumber_159 {E : EE} (f : Nat → Int32) (L b : Nat) (w : Int32) (u : Sto) (hf : u 1 = f) (hL : L ≤ 400) (hb : b ≤ L) : Ct E 1 0 yX6_readNumber cX6_readNumber 1 (some .int) [.ref (E.ad 159)] (tkS9 u 159 f L b w) (.inl (some (.int (nmI f L b)))) ((tkS9 u 159 f L b w)) := by
  have hk4 := kd_4 f L b
  have he9 := enN_b (f := f) hb
  have hm9 := nx_b (f := f) hb
  refine ct_of (by decide) (Nat.le_of_ble_eq_true rfl) (fun X h hR hrt htab hargs hini => ?_)
  refine g_aload_n h dX6_readNumber_0 rfl rfl ?_
  refine g_getI h fl_X6_37_7 sh_159 (by decide) rfl dX6_readNumber_1 ?_
  refine g_top tx_r5 ?_
  exact g_iret h hrt dX6_readNumber_4 (by omega) (by rfl) rfl
set_option maxHeartbeats 1000000 in
theorem c_X6_atEnd_159 {E : EE} (f : Nat → Int32) (L b : Nat) (w : Int32) (u : Sto) (hf : u 1 = f) (hL : L ≤ 400) (hb : b ≤ L) : Ct E 1 0 yX6_atEnd cX6_atEnd 1 (some .boolean) [.ref (E.ad 159)] (tkS9 u 159 f L b w) (.inl (some (.int (b2 (kdN f L b = 0))))) ((tkS9 u 159 f L b w)) := by
  have hk4 := kd_4 f L b
  have he9 := enN_b (f := f) hb
  have hm9 := nx_b (f := f) hb
  refine ct_of (by decide) (Nat.le_of_ble_eq_true rfl) (fun X h hR hrt htab hargs hini => ?_)
  refine g_aload_n h dX6_atEnd_0 rfl rfl ?_
  refine g_getI h fl_X6_34_7 sh_159 (by decide) rfl dX6_atEnd_1 ?_
  refine g_top tx_r2 ?_
  refine g_if_ne (tgt := 11) h dX6_atEnd_4 (by decide) (fun c4 => ?_) (fun c4 => ?_)
  · have n4 := ne_n (show ¬ nI (kdN f L b) = nI (0) from c4)
    refine g_iconst (v := nI 0) h dX6_atEnd_11 (by decide) ?_
    exact g_zret h hrt dX6_atEnd_12 (by omega) (by first | exact Or.inl rfl | exact Or.inr rfl | simp) (by first | rw [b2_t n4] | rw [b2_f n4]) rfl
  · have n4 := eq_n (by omega) (by omega) (show nI (kdN f L b) = nI (0) from c4)
    refine g_iconst (v := nI 1) h dX6_atEnd_7 (by decide) ?_
    refine g_goto (tgt := 12) h dX6_atEnd_8 (by decide) ?_
    exact g_zret h hrt dX6_atEnd_12 (by omega) (by first | exact Or.inl rfl | exact Or.inr rfl | simp) (by first | rw [b2_t n4] | rw [b2_f n4]) rfl
set_option maxHeartbeats 1000000 in
theorem c_X6_atNumber_159 {E : EE} (f : Nat → Int32) (L b : Nat) (w : Int32) (u : Sto) (hf : u 1 = f) (hL : L ≤ 400) (hb : b ≤ L) : Ct E 1 0 yX6_atNumber cX6_atNumber 1 (some .boolean) [.ref (E.ad 159)] (tkS9 u 159 f L b w) (.inl (some (.int (b2 (kdN f L b = 2))))) ((tkS9 u 159 f L b w)) := by
  have hk4 := kd_4 f L b
  have he9 := enN_b (f := f) hb
  have hm9 := nx_b (f := f) hb
  refine ct_of (by decide) (Nat.le_of_ble_eq_true rfl) (fun X h hR hrt htab hargs hini => ?_)
  refine g_aload_n h dX6_atNumber_0 rfl rfl ?_
  refine g_getI h fl_X6_34_7 sh_159 (by decide) rfl dX6_atNumber_1 ?_
  refine g_top tx_r2 ?_
  refine g_iconst (v := nI 2) h dX6_atNumber_4 (by decide) ?_
  refine g_icmp_ne (tgt := 12) h dX6_atNumber_5 (by decide) (fun c5 => ?_) (fun c5 => ?_)
  · have n5 := ne_n (show ¬ nI (kdN f L b) = nI (2) from c5)
    refine g_iconst (v := nI 0) h dX6_atNumber_12 (by decide) ?_
    exact g_zret h hrt dX6_atNumber_13 (by omega) (by first | exact Or.inl rfl | exact Or.inr rfl | simp) (by first | rw [b2_t n5] | rw [b2_f n5]) rfl
  · have n5 := eq_n (by omega) (by omega) (show nI (kdN f L b) = nI (2) from c5)
    refine g_iconst (v := nI 1) h dX6_atNumber_8 (by decide) ?_
    refine g_goto (tgt := 13) h dX6_atNumber_9 (by decide) ?_
    exact g_zret h hrt dX6_atNumber_13 (by omega) (by first | exact Or.inl rfl | exact Or.inr rfl | simp) (by first | rw [b2_t n5] | rw [b2_f n5]) rfl
set_option maxHeartbeats 1000000 in
theorem c_X6_fail_159 {E : EE} (f : Nat → Int32) (L b : Nat) (w : Int32) (u : Sto) (hf : u 1 = f) (hL : L ≤ 400) (hb : b ≤ L) : Ct E 1 0 yX6_fail cX6_fail 1 (some .boolean) [.ref (E.ad 159)] (tkS9 u 159 f L b w) (.inl (some (.int (nI 0)))) ((tkS9 u 159 f L b (nI b))) := by
  have hk4 := kd_4 f L b
  have he9 := enN_b (f := f) hb
  have hm9 := nx_b (f := f) hb
  refine ct_of (by decide) (Nat.le_of_ble_eq_true rfl) (fun X h hR hrt htab hargs hini => ?_)
  refine g_aload_n h dX6_fail_0 rfl rfl ?_
  refine g_aload_n h dX6_fail_1 rfl rfl ?_
  refine g_getI h fl_X6_40_7 sh_159 (by decide) rfl dX6_fail_2 ?_
  refine g_top tx_r3 ?_
  refine g_putI h pfl_X6_28_7 sh_159 (by decide) rfl dX6_fail_5 ?_
  refine g_sto tx_w6 ?_
  refine g_iconst (v := nI 0) h dX6_fail_8 (by decide) ?_
  exact g_zret h hrt dX6_fail_9 (by omega) (by first | exact Or.inl rfl | exact Or.inr rfl | simp) (by rfl) rfl
set_option maxHeartbeats 1000000 in
theorem c_X6_atSign_159 {E : EE} (f : Nat → Int32) (L b : Nat) (w : Int32) (c : Int32) (u : Sto) (hf : u 1 = f) (hL : L ≤ 400) (hb : b ≤ L) : Ct E 1 0 yX6_atSign cX6_atSign 2 (some .boolean) [.ref (E.ad 159), .int c] (tkS9 u 159 f L b w) (.inl (some (.int (b2 (sgP f L b c))))) ((tkS9 u 159 f L b w)) := by
  have hk4 := kd_4 f L b
  have he9 := enN_b (f := f) hb
  have hm9 := nx_b (f := f) hb
  refine ct_of (by decide) (Nat.le_of_ble_eq_true rfl) (fun X h hR hrt htab hargs hini => ?_)
  refine g_aload_n h dX6_atSign_0 rfl rfl ?_
  refine g_getI h fl_X6_34_7 sh_159 (by decide) rfl dX6_atSign_1 ?_
  refine g_top tx_r2 ?_
  refine g_iconst (v := nI 3) h dX6_atSign_4 (by decide) ?_
  refine g_icmp_ne (tgt := 25) h dX6_atSign_5 (by decide) (fun c5 => ?_) (fun c5 => ?_)
  · have n5 := ne_n (show ¬ nI (kdN f L b) = nI (3) from c5)
    have hz : ¬ sgP f L b c := fun q => n5 q.1
    refine g_iconst (v := nI 0) h dX6_atSign_25 (by decide) ?_
    exact g_zret h hrt dX6_atSign_26 (by omega) (by first | exact Or.inl rfl | exact Or.inr rfl | simp) (by first | rw [b2_t hz] | rw [b2_f hz]) rfl
  · have n5 := eq_n (by omega) (by omega) (show nI (kdN f L b) = nI (3) from c5)
    refine g_aload_n h dX6_atSign_8 rfl rfl ?_
    refine g_getR h fl_X6_9_7 sh_159 (by decide) rfl dX6_atSign_9 ?_
    refine g_aload_n h dX6_atSign_12 rfl rfl ?_
    refine g_getI h fl_X6_40_7 sh_159 (by decide) rfl dX6_atSign_13 ?_
    refine g_top tx_r3 ?_
    refine g_iald h _ _ _ sh_1 (by decide) (by decide) rfl (by have := kd_lt (f := f) (L := L) (b := b) (by omega); omega) dX6_atSign_16 ?_
    refine g_top (tx_o (by decide)) ?_
    refine g_top (y := f b) (by rw [hf]) ?_
    refine g_iload_n h dX6_atSign_17 rfl rfl ?_
    refine g_icmp_ne (tgt := 25) h dX6_atSign_18 (by decide) (fun c18 => ?_) (fun c18 => ?_)
    · have hz : ¬ sgP f L b c := fun q => c18 q.2
      refine g_iconst (v := nI 0) h dX6_atSign_25 (by decide) ?_
      exact g_zret h hrt dX6_atSign_26 (by omega) (by first | exact Or.inl rfl | exact Or.inr rfl | simp) (by first | rw [b2_t hz] | rw [b2_f hz]) rfl
    · have hz : sgP f L b c := ⟨n5, c18⟩
      refine g_iconst (v := nI 1) h dX6_atSign_21 (by decide) ?_
      refine g_goto (tgt := 26) h dX6_atSign_22 (by decide) ?_
      exact g_zret h hrt dX6_atSign_26 (by omega) (by first | exact Or.inl rfl | exact Or.inr rfl | simp) (by first | rw [b2_t hz] | rw [b2_f hz]) rfl
theorem c_X6_stepT_159 {E : EE} (f : Nat → Int32) (L b : Nat) (w : Int32) (u : Sto) (hf : u 1 = f) (hL : L ≤ 400) (hb : b ≤ L) : Ct E 2 0 yX6_step cX6_step 1 none [.ref (E.ad 159)] (tkS9 u 159 f L b w) (.inl none) (tkS9 u 159 f L (nx f L b) w) := by
  have h := c_X6_step_159 (E := E) (nI (kdN f L b)) (nI b) (nmI f L b) w L (enN f L b) hL (enN_b hb).2 u
  rw [hf] at h
  exact h
set_option maxHeartbeats 1000000 in
theorem c_X6_hasDigits_159 {E : EE} (f : Nat → Int32) (L b : Nat) (w : Int32) (d : Nat) (hd : d < 2 ^ 31) (u : Sto) (hf : u 1 = f) (hL : L ≤ 400) (hb : b ≤ L) : Ct E 1 0 yX6_hasDigits cX6_hasDigits 2 (some .boolean) [.ref (E.ad 159), .int (nI d)] (tkS9 u 159 f L b w) (.inl (some (.int (b2 (enN f L b - b ≤ d))))) ((tkS9 u 159 f L b w)) := by
  have hk4 := kd_4 f L b
  have he9 := enN_b (f := f) hb
  have hm9 := nx_b (f := f) hb
  refine ct_of (by decide) (Nat.le_of_ble_eq_true rfl) (fun X h hR hrt htab hargs hini => ?_)
  refine g_aload_n h dX6_hasDigits_0 rfl rfl ?_
  refine g_getI h fl_X6_25_7 sh_159 (by decide) rfl dX6_hasDigits_1 ?_
  refine g_top tx_r4 ?_
  refine g_aload_n h dX6_hasDigits_4 rfl rfl ?_
  refine g_getI h fl_X6_40_7 sh_159 (by decide) rfl dX6_hasDigits_5 ?_
  refine g_top tx_r3 ?_
  refine g_isub h dX6_hasDigits_8 ?_
  refine g_top (pk_sub he9.1) ?_
  refine g_iload_n h dX6_hasDigits_9 rfl rfl ?_
  refine g_icmp_gt (tgt := 17) h dX6_hasDigits_10 (by decide) (fun c10 => ?_) (fun c10 => ?_)
  · have n10 := lt_n (by omega) (by omega) (show nI (d) < nI (enN f L b - b) from c10)
    have hz : ¬ enN f L b - b ≤ d := by omega
    refine g_iconst (v := nI 0) h dX6_hasDigits_17 (by decide) ?_
    exact g_zret h hrt dX6_hasDigits_18 (by omega) (by first | exact Or.inl rfl | exact Or.inr rfl | simp) (by first | rw [b2_t hz] | rw [b2_f hz]) rfl
  · have n10 := nlt_n (by omega) (by omega) (show ¬ nI (d) < nI (enN f L b - b) from c10)
    have hz : enN f L b - b ≤ d := by omega
    refine g_iconst (v := nI 1) h dX6_hasDigits_13 (by decide) ?_
    refine g_goto (tgt := 18) h dX6_hasDigits_14 (by decide) ?_
    exact g_zret h hrt dX6_hasDigits_18 (by omega) (by first | exact Or.inl rfl | exact Or.inr rfl | simp) (by first | rw [b2_t hz] | rw [b2_f hz]) rfl
set_option maxHeartbeats 1000000 in
theorem c_X6_isNumber_159 {E : EE} (f : Nat → Int32) (L b : Nat) (w : Int32) (d : Nat) (hd : d < 2 ^ 31) (lo hi : Int32) (u : Sto) (hf : u 1 = f) (hL : L ≤ 400) (hb : b ≤ L) : Ct E 2 0 yX6_isNumber cX6_isNumber 4 (some .boolean) [.ref (E.ad 159), .int (nI d), .int lo, .int hi] (tkS9 u 159 f L b w) (.inl (some (.int (b2 (nuP f L b d lo hi))))) ((tkS9 u 159 f L b (if nuP f L b d lo hi then w else nI b))) := by
  have hk4 := kd_4 f L b
  have he9 := enN_b (f := f) hb
  have hm9 := nx_b (f := f) hb
  refine ct_of (by decide) (Nat.le_of_ble_eq_true rfl) (fun X h hR hrt htab hargs hini => ?_)
  refine g_aload_n h dX6_isNumber_0 rfl rfl ?_
  refine g_getI h fl_X6_34_7 sh_159 (by decide) rfl dX6_isNumber_1 ?_
  refine g_top tx_r2 ?_
  refine g_iconst (v := nI 2) h dX6_isNumber_4 (by decide) ?_
  refine g_icmp_ne (tgt := 34) h dX6_isNumber_5 (by decide) (fun c5 => ?_) (fun c5 => ?_)
  · have n5 := ne_n (show ¬ nI (kdN f L b) = nI (2) from c5)
    have hz : ¬ nuP f L b d lo hi := fun q => n5 q.1
    refine g_aload_n h dX6_isNumber_34 rfl rfl ?_
    refine g_V h lv_X6_60_X8 sh_159 (by decide) rfl (c_X6_fail_159 f L b w u hf hL hb) (fitR hR (by decide) (by decide) (by omega)) rfl rfl (Nat.le_of_ble_eq_true rfl) dX6_isNumber_35 ?_
    exact g_zret h hrt dX6_isNumber_38 (by omega) (by first | exact Or.inl rfl | exact Or.inr rfl | simp) (by rw [b2_f hz]) (by rw [if_neg hz])
  · have n5 := eq_n (by omega) (by omega) (show nI (kdN f L b) = nI (2) from c5)
    refine g_aload_n h dX6_isNumber_8 rfl rfl ?_
    refine g_iload_n h dX6_isNumber_9 rfl rfl ?_
    refine g_V h lv_X6_68_X8 sh_159 (by decide) rfl (c_X6_hasDigits_159 f L b w d hd u hf hL hb) (fitR hR (by decide) (by decide) (by omega)) rfl rfl (Nat.le_of_ble_eq_true rfl) dX6_isNumber_10 ?_
    refine g_if_eq (tgt := 34) h dX6_isNumber_13 (by decide) (fun c13 => ?_) (fun c13 => ?_)
    · have n13 := b2_0.mp c13
      have hz : ¬ nuP f L b d lo hi := fun q => n13 q.2.1
      refine g_aload_n h dX6_isNumber_34 rfl rfl ?_
      refine g_V h lv_X6_60_X8 sh_159 (by decide) rfl (c_X6_fail_159 f L b w u hf hL hb) (fitR hR (by decide) (by decide) (by omega)) rfl rfl (Nat.le_of_ble_eq_true rfl) dX6_isNumber_35 ?_
      exact g_zret h hrt dX6_isNumber_38 (by omega) (by first | exact Or.inl rfl | exact Or.inr rfl | simp) (by rw [b2_f hz]) (by rw [if_neg hz])
    · have n13 := b2_n0.mp c13
      refine g_aload_n h dX6_isNumber_16 rfl rfl ?_
      refine g_getI h fl_X6_37_7 sh_159 (by decide) rfl dX6_isNumber_17 ?_
      refine g_top tx_r5 ?_
      refine g_iload_n h dX6_isNumber_20 rfl rfl ?_
      refine g_icmp_lt (tgt := 34) h dX6_isNumber_21 (by decide) (fun c21 => ?_) (fun c21 => ?_)
      · have hz : ¬ nuP f L b d lo hi := fun q => q.2.2.1 c21
        refine g_aload_n h dX6_isNumber_34 rfl rfl ?_
        refine g_V h lv_X6_60_X8 sh_159 (by decide) rfl (c_X6_fail_159 f L b w u hf hL hb) (fitR hR (by decide) (by decide) (by omega)) rfl rfl (Nat.le_of_ble_eq_true rfl) dX6_isNumber_35 ?_
        exact g_zret h hrt dX6_isNumber_38 (by omega) (by first | exact Or.inl rfl | exact Or.inr rfl | simp) (by rw [b2_f hz]) (by rw [if_neg hz])
      · refine g_aload_n h dX6_isNumber_24 rfl rfl ?_
        refine g_getI h fl_X6_37_7 sh_159 (by decide) rfl dX6_isNumber_25 ?_
        refine g_top tx_r5 ?_
        refine g_iload_n h dX6_isNumber_28 rfl rfl ?_
        refine g_icmp_gt (tgt := 34) h dX6_isNumber_29 (by decide) (fun c29 => ?_) (fun c29 => ?_)
        · have hz : ¬ nuP f L b d lo hi := fun q => absurd c29 (Int32.not_lt.mpr q.2.2.2)
          refine g_aload_n h dX6_isNumber_34 rfl rfl ?_
          refine g_V h lv_X6_60_X8 sh_159 (by decide) rfl (c_X6_fail_159 f L b w u hf hL hb) (fitR hR (by decide) (by decide) (by omega)) rfl rfl (Nat.le_of_ble_eq_true rfl) dX6_isNumber_35 ?_
          exact g_zret h hrt dX6_isNumber_38 (by omega) (by first | exact Or.inl rfl | exact Or.inr rfl | simp) (by rw [b2_f hz]) (by rw [if_neg hz])
        · have hz : nuP f L b d lo hi := ⟨n5, n13, c21, Int32.not_lt.mp c29⟩
          refine g_iconst (v := nI 1) h dX6_isNumber_32 (by decide) ?_
          exact g_zret h hrt dX6_isNumber_33 (by omega) (by first | exact Or.inl rfl | exact Or.inr rfl | simp) (by rw [b2_t hz]) (by rw [if_pos hz])
set_option maxHeartbeats 1000000 in
theorem c_X6_stepOver_159 {E : EE} (f : Nat → Int32) (L b : Nat) (w : Int32) (u : Sto) (hf : u 1 = f) (hL : L ≤ 400) (hb : b ≤ L) : Ct E 3 0 yX6_stepOver cX6_stepOver 2 (some .int) [.ref (E.ad 159)] (tkS9 u 159 f L b w) (.inl (some (.int (nmI f L b)))) ((tkS9 u 159 f L (nx f L b) w)) := by
  have hk4 := kd_4 f L b
  have he9 := enN_b (f := f) hb
  have hm9 := nx_b (f := f) hb
  refine ct_of (by decide) (Nat.le_of_ble_eq_true rfl) (fun X h hR hrt htab hargs hini => ?_)
  refine g_aload_n h dX6_stepOver_0 rfl rfl ?_
  refine g_getI h fl_X6_37_7 sh_159 (by decide) rfl dX6_stepOver_1 ?_
  refine g_top tx_r5 ?_
  refine g_istore_n (ls' := [(0, _), (1, _)]) h dX6_stepOver_4 rfl (by decide) rfl rfl ?_
  refine g_aload_n h dX6_stepOver_5 rfl rfl ?_
  refine g_V h lv_X6_31_X8 sh_159 (by decide) rfl (c_X6_stepT_159 f L b w u hf hL hb) (fitR hR (by decide) (by decide) (by omega)) rfl rfl (Nat.le_of_ble_eq_true rfl) dX6_stepOver_6 ?_
  refine g_iload_n h dX6_stepOver_9 rfl rfl ?_
  exact g_iret h hrt dX6_stepOver_10 (by omega) (by rfl) rfl
set_option maxHeartbeats 1000000 in
theorem c_X6_atWord_159 {E : EE} (f : Nat → Int32) (L b : Nat) (w : Int32) (i : Nat) (hi : i < strN) (u : Sto) (hf : u 1 = f) (hL : L ≤ 400) (hb : b ≤ L) : Ct E 5 0 yX6_atWord cX6_atWord 3 (some .boolean) [.ref (E.ad 159), .ref (E.aK i)] (tkS9 u 159 f L b w) (.inl (some (.int (b2 (wdB f L b i = true))))) ((tkS9 u 159 f L b w)) := by
  have hk4 := kd_4 f L b
  have hsl := (str_ok i hi).1
  have he9 := enN_b (f := f) hb
  have hm9 := nx_b (f := f) hb
  refine ct_of (by decide) (Nat.le_of_ble_eq_true rfl) (fun X h hR hrt htab hargs hini => ?_)
  refine g_aload_n h dX6_atWord_0 rfl rfl ?_
  refine g_getI h fl_X6_34_7 sh_159 (by decide) rfl dX6_atWord_1 ?_
  refine g_top tx_r2 ?_
  refine g_iconst (v := nI 1) h dX6_atWord_4 (by decide) ?_
  refine g_icmp_ne (tgt := 24) h dX6_atWord_5 (by decide) (fun c5 => ?_) (fun c5 => ?_)
  · have n5 := ne_n (show ¬ nI (kdN f L b) = nI (1) from c5)
    have hz : ¬ wdB f L b i = true := fun q => by rw [wdB, Bool.and_eq_true] at q; exact n5 (of_decide_eq_true q.1).1
    refine g_iconst (v := nI 0) h dX6_atWord_24 (by decide) ?_
    exact g_zret h hrt dX6_atWord_25 (by omega) (by first | exact Or.inl rfl | exact Or.inr rfl | simp) (by first | rw [b2_t hz] | rw [b2_f hz]) rfl
  · have n5 := eq_n (by omega) (by omega) (show nI (kdN f L b) = nI (1) from c5)
    refine g_aload_n h dX6_atWord_8 rfl rfl ?_
    refine g_getI h fl_X6_25_7 sh_159 (by decide) rfl dX6_atWord_9 ?_
    refine g_top tx_r4 ?_
    refine g_aload_n h dX6_atWord_12 rfl rfl ?_
    refine g_getI h fl_X6_40_7 sh_159 (by decide) rfl dX6_atWord_13 ?_
    refine g_top tx_r3 ?_
    refine g_isub h dX6_atWord_16 ?_
    refine g_top (pk_sub he9.1) ?_
    refine g_aload_n h dX6_atWord_17 rfl rfl ?_
    refine g_VS h lv_X6_47_J0 hi (c_J0_length i hi _) (fitR hR (by decide) (by decide) (by omega)) rfl rfl (Nat.le_of_ble_eq_true rfl) dX6_atWord_18 ?_
    refine g_icmp_eq (tgt := 26) h dX6_atWord_21 (by decide) (fun c21 => ?_) (fun c21 => ?_)
    · have n21 := eq_n (by omega) (by omega) (show nI (enN f L b - b) = nI (strLen.getD i 0) from c21)
      refine g_iconst (v := nI 0) h dX6_atWord_26 (by decide) ?_
      refine g_istore_n (ls' := [(0, _), (1, _), (2, _)]) h dX6_atWord_27 rfl (by decide) rfl rfl ?_
      have LP : ∀ j k : Nat, (∀ j, j < k → decide (f (b + j) = strC i j) = true) → (strLen.getD i 0) < k + j → k ≤ (strLen.getD i 0) → G E X (QM E X (.inl (some (.int (b2 (wdB f L b i = true))))) ((tkS9 u 159 f L b w)) 0) 3 0 28 [(0, .ref (E.ad 159)), (1, .ref (E.aK i)), (2, .int (nI k))] [] ((tkS9 u 159 f L b w)) := by
        intro j
        induction j with
        | zero => intro k hA h1 h2; omega
        | succ j ih =>
          intro k hA h1 h2
          refine g_iload_n h dX6_atWord_28 rfl rfl ?_
          refine g_aload_n h dX6_atWord_29 rfl rfl ?_
          refine g_VS h lv_X6_47_J0 hi (c_J0_length i hi _) (fitR hR (by decide) (by decide) (by omega)) rfl rfl (Nat.le_of_ble_eq_true rfl) dX6_atWord_30 ?_
          refine g_icmp_ge (tgt := 63) h dX6_atWord_33 (by decide) (fun c33 => ?_) (fun c33 => ?_)
          · have n33 := le_n (by omega) (by omega) (show nI (strLen.getD i 0) ≤ nI (k) from c33)
            have hz : wdB f L b i = true := by
              rw [wdB, Bool.and_eq_true]
              exact ⟨decide_eq_true ⟨n5, n21⟩, allB_i.mpr (fun j hj => hA j (by omega))⟩
            refine g_iconst (v := nI 1) h dX6_atWord_63 (by decide) ?_
            exact g_zret h hrt dX6_atWord_64 (by omega) (by first | exact Or.inl rfl | exact Or.inr rfl | simp) (by first | rw [b2_t hz] | rw [b2_f hz]) rfl
          · have n33 := nle_n (by omega) (by omega) (show ¬ nI (strLen.getD i 0) ≤ nI (k) from c33)
            refine g_aload_n h dX6_atWord_36 rfl rfl ?_
            refine g_getR h fl_X6_9_7 sh_159 (by decide) rfl dX6_atWord_37 ?_
            refine g_aload_n h dX6_atWord_40 rfl rfl ?_
            refine g_getI h fl_X6_40_7 sh_159 (by decide) rfl dX6_atWord_41 ?_
            refine g_top tx_r3 ?_
            refine g_iload_n h dX6_atWord_44 rfl rfl ?_
            refine g_iadd h dX6_atWord_45 ?_
            refine g_top (nI_add b k) ?_
            refine g_iald h _ _ _ sh_1 (by decide) (by decide) rfl (by omega) dX6_atWord_46 ?_
            refine g_top (tx_o (by decide)) ?_
            refine g_top (y := f (b + k)) (by rw [hf]) ?_
            refine g_aload_n h dX6_atWord_47 rfl rfl ?_
            refine g_iload_n h dX6_atWord_48 rfl rfl ?_
            refine g_VS h lv_X6_52_J0 hi (c_J0_charAt i k hi (by omega) _) (fitR hR (by decide) (by decide) (by omega)) rfl rfl (Nat.le_of_ble_eq_true rfl) dX6_atWord_49 ?_
            refine g_icmp_eq (tgt := 57) h dX6_atWord_52 (by decide) (fun c52 => ?_) (fun c52 => ?_)
            · refine g_iinc (v := nI (k + 1)) (ls' := [(0, _), (1, _), (2, _)]) h dX6_atWord_57 rfl (nI_1 k) (by decide) rfl rfl ?_
              refine g_goto (tgt := 28) h dX6_atWord_60 (by decide) ?_
              exact ih (k + 1) (fun j hj => by
                by_cases e : j = k
                · subst e; exact decide_eq_true c52
                · exact hA j (by omega)) (by omega) (by omega)
            · have hz : ¬ wdB f L b i = true := fun q => by
                rw [wdB, Bool.and_eq_true] at q
                exact c52 (of_decide_eq_true (allB_i.mp q.2 k (by omega)))
              refine g_iconst (v := nI 0) h dX6_atWord_55 (by decide) ?_
              exact g_zret h hrt dX6_atWord_56 (by omega) (by first | exact Or.inl rfl | exact Or.inr rfl | simp) (by first | rw [b2_t hz] | rw [b2_f hz]) rfl
      exact LP ((strLen.getD i 0) + 1) (0) (fun j hj => absurd hj (by omega)) (by omega) (by omega)
      
    · have n21 := ne_n (show ¬ nI (enN f L b - b) = nI (strLen.getD i 0) from c21)
      have hz : ¬ wdB f L b i = true := fun q => by rw [wdB, Bool.and_eq_true] at q; exact n21 (of_decide_eq_true q.1).2
      refine g_iconst (v := nI 0) h dX6_atWord_24 (by decide) ?_
      exact g_zret h hrt dX6_atWord_25 (by omega) (by first | exact Or.inl rfl | exact Or.inr rfl | simp) (by first | rw [b2_t hz] | rw [b2_f hz]) rfl
set_option maxHeartbeats 1000000 in
theorem c_X6_passWord_159 {E : EE} (f : Nat → Int32) (L b : Nat) (w : Int32) (i : Nat) (hi : i < strN) (u : Sto) (hf : u 1 = f) (hL : L ≤ 400) (hb : b ≤ L) : Ct E 6 0 yX6_passWord cX6_passWord 2 (some .boolean) [.ref (E.ad 159), .ref (E.aK i)] (tkS9 u 159 f L b w) (.inl (some (.int (b2 (wdB f L b i = true))))) ((if wdB f L b i = true then tkS9 u 159 f L (nx f L b) w else tkS9 u 159 f L b (nI b))) := by
  have hk4 := kd_4 f L b
  have he9 := enN_b (f := f) hb
  have hm9 := nx_b (f := f) hb
  refine ct_of (by decide) (Nat.le_of_ble_eq_true rfl) (fun X h hR hrt htab hargs hini => ?_)
  refine g_aload_n h dX6_passWord_0 rfl rfl ?_
  refine g_aload_n h dX6_passWord_1 rfl rfl ?_
  refine g_V h lv_X6_56_X8 sh_159 (by decide) rfl (c_X6_atWord_159 f L b w i hi u hf hL hb) (fitR hR (by decide) (by decide) (by omega)) rfl rfl (Nat.le_of_ble_eq_true rfl) dX6_passWord_2 ?_
  refine g_if_ne (tgt := 13) h dX6_passWord_5 (by decide) (fun c5 => ?_) (fun c5 => ?_)
  · have hz := b2_n0.mp c5
    refine g_aload_n h dX6_passWord_13 rfl rfl ?_
    refine g_V h lv_X6_31_X8 sh_159 (by decide) rfl (c_X6_stepT_159 f L b w u hf hL hb) (fitR hR (by decide) (by decide) (by omega)) rfl rfl (Nat.le_of_ble_eq_true rfl) dX6_passWord_14 ?_
    refine g_iconst (v := nI 1) h dX6_passWord_17 (by decide) ?_
    exact g_zret h hrt dX6_passWord_18 (by omega) (by first | exact Or.inl rfl | exact Or.inr rfl | simp) (by rw [b2_t hz]) (by rw [if_pos hz])
  · have hz := b2_0.mp c5
    refine g_aload_n h dX6_passWord_8 rfl rfl ?_
    refine g_V h lv_X6_60_X8 sh_159 (by decide) rfl (c_X6_fail_159 f L b w u hf hL hb) (fitR hR (by decide) (by decide) (by omega)) rfl rfl (Nat.le_of_ble_eq_true rfl) dX6_passWord_9 ?_
    exact g_zret h hrt dX6_passWord_12 (by omega) (by first | exact Or.inl rfl | exact Or.inr rfl | simp) (by rw [b2_f hz]) (by rw [if_neg hz])
set_option maxHeartbeats 1000000 in
theorem c_X6_passSign_159 {E : EE} (f : Nat → Int32) (L b : Nat) (w : Int32) (c : Int32) (u : Sto) (hf : u 1 = f) (hL : L ≤ 400) (hb : b ≤ L) : Ct E 3 0 yX6_passSign cX6_passSign 2 (some .boolean) [.ref (E.ad 159), .int c] (tkS9 u 159 f L b w) (.inl (some (.int (b2 (sgP f L b c))))) ((if sgP f L b c then tkS9 u 159 f L (nx f L b) w else tkS9 u 159 f L b (nI b))) := by
  have hk4 := kd_4 f L b
  have he9 := enN_b (f := f) hb
  have hm9 := nx_b (f := f) hb
  refine ct_of (by decide) (Nat.le_of_ble_eq_true rfl) (fun X h hR hrt htab hargs hini => ?_)
  refine g_aload_n h dX6_passSign_0 rfl rfl ?_
  refine g_iload_n h dX6_passSign_1 rfl rfl ?_
  refine g_V h lv_X6_64_X8 sh_159 (by decide) rfl (c_X6_atSign_159 f L b w c u hf hL hb) (fitR hR (by decide) (by decide) (by omega)) rfl rfl (Nat.le_of_ble_eq_true rfl) dX6_passSign_2 ?_
  refine g_if_ne (tgt := 13) h dX6_passSign_5 (by decide) (fun c5 => ?_) (fun c5 => ?_)
  · have hz := b2_n0.mp c5
    refine g_aload_n h dX6_passSign_13 rfl rfl ?_
    refine g_V h lv_X6_31_X8 sh_159 (by decide) rfl (c_X6_stepT_159 f L b w u hf hL hb) (fitR hR (by decide) (by decide) (by omega)) rfl rfl (Nat.le_of_ble_eq_true rfl) dX6_passSign_14 ?_
    refine g_iconst (v := nI 1) h dX6_passSign_17 (by decide) ?_
    exact g_zret h hrt dX6_passSign_18 (by omega) (by first | exact Or.inl rfl | exact Or.inr rfl | simp) (by rw [b2_t hz]) (by rw [if_pos hz])
  · have hz := b2_0.mp c5
    refine g_aload_n h dX6_passSign_8 rfl rfl ?_
    refine g_V h lv_X6_60_X8 sh_159 (by decide) rfl (c_X6_fail_159 f L b w u hf hL hb) (fitR hR (by decide) (by decide) (by omega)) rfl rfl (Nat.le_of_ble_eq_true rfl) dX6_passSign_9 ?_
    exact g_zret h hrt dX6_passSign_12 (by omega) (by first | exact Or.inl rfl | exact Or.inr rfl | simp) (by rw [b2_f hz]) (by rw [if_neg hz])
set_option maxHeartbeats 1000000 in
theorem c_X6_open_159 {E : EE} (f : Nat → Int32) (L : Nat) (u : Sto) (hf : u 1 = f) (hL : L ≤ 400) : Ct E 3 0 yX6_open cX6_open 2 none [.ref (E.ad 159), .int (nI L)] u (.inl none) ((tkS9 u 159 f L (skp f L 0) (-1))) := by
  refine Eq.mp (congrArg (fun z => Ct E 3 0 yX6_open cX6_open 2 none [.ref (E.ad 159), .int (nI L)] z (.inl none) _) (tx_eta (u := u) (t := 159))) ?_
  refine ct_of (by decide) (Nat.le_of_ble_eq_true rfl) (fun X h hR hrt htab hargs hini => ?_)
  refine g_aload_n h dX6_open_0 rfl rfl ?_
  refine g_iload_n h dX6_open_1 rfl rfl ?_
  refine g_aload_n h dX6_open_2 rfl rfl ?_
  refine g_getR h fl_X6_9_7 sh_159 (by decide) rfl dX6_open_3 ?_
  refine g_alen h _ _ sh_1 (by decide) dX6_open_6 ?_
  refine g_S h ls_X6_15 (c_J9_min_7cf53 _ _ _) (fitR hR (by decide) (by decide) (by omega)) rfl rfl (Nat.le_of_ble_eq_true rfl) dX6_open_7 ?_
  refine g_top (mn_400 hL) ?_
  refine g_putI h pfl_X6_21_7 sh_159 (by decide) rfl dX6_open_10 ?_
  refine g_sto tx_w1 ?_
  refine g_aload_n h dX6_open_13 rfl rfl ?_
  refine g_iconst (v := nI 0) h dX6_open_14 (by decide) ?_
  refine g_putI h pfl_X6_25_7 sh_159 (by decide) rfl dX6_open_15 ?_
  refine g_sto tx_w4 ?_
  refine g_aload_n h dX6_open_18 rfl rfl ?_
  refine g_iconst (v := -1) h dX6_open_19 (by decide) ?_
  refine g_putI h pfl_X6_28_7 sh_159 (by decide) rfl dX6_open_20 ?_
  refine g_sto tx_w6 ?_
  refine g_aload_n h dX6_open_23 rfl rfl ?_
  refine g_V h lv_X6_31_X8 sh_159 (by decide) rfl (c_X6_step_159 (u 159 2) (u 159 3) (u 159 5) (-1) L 0 hL (by omega) u) (fitR hR (by decide) (by decide) (by omega)) rfl rfl (Nat.le_of_ble_eq_true rfl) dX6_open_24 ?_
  exact g_vret h hrt dX6_open_27 (by omega) rfl (by rw [hf])
set_option maxHeartbeats 1000000 in
theorem c_X6_firstWrong_160 {E : EE} (f : Nat → Int32) (L b : Nat) (w : Int32) (u : Sto) (hf : u 1 = f) (hL : L ≤ 400) (hb : b ≤ L) : Ct E 1 0 yX6_firstWrong cX6_firstWrong 1 (some .int) [.ref (E.ad 160)] (tkS9 u 160 f L b w) (.inl (some (.int w))) ((tkS9 u 160 f L b w)) := by
  have hk4 := kd_4 f L b
  have he9 := enN_b (f := f) hb
  have hm9 := nx_b (f := f) hb
  refine ct_of (by decide) (Nat.le_of_ble_eq_true rfl) (fun X h hR hrt htab hargs hini => ?_)
  refine g_aload_n h dX6_firstWrong_0 rfl rfl ?_
  refine g_getI h fl_X6_28_3 sh_160 (by decide) rfl dX6_firstWrong_1 ?_
  refine g_top tx_r6 ?_
  exact g_iret h hrt dX6_firstWrong_4 (by omega) (by rfl) rfl
set_option maxHeartbeats 1000000 in
theorem c_X6_readNumber_160 {E : EE} (f : Nat → Int32) (L b : Nat) (w : Int32) (u : Sto) (hf : u 1 = f) (hL : L ≤ 400) (hb : b ≤ L) : Ct E 1 0 yX6_readNumber cX6_readNumber 1 (some .int) [.ref (E.ad 160)] (tkS9 u 160 f L b w) (.inl (some (.int (nmI f L b)))) ((tkS9 u 160 f L b w)) := by
  have hk4 := kd_4 f L b
  have he9 := enN_b (f := f) hb
  have hm9 := nx_b (f := f) hb
  refine ct_of (by decide) (Nat.le_of_ble_eq_true rfl) (fun X h hR hrt htab hargs hini => ?_)
  refine g_aload_n h dX6_readNumber_0 rfl rfl ?_
  refine g_getI h fl_X6_37_3 sh_160 (by decide) rfl dX6_readNumber_1 ?_
  refine g_top tx_r5 ?_
  exact g_iret h hrt dX6_readNumber_4 (by omega) (by rfl) rfl
set_option maxHeartbeats 1000000 in
theorem c_X6_atEnd_160 {E : EE} (f : Nat → Int32) (L b : Nat) (w : Int32) (u : Sto) (hf : u 1 = f) (hL : L ≤ 400) (hb : b ≤ L) : Ct E 1 0 yX6_atEnd cX6_atEnd 1 (some .boolean) [.ref (E.ad 160)] (tkS9 u 160 f L b w) (.inl (some (.int (b2 (kdN f L b = 0))))) ((tkS9 u 160 f L b w)) := by
  have hk4 := kd_4 f L b
  have he9 := enN_b (f := f) hb
  have hm9 := nx_b (f := f) hb
  refine ct_of (by decide) (Nat.le_of_ble_eq_true rfl) (fun X h hR hrt htab hargs hini => ?_)
  refine g_aload_n h dX6_atEnd_0 rfl rfl ?_
  refine g_getI h fl_X6_34_3 sh_160 (by decide) rfl dX6_atEnd_1 ?_
  refine g_top tx_r2 ?_
  refine g_if_ne (tgt := 11) h dX6_atEnd_4 (by decide) (fun c4 => ?_) (fun c4 => ?_)
  · have n4 := ne_n (show ¬ nI (kdN f L b) = nI (0) from c4)
    refine g_iconst (v := nI 0) h dX6_atEnd_11 (by decide) ?_
    exact g_zret h hrt dX6_atEnd_12 (by omega) (by first | exact Or.inl rfl | exact Or.inr rfl | simp) (by first | rw [b2_t n4] | rw [b2_f n4]) rfl
  · have n4 := eq_n (by omega) (by omega) (show nI (kdN f L b) = nI (0) from c4)
    refine g_iconst (v := nI 1) h dX6_atEnd_7 (by decide) ?_
    refine g_goto (tgt := 12) h dX6_atEnd_8 (by decide) ?_
    exact g_zret h hrt dX6_atEnd_12 (by omega) (by first | exact Or.inl rfl | exact Or.inr rfl | simp) (by first | rw [b2_t n4] | rw [b2_f n4]) rfl
set_option maxHeartbeats 1000000 in
theorem c_X6_atNumber_160 {E : EE} (f : Nat → Int32) (L b : Nat) (w : Int32) (u : Sto) (hf : u 1 = f) (hL : L ≤ 400) (hb : b ≤ L) : Ct E 1 0 yX6_atNumber cX6_atNumber 1 (some .boolean) [.ref (E.ad 160)] (tkS9 u 160 f L b w) (.inl (some (.int (b2 (kdN f L b = 2))))) ((tkS9 u 160 f L b w)) := by
  have hk4 := kd_4 f L b
  have he9 := enN_b (f := f) hb
  have hm9 := nx_b (f := f) hb
  refine ct_of (by decide) (Nat.le_of_ble_eq_true rfl) (fun X h hR hrt htab hargs hini => ?_)
  refine g_aload_n h dX6_atNumber_0 rfl rfl ?_
  refine g_getI h fl_X6_34_3 sh_160 (by decide) rfl dX6_atNumber_1 ?_
  refine g_top tx_r2 ?_
  refine g_iconst (v := nI 2) h dX6_atNumber_4 (by decide) ?_
  refine g_icmp_ne (tgt := 12) h dX6_atNumber_5 (by decide) (fun c5 => ?_) (fun c5 => ?_)
  · have n5 := ne_n (show ¬ nI (kdN f L b) = nI (2) from c5)
    refine g_iconst (v := nI 0) h dX6_atNumber_12 (by decide) ?_
    exact g_zret h hrt dX6_atNumber_13 (by omega) (by first | exact Or.inl rfl | exact Or.inr rfl | simp) (by first | rw [b2_t n5] | rw [b2_f n5]) rfl
  · have n5 := eq_n (by omega) (by omega) (show nI (kdN f L b) = nI (2) from c5)
    refine g_iconst (v := nI 1) h dX6_atNumber_8 (by decide) ?_
    refine g_goto (tgt := 13) h dX6_atNumber_9 (by decide) ?_
    exact g_zret h hrt dX6_atNumber_13 (by omega) (by first | exact Or.inl rfl | exact Or.inr rfl | simp) (by first | rw [b2_t n5] | rw [b2_f n5]) rfl
set_option maxHeartbeats 1000000 in
theorem c_X6_fail_160 {E : EE} (f : Nat → Int32) (L b : Nat) (w : Int32) (u : Sto) (hf : u 1 = f) (hL : L ≤ 400) (hb : b ≤ L) : Ct E 1 0 yX6_fail cX6_fail 1 (some .boolean) [.ref (E.ad 160)] (tkS9 u 160 f L b w) (.inl (some (.int (nI 0)))) ((tkS9 u 160 f L b (nI b))) := by
  have hk4 := kd_4 f L b
  have he9 := enN_b (f := f) hb
  have hm9 := nx_b (f := f) hb
  refine ct_of (by decide) (Nat.le_of_ble_eq_true rfl) (fun X h hR hrt htab hargs hini => ?_)
  refine g_aload_n h dX6_fail_0 rfl rfl ?_
  refine g_aload_n h dX6_fail_1 rfl rfl ?_
  refine g_getI h fl_X6_40_3 sh_160 (by decide) rfl dX6_fail_2 ?_
  refine g_top tx_r3 ?_
  refine g_putI h pfl_X6_28_3 sh_160 (by decide) rfl dX6_fail_5 ?_
  refine g_sto tx_w6 ?_
  refine g_iconst (v := nI 0) h dX6_fail_8 (by decide) ?_
  exact g_zret h hrt dX6_fail_9 (by omega) (by first | exact Or.inl rfl | exact Or.inr rfl | simp) (by rfl) rfl
set_option maxHeartbeats 1000000 in
theorem c_X6_atSign_160 {E : EE} (f : Nat → Int32) (L b : Nat) (w : Int32) (c : Int32) (u : Sto) (hf : u 1 = f) (hL : L ≤ 400) (hb : b ≤ L) : Ct E 1 0 yX6_atSign cX6_atSign 2 (some .boolean) [.ref (E.ad 160), .int c] (tkS9 u 160 f L b w) (.inl (some (.int (b2 (sgP f L b c))))) ((tkS9 u 160 f L b w)) := by
  have hk4 := kd_4 f L b
  have he9 := enN_b (f := f) hb
  have hm9 := nx_b (f := f) hb
  refine ct_of (by decide) (Nat.le_of_ble_eq_true rfl) (fun X h hR hrt htab hargs hini => ?_)
  refine g_aload_n h dX6_atSign_0 rfl rfl ?_
  refine g_getI h fl_X6_34_3 sh_160 (by decide) rfl dX6_atSign_1 ?_
  refine g_top tx_r2 ?_
  refine g_iconst (v := nI 3) h dX6_atSign_4 (by decide) ?_
  refine g_icmp_ne (tgt := 25) h dX6_atSign_5 (by decide) (fun c5 => ?_) (fun c5 => ?_)
  · have n5 := ne_n (show ¬ nI (kdN f L b) = nI (3) from c5)
    have hz : ¬ sgP f L b c := fun q => n5 q.1
    refine g_iconst (v := nI 0) h dX6_atSign_25 (by decide) ?_
    exact g_zret h hrt dX6_atSign_26 (by omega) (by first | exact Or.inl rfl | exact Or.inr rfl | simp) (by first | rw [b2_t hz] | rw [b2_f hz]) rfl
  · have n5 := eq_n (by omega) (by omega) (show nI (kdN f L b) = nI (3) from c5)
    refine g_aload_n h dX6_atSign_8 rfl rfl ?_
    refine g_getR h fl_X6_9_3 sh_160 (by decide) rfl dX6_atSign_9 ?_
    refine g_aload_n h dX6_atSign_12 rfl rfl ?_
    refine g_getI h fl_X6_40_3 sh_160 (by decide) rfl dX6_atSign_13 ?_
    refine g_top tx_r3 ?_
    refine g_iald h _ _ _ sh_1 (by decide) (by decide) rfl (by have := kd_lt (f := f) (L := L) (b := b) (by omega); omega) dX6_atSign_16 ?_
    refine g_top (tx_o (by decide)) ?_
    refine g_top (y := f b) (by rw [hf]) ?_
    refine g_iload_n h dX6_atSign_17 rfl rfl ?_
    refine g_icmp_ne (tgt := 25) h dX6_atSign_18 (by decide) (fun c18 => ?_) (fun c18 => ?_)
    · have hz : ¬ sgP f L b c := fun q => c18 q.2
      refine g_iconst (v := nI 0) h dX6_atSign_25 (by decide) ?_
      exact g_zret h hrt dX6_atSign_26 (by omega) (by first | exact Or.inl rfl | exact Or.inr rfl | simp) (by first | rw [b2_t hz] | rw [b2_f hz]) rfl
    · have hz : sgP f L b c := ⟨n5, c18⟩
      refine g_iconst (v := nI 1) h dX6_atSign_21 (by decide) ?_
      refine g_goto (tgt := 26) h dX6_atSign_22 (by decide) ?_
      exact g_zret h hrt dX6_atSign_26 (by omega) (by first | exact Or.inl rfl | exact Or.inr rfl | simp) (by first | rw [b2_t hz] | rw [b2_f hz]) rfl
theorem c_X6_stepT_160 {E : EE} (f : Nat → Int32) (L b : Nat) (w : Int32) (u : Sto) (hf : u 1 = f) (hL : L ≤ 400) (hb : b ≤ L) : Ct E 2 0 yX6_step cX6_step 1 none [.ref (E.ad 160)] (tkS9 u 160 f L b w) (.inl none) (tkS9 u 160 f L (nx f L b) w) := by
  have h := c_X6_step_160 (E := E) (nI (kdN f L b)) (nI b) (nmI f L b) w L (enN f L b) hL (enN_b hb).2 u
  rw [hf] at h
  exact h
set_option maxHeartbeats 1000000 in
theorem c_X6_hasDigits_160 {E : EE} (f : Nat → Int32) (L b : Nat) (w : Int32) (d : Nat) (hd : d < 2 ^ 31) (u : Sto) (hf : u 1 = f) (hL : L ≤ 400) (hb : b ≤ L) : Ct E 1 0 yX6_hasDigits cX6_hasDigits 2 (some .boolean) [.ref (E.ad 160), .int (nI d)] (tkS9 u 160 f L b w) (.inl (some (.int (b2 (enN f L b - b ≤ d))))) ((tkS9 u 160 f L b w)) := by
  have hk4 := kd_4 f L b
  have he9 := enN_b (f := f) hb
  have hm9 := nx_b (f := f) hb
  refine ct_of (by decide) (Nat.le_of_ble_eq_true rfl) (fun X h hR hrt htab hargs hini => ?_)
  refine g_aload_n h dX6_hasDigits_0 rfl rfl ?_
  refine g_getI h fl_X6_25_3 sh_160 (by decide) rfl dX6_hasDigits_1 ?_
  refine g_top tx_r4 ?_
  refine g_aload_n h dX6_hasDigits_4 rfl rfl ?_
  refine g_getI h fl_X6_40_3 sh_160 (by decide) rfl dX6_hasDigits_5 ?_
  refine g_top tx_r3 ?_
  refine g_isub h dX6_hasDigits_8 ?_
  refine g_top (pk_sub he9.1) ?_
  refine g_iload_n h dX6_hasDigits_9 rfl rfl ?_
  refine g_icmp_gt (tgt := 17) h dX6_hasDigits_10 (by decide) (fun c10 => ?_) (fun c10 => ?_)
  · have n10 := lt_n (by omega) (by omega) (show nI (d) < nI (enN f L b - b) from c10)
    have hz : ¬ enN f L b - b ≤ d := by omega
    refine g_iconst (v := nI 0) h dX6_hasDigits_17 (by decide) ?_
    exact g_zret h hrt dX6_hasDigits_18 (by omega) (by first | exact Or.inl rfl | exact Or.inr rfl | simp) (by first | rw [b2_t hz] | rw [b2_f hz]) rfl
  · have n10 := nlt_n (by omega) (by omega) (show ¬ nI (d) < nI (enN f L b - b) from c10)
    have hz : enN f L b - b ≤ d := by omega
    refine g_iconst (v := nI 1) h dX6_hasDigits_13 (by decide) ?_
    refine g_goto (tgt := 18) h dX6_hasDigits_14 (by decide) ?_
    exact g_zret h hrt dX6_hasDigits_18 (by omega) (by first | exact Or.inl rfl | exact Or.inr rfl | simp) (by first | rw [b2_t hz] | rw [b2_f hz]) rfl
set_option maxHeartbeats 1000000 in
theorem c_X6_isNumber_160 {E : EE} (f : Nat → Int32) (L b : Nat) (w : Int32) (d : Nat) (hd : d < 2 ^ 31) (lo hi : Int32) (u : Sto) (hf : u 1 = f) (hL : L ≤ 400) (hb : b ≤ L) : Ct E 2 0 yX6_isNumber cX6_isNumber 4 (some .boolean) [.ref (E.ad 160), .int (nI d), .int lo, .int hi] (tkS9 u 160 f L b w) (.inl (some (.int (b2 (nuP f L b d lo hi))))) ((tkS9 u 160 f L b (if nuP f L b d lo hi then w else nI b))) := by
  have hk4 := kd_4 f L b
  have he9 := enN_b (f := f) hb
  have hm9 := nx_b (f := f) hb
  refine ct_of (by decide) (Nat.le_of_ble_eq_true rfl) (fun X h hR hrt htab hargs hini => ?_)
  refine g_aload_n h dX6_isNumber_0 rfl rfl ?_
  refine g_getI h fl_X6_34_3 sh_160 (by decide) rfl dX6_isNumber_1 ?_
  refine g_top tx_r2 ?_
  refine g_iconst (v := nI 2) h dX6_isNumber_4 (by decide) ?_
  refine g_icmp_ne (tgt := 34) h dX6_isNumber_5 (by decide) (fun c5 => ?_) (fun c5 => ?_)
  · have n5 := ne_n (show ¬ nI (kdN f L b) = nI (2) from c5)
    have hz : ¬ nuP f L b d lo hi := fun q => n5 q.1
    refine g_aload_n h dX6_isNumber_34 rfl rfl ?_
    refine g_V h lv_X6_60_X3 sh_160 (by decide) rfl (c_X6_fail_160 f L b w u hf hL hb) (fitR hR (by decide) (by decide) (by omega)) rfl rfl (Nat.le_of_ble_eq_true rfl) dX6_isNumber_35 ?_
    exact g_zret h hrt dX6_isNumber_38 (by omega) (by first | exact Or.inl rfl | exact Or.inr rfl | simp) (by rw [b2_f hz]) (by rw [if_neg hz])
  · have n5 := eq_n (by omega) (by omega) (show nI (kdN f L b) = nI (2) from c5)
    refine g_aload_n h dX6_isNumber_8 rfl rfl ?_
    refine g_iload_n h dX6_isNumber_9 rfl rfl ?_
    refine g_V h lv_X6_68_X3 sh_160 (by decide) rfl (c_X6_hasDigits_160 f L b w d hd u hf hL hb) (fitR hR (by decide) (by decide) (by omega)) rfl rfl (Nat.le_of_ble_eq_true rfl) dX6_isNumber_10 ?_
    refine g_if_eq (tgt := 34) h dX6_isNumber_13 (by decide) (fun c13 => ?_) (fun c13 => ?_)
    · have n13 := b2_0.mp c13
      have hz : ¬ nuP f L b d lo hi := fun q => n13 q.2.1
      refine g_aload_n h dX6_isNumber_34 rfl rfl ?_
      refine g_V h lv_X6_60_X3 sh_160 (by decide) rfl (c_X6_fail_160 f L b w u hf hL hb) (fitR hR (by decide) (by decide) (by omega)) rfl rfl (Nat.le_of_ble_eq_true rfl) dX6_isNumber_35 ?_
      exact g_zret h hrt dX6_isNumber_38 (by omega) (by first | exact Or.inl rfl | exact Or.inr rfl | simp) (by rw [b2_f hz]) (by rw [if_neg hz])
    · have n13 := b2_n0.mp c13
      refine g_aload_n h dX6_isNumber_16 rfl rfl ?_
      refine g_getI h fl_X6_37_3 sh_160 (by decide) rfl dX6_isNumber_17 ?_
      refine g_top tx_r5 ?_
      refine g_iload_n h dX6_isNumber_20 rfl rfl ?_
      refine g_icmp_lt (tgt := 34) h dX6_isNumber_21 (by decide) (fun c21 => ?_) (fun c21 => ?_)
      · have hz : ¬ nuP f L b d lo hi := fun q => q.2.2.1 c21
        refine g_aload_n h dX6_isNumber_34 rfl rfl ?_
        refine g_V h lv_X6_60_X3 sh_160 (by decide) rfl (c_X6_fail_160 f L b w u hf hL hb) (fitR hR (by decide) (by decide) (by omega)) rfl rfl (Nat.le_of_ble_eq_true rfl) dX6_isNumber_35 ?_
        exact g_zret h hrt dX6_isNumber_38 (by omega) (by first | exact Or.inl rfl | exact Or.inr rfl | simp) (by rw [b2_f hz]) (by rw [if_neg hz])
      · refine g_aload_n h dX6_isNumber_24 rfl rfl ?_
        refine g_getI h fl_X6_37_3 sh_160 (by decide) rfl dX6_isNumber_25 ?_
        refine g_top tx_r5 ?_
        refine g_iload_n h dX6_isNumber_28 rfl rfl ?_
        refine g_icmp_gt (tgt := 34) h dX6_isNumber_29 (by decide) (fun c29 => ?_) (fun c29 => ?_)
        · have hz : ¬ nuP f L b d lo hi := fun q => absurd c29 (Int32.not_lt.mpr q.2.2.2)
          refine g_aload_n h dX6_isNumber_34 rfl rfl ?_
          refine g_V h lv_X6_60_X3 sh_160 (by decide) rfl (c_X6_fail_160 f L b w u hf hL hb) (fitR hR (by decide) (by decide) (by omega)) rfl rfl (Nat.le_of_ble_eq_true rfl) dX6_isNumber_35 ?_
          exact g_zret h hrt dX6_isNumber_38 (by omega) (by first | exact Or.inl rfl | exact Or.inr rfl | simp) (by rw [b2_f hz]) (by rw [if_neg hz])
        · have hz : nuP f L b d lo hi := ⟨n5, n13, c21, Int32.not_lt.mp c29⟩
          refine g_iconst (v := nI 1) h dX6_isNumber_32 (by decide) ?_
          exact g_zret h hrt dX6_isNumber_33 (by omega) (by first | exact Or.inl rfl | exact Or.inr rfl | simp) (by rw [b2_t hz]) (by rw [if_pos hz])
set_option maxHeartbeats 1000000 in
theorem c_X6_stepOver_160 {E : EE} (f : Nat → Int32) (L b : Nat) (w : Int32) (u : Sto) (hf : u 1 = f) (hL : L ≤ 400) (hb : b ≤ L) : Ct E 3 0 yX6_stepOver cX6_stepOver 2 (some .int) [.ref (E.ad 160)] (tkS9 u 160 f L b w) (.inl (some (.int (nmI f L b)))) ((tkS9 u 160 f L (nx f L b) w)) := by
  have hk4 := kd_4 f L b
  have he9 := enN_b (f := f) hb
  have hm9 := nx_b (f := f) hb
  refine ct_of (by decide) (Nat.le_of_ble_eq_true rfl) (fun X h hR hrt htab hargs hini => ?_)
  refine g_aload_n h dX6_stepOver_0 rfl rfl ?_
  refine g_getI h fl_X6_37_3 sh_160 (by decide) rfl dX6_stepOver_1 ?_
  refine g_top tx_r5 ?_
  refine g_istore_n (ls' := [(0, _), (1, _)]) h dX6_stepOver_4 rfl (by decide) rfl rfl ?_
  refine g_aload_n h dX6_stepOver_5 rfl rfl ?_
  refine g_V h lv_X6_31_X3 sh_160 (by decide) rfl (c_X6_stepT_160 f L b w u hf hL hb) (fitR hR (by decide) (by decide) (by omega)) rfl rfl (Nat.le_of_ble_eq_true rfl) dX6_stepOver_6 ?_
  refine g_iload_n h dX6_stepOver_9 rfl rfl ?_
  exact g_iret h hrt dX6_stepOver_10 (by omega) (by rfl) rfl
set_option maxHeartbeats 1000000 in
theorem c_X6_atWord_160 {E : EE} (f : Nat → Int32) (L b : Nat) (w : Int32) (i : Nat) (hi : i < strN) (u : Sto) (hf : u 1 = f) (hL : L ≤ 400) (hb : b ≤ L) : Ct E 5 0 yX6_atWord cX6_atWord 3 (some .boolean) [.ref (E.ad 160), .ref (E.aK i)] (tkS9 u 160 f L b w) (.inl (some (.int (b2 (wdB f L b i = true))))) ((tkS9 u 160 f L b w)) := by
  have hk4 := kd_4 f L b
  have hsl := (str_ok i hi).1
  have he9 := enN_b (f := f) hb
  have hm9 := nx_b (f := f) hb
  refine ct_of (by decide) (Nat.le_of_ble_eq_true rfl) (fun X h hR hrt htab hargs hini => ?_)
  refine g_aload_n h dX6_atWord_0 rfl rfl ?_
  refine g_getI h fl_X6_34_3 sh_160 (by decide) rfl dX6_atWord_1 ?_
  refine g_top tx_r2 ?_
  refine g_iconst (v := nI 1) h dX6_atWord_4 (by decide) ?_
  refine g_icmp_ne (tgt := 24) h dX6_atWord_5 (by decide) (fun c5 => ?_) (fun c5 => ?_)
  · have n5 := ne_n (show ¬ nI (kdN f L b) = nI (1) from c5)
    have hz : ¬ wdB f L b i = true := fun q => by rw [wdB, Bool.and_eq_true] at q; exact n5 (of_decide_eq_true q.1).1
    refine g_iconst (v := nI 0) h dX6_atWord_24 (by decide) ?_
    exact g_zret h hrt dX6_atWord_25 (by omega) (by first | exact Or.inl rfl | exact Or.inr rfl | simp) (by first | rw [b2_t hz] | rw [b2_f hz]) rfl
  · have n5 := eq_n (by omega) (by omega) (show nI (kdN f L b) = nI (1) from c5)
    refine g_aload_n h dX6_atWord_8 rfl rfl ?_
    refine g_getI h fl_X6_25_3 sh_160 (by decide) rfl dX6_atWord_9 ?_
    refine g_top tx_r4 ?_
    refine g_aload_n h dX6_atWord_12 rfl rfl ?_
    refine g_getI h fl_X6_40_3 sh_160 (by decide) rfl dX6_atWord_13 ?_
    refine g_top tx_r3 ?_
    refine g_isub h dX6_atWord_16 ?_
    refine g_top (pk_sub he9.1) ?_
    refine g_aload_n h dX6_atWord_17 rfl rfl ?_
    refine g_VS h lv_X6_47_J0 hi (c_J0_length i hi _) (fitR hR (by decide) (by decide) (by omega)) rfl rfl (Nat.le_of_ble_eq_true rfl) dX6_atWord_18 ?_
    refine g_icmp_eq (tgt := 26) h dX6_atWord_21 (by decide) (fun c21 => ?_) (fun c21 => ?_)
    · have n21 := eq_n (by omega) (by omega) (show nI (enN f L b - b) = nI (strLen.getD i 0) from c21)
      refine g_iconst (v := nI 0) h dX6_atWord_26 (by decide) ?_
      refine g_istore_n (ls' := [(0, _), (1, _), (2, _)]) h dX6_atWord_27 rfl (by decide) rfl rfl ?_
      have LP : ∀ j k : Nat, (∀ j, j < k → decide (f (b + j) = strC i j) = true) → (strLen.getD i 0) < k + j → k ≤ (strLen.getD i 0) → G E X (QM E X (.inl (some (.int (b2 (wdB f L b i = true))))) ((tkS9 u 160 f L b w)) 0) 3 0 28 [(0, .ref (E.ad 160)), (1, .ref (E.aK i)), (2, .int (nI k))] [] ((tkS9 u 160 f L b w)) := by
        intro j
        induction j with
        | zero => intro k hA h1 h2; omega
        | succ j ih =>
          intro k hA h1 h2
          refine g_iload_n h dX6_atWord_28 rfl rfl ?_
          refine g_aload_n h dX6_atWord_29 rfl rfl ?_
          refine g_VS h lv_X6_47_J0 hi (c_J0_length i hi _) (fitR hR (by decide) (by decide) (by omega)) rfl rfl (Nat.le_of_ble_eq_true rfl) dX6_atWord_30 ?_
          refine g_icmp_ge (tgt := 63) h dX6_atWord_33 (by decide) (fun c33 => ?_) (fun c33 => ?_)
          · have n33 := le_n (by omega) (by omega) (show nI (strLen.getD i 0) ≤ nI (k) from c33)
            have hz : wdB f L b i = true := by
              rw [wdB, Bool.and_eq_true]
              exact ⟨decide_eq_true ⟨n5, n21⟩, allB_i.mpr (fun j hj => hA j (by omega))⟩
            refine g_iconst (v := nI 1) h dX6_atWord_63 (by decide) ?_
            exact g_zret h hrt dX6_atWord_64 (by omega) (by first | exact Or.inl rfl | exact Or.inr rfl | simp) (by first | rw [b2_t hz] | rw [b2_f hz]) rfl
          · have n33 := nle_n (by omega) (by omega) (show ¬ nI (strLen.getD i 0) ≤ nI (k) from c33)
            refine g_aload_n h dX6_atWord_36 rfl rfl ?_
            refine g_getR h fl_X6_9_3 sh_160 (by decide) rfl dX6_atWord_37 ?_
            refine g_aload_n h dX6_atWord_40 rfl rfl ?_
            refine g_getI h fl_X6_40_3 sh_160 (by decide) rfl dX6_atWord_41 ?_
            refine g_top tx_r3 ?_
            refine g_iload_n h dX6_atWord_44 rfl rfl ?_
            refine g_iadd h dX6_atWord_45 ?_
            refine g_top (nI_add b k) ?_
            refine g_iald h _ _ _ sh_1 (by decide) (by decide) rfl (by omega) dX6_atWord_46 ?_
            refine g_top (tx_o (by decide)) ?_
            refine g_top (y := f (b + k)) (by rw [hf]) ?_
            refine g_aload_n h dX6_atWord_47 rfl rfl ?_
            refine g_iload_n h dX6_atWord_48 rfl rfl ?_
            refine g_VS h lv_X6_52_J0 hi (c_J0_charAt i k hi (by omega) _) (fitR hR (by decide) (by decide) (by omega)) rfl rfl (Nat.le_of_ble_eq_true rfl) dX6_atWord_49 ?_
            refine g_icmp_eq (tgt := 57) h dX6_atWord_52 (by decide) (fun c52 => ?_) (fun c52 => ?_)
            · refine g_iinc (v := nI (k + 1)) (ls' := [(0, _), (1, _), (2, _)]) h dX6_atWord_57 rfl (nI_1 k) (by decide) rfl rfl ?_
              refine g_goto (tgt := 28) h dX6_atWord_60 (by decide) ?_
              exact ih (k + 1) (fun j hj => by
                by_cases e : j = k
                · subst e; exact decide_eq_true c52
                · exact hA j (by omega)) (by omega) (by omega)
            · have hz : ¬ wdB f L b i = true := fun q => by
                rw [wdB, Bool.and_eq_true] at q
                exact c52 (of_decide_eq_true (allB_i.mp q.2 k (by omega)))
              refine g_iconst (v := nI 0) h dX6_atWord_55 (by decide) ?_
              exact g_zret h hrt dX6_atWord_56 (by omega) (by first | exact Or.inl rfl | exact Or.inr rfl | simp) (by first | rw [b2_t hz] | rw [b2_f hz]) rfl
      exact LP ((strLen.getD i 0) + 1) (0) (fun j hj => absurd hj (by omega)) (by omega) (by omega)
      
    · have n21 := ne_n (show ¬ nI (enN f L b - b) = nI (strLen.getD i 0) from c21)
      have hz : ¬ wdB f L b i = true := fun q => by rw [wdB, Bool.and_eq_true] at q; exact n21 (of_decide_eq_true q.1).2
      refine g_iconst (v := nI 0) h dX6_atWord_24 (by decide) ?_
      exact g_zret h hrt dX6_atWord_25 (by omega) (by first | exact Or.inl rfl | exact Or.inr rfl | simp) (by first | rw [b2_t hz] | rw [b2_f hz]) rfl
set_option maxHeartbeats 1000000 in
theorem c_X6_passWord_160 {E : EE} (f : Nat → Int32) (L b : Nat) (w : Int32) (i : Nat) (hi : i < strN) (u : Sto) (hf : u 1 = f) (hL : L ≤ 400) (hb : b ≤ L) : Ct E 6 0 yX6_passWord cX6_passWord 2 (some .boolean) [.ref (E.ad 160), .ref (E.aK i)] (tkS9 u 160 f L b w) (.inl (some (.int (b2 (wdB f L b i = true))))) ((if wdB f L b i = true then tkS9 u 160 f L (nx f L b) w else tkS9 u 160 f L b (nI b))) := by
  have hk4 := kd_4 f L b
  have he9 := enN_b (f := f) hb
  have hm9 := nx_b (f := f) hb
  refine ct_of (by decide) (Nat.le_of_ble_eq_true rfl) (fun X h hR hrt htab hargs hini => ?_)
  refine g_aload_n h dX6_passWord_0 rfl rfl ?_
  refine g_aload_n h dX6_passWord_1 rfl rfl ?_
  refine g_V h lv_X6_56_X3 sh_160 (by decide) rfl (c_X6_atWord_160 f L b w i hi u hf hL hb) (fitR hR (by decide) (by decide) (by omega)) rfl rfl (Nat.le_of_ble_eq_true rfl) dX6_passWord_2 ?_
  refine g_if_ne (tgt := 13) h dX6_passWord_5 (by decide) (fun c5 => ?_) (fun c5 => ?_)
  · have hz := b2_n0.mp c5
    refine g_aload_n h dX6_passWord_13 rfl rfl ?_
    refine g_V h lv_X6_31_X3 sh_160 (by decide) rfl (c_X6_stepT_160 f L b w u hf hL hb) (fitR hR (by decide) (by decide) (by omega)) rfl rfl (Nat.le_of_ble_eq_true rfl) dX6_passWord_14 ?_
    refine g_iconst (v := nI 1) h dX6_passWord_17 (by decide) ?_
    exact g_zret h hrt dX6_passWord_18 (by omega) (by first | exact Or.inl rfl | exact Or.inr rfl | simp) (by rw [b2_t hz]) (by rw [if_pos hz])
  · have hz := b2_0.mp c5
    refine g_aload_n h dX6_passWord_8 rfl rfl ?_
    refine g_V h lv_X6_60_X3 sh_160 (by decide) rfl (c_X6_fail_160 f L b w u hf hL hb) (fitR hR (by decide) (by decide) (by omega)) rfl rfl (Nat.le_of_ble_eq_true rfl) dX6_passWord_9 ?_
    exact g_zret h hrt dX6_passWord_12 (by omega) (by first | exact Or.inl rfl | exact Or.inr rfl | simp) (by rw [b2_f hz]) (by rw [if_neg hz])
set_option maxHeartbeats 1000000 in
theorem c_X6_passSign_160 {E : EE} (f : Nat → Int32) (L b : Nat) (w : Int32) (c : Int32) (u : Sto) (hf : u 1 = f) (hL : L ≤ 400) (hb : b ≤ L) : Ct E 3 0 yX6_passSign cX6_passSign 2 (some .boolean) [.ref (E.ad 160), .int c] (tkS9 u 160 f L b w) (.inl (some (.int (b2 (sgP f L b c))))) ((if sgP f L b c then tkS9 u 160 f L (nx f L b) w else tkS9 u 160 f L b (nI b))) := by
  have hk4 := kd_4 f L b
  have he9 := enN_b (f := f) hb
  have hm9 := nx_b (f := f) hb
  refine ct_of (by decide) (Nat.le_of_ble_eq_true rfl) (fun X h hR hrt htab hargs hini => ?_)
  refine g_aload_n h dX6_passSign_0 rfl rfl ?_
  refine g_iload_n h dX6_passSign_1 rfl rfl ?_
  refine g_V h lv_X6_64_X3 sh_160 (by decide) rfl (c_X6_atSign_160 f L b w c u hf hL hb) (fitR hR (by decide) (by decide) (by omega)) rfl rfl (Nat.le_of_ble_eq_true rfl) dX6_passSign_2 ?_
  refine g_if_ne (tgt := 13) h dX6_passSign_5 (by decide) (fun c5 => ?_) (fun c5 => ?_)
  · have hz := b2_n0.mp c5
    refine g_aload_n h dX6_passSign_13 rfl rfl ?_
    refine g_V h lv_X6_31_X3 sh_160 (by decide) rfl (c_X6_stepT_160 f L b w u hf hL hb) (fitR hR (by decide) (by decide) (by omega)) rfl rfl (Nat.le_of_ble_eq_true rfl) dX6_passSign_14 ?_
    refine g_iconst (v := nI 1) h dX6_passSign_17 (by decide) ?_
    exact g_zret h hrt dX6_passSign_18 (by omega) (by first | exact Or.inl rfl | exact Or.inr rfl | simp) (by rw [b2_t hz]) (by rw [if_pos hz])
  · have hz := b2_0.mp c5
    refine g_aload_n h dX6_passSign_8 rfl rfl ?_
    refine g_V h lv_X6_60_X3 sh_160 (by decide) rfl (c_X6_fail_160 f L b w u hf hL hb) (fitR hR (by decide) (by decide) (by omega)) rfl rfl (Nat.le_of_ble_eq_true rfl) dX6_passSign_9 ?_
    exact g_zret h hrt dX6_passSign_12 (by omega) (by first | exact Or.inl rfl | exact Or.inr rfl | simp) (by rw [b2_f hz]) (by rw [if_neg hz])
set_option maxHeartbeats 1000000 in
theorem c_X6_open_160 {E : EE} (f : Nat → Int32) (L : Nat) (u : Sto) (hf : u 1 = f) (hL : L ≤ 400) : Ct E 3 0 yX6_open cX6_open 2 none [.ref (E.ad 160), .int (nI L)] u (.inl none) ((tkS9 u 160 f L (skp f L 0) (-1))) := by
  refine Eq.mp (congrArg (fun z => Ct E 3 0 yX6_open cX6_open 2 none [.ref (E.ad 160), .int (nI L)] z (.inl none) _) (tx_eta (u := u) (t := 160))) ?_
  refine ct_of (by decide) (Nat.le_of_ble_eq_true rfl) (fun X h hR hrt htab hargs hini => ?_)
  refine g_aload_n h dX6_open_0 rfl rfl ?_
  refine g_iload_n h dX6_open_1 rfl rfl ?_
  refine g_aload_n h dX6_open_2 rfl rfl ?_
  refine g_getR h fl_X6_9_3 sh_160 (by decide) rfl dX6_open_3 ?_
  refine g_alen h _ _ sh_1 (by decide) dX6_open_6 ?_
  refine g_S h ls_X6_15 (c_J9_min_7cf53 _ _ _) (fitR hR (by decide) (by decide) (by omega)) rfl rfl (Nat.le_of_ble_eq_true rfl) dX6_open_7 ?_
  refine g_top (mn_400 hL) ?_
  refine g_putI h pfl_X6_21_3 sh_160 (by decide) rfl dX6_open_10 ?_
  refine g_sto tx_w1 ?_
  refine g_aload_n h dX6_open_13 rfl rfl ?_
  refine g_iconst (v := nI 0) h dX6_open_14 (by decide) ?_
  refine g_putI h pfl_X6_25_3 sh_160 (by decide) rfl dX6_open_15 ?_
  refine g_sto tx_w4 ?_
  refine g_aload_n h dX6_open_18 rfl rfl ?_
  refine g_iconst (v := -1) h dX6_open_19 (by decide) ?_
  refine g_putI h pfl_X6_28_3 sh_160 (by decide) rfl dX6_open_20 ?_
  refine g_sto tx_w6 ?_
  refine g_aload_n h dX6_open_23 rfl rfl ?_
  refine g_V h lv_X6_31_X3 sh_160 (by decide) rfl (c_X6_step_160 (u 160 2) (u 160 3) (u 160 5) (-1) L 0 hL (by omega) u) (fitR hR (by decide) (by decide) (by omega)) rfl rfl (Nat.le_of_ble_eq_true rfl) dX6_open_24 ?_
  exact g_vret h hrt dX6_open_27 (by omega) rfl (by rw [hf])
