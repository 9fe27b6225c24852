-- after: 38.r 39.s 40.t 47.str 48.tx 49.ty 50.tt 53.lw 70.na
def mrS (u : Sto) (B l p w : Int32) : Sto := fun a j => if a = 178 then (if j = 9 then B else if j = 10 then l else if j = 11 then p else if j = 12 then w else u a j) else u a j
section MR
variable {u : Sto} {B l p w x : Int32}
theorem mr_r9 : mrS u B l p w 178 9 = B := by simp [mrS]
theorem mr_r10 : mrS u B l p w 178 10 = l := by simp [mrS]
theorem mr_r11 : mrS u B l p w 178 11 = p := by simp [mrS]
theorem mr_r12 : mrS u B l p w 178 12 = w := by simp [mrS]
theorem mr_s {j : Nat} (h : j < 9 ∨ 12 < j) : mrS u B l p w 178 j = u 178 j := by
  have h1 : ¬ j = 9 := by omega
  have h2 : ¬ j = 10 := by omega
  have h3 : ¬ j = 11 := by omega
  have h4 : ¬ j = 12 := by omega
  simp [mrS, h1, h2, h3, h4]
theorem mr_o {k j : Nat} (h : k ≠ 178) : mrS u B l p w k j = u k j := by simp [mrS, h]
theorem mr_oc {k : Nat} (h : k ≠ 178) : mrS u B l p w k = u k := funext fun _ => mr_o h
theorem mr_w9 : su (mrS u B l p w) 178 9 x = mrS u x l p w := by
  funext k i; unfold su mrS
  by_cases h1 : k = 178 <;> by_cases h2 : i = 9 <;> simp [h1, h2]
theorem mr_w10 : su (mrS u B l p w) 178 10 x = mrS u B x p w := by
  funext k i; unfold su mrS
  by_cases h1 : k = 178 <;> by_cases h2 : i = 10 <;> simp [h1, h2]
theorem mr_w11 : su (mrS u B l p w) 178 11 x = mrS u B l x w := by
  funext k i; unfold su mrS
  by_cases h1 : k = 178 <;> by_cases h2 : i = 11 <;> simp [h1, h2]
theorem mr_w12 : su (mrS u B l p w) 178 12 x = mrS u B l p x := by
  funext k i; unfold su mrS
  by_cases h1 : k = 178 <;> by_cases h2 : i = 12 <;> simp [h1, h2]
theorem mr_su {k j : Nat} (h : k ≠ 178) : su (mrS u B l p w) k j x = mrS (su u k j x) B l p w := by
  funext y i
  unfold su mrS
  by_cases h1 : y = 178
  · have hn : ¬ (y = k ∧ i = j) := fun q => h (q.1.symm.trans h1)
    simp only [if_neg hn]
  · simp only [if_neg h1]
theorem mr_ss {j : Nat} (h : j < 9 ∨ 12 < j) : su (mrS u B l p w) 178 j x = mrS (su u 178 j x) B l p w := by
  funext y i
  unfold su mrS
  by_cases h1 : y = 178
  · by_cases h2 : i = j
    · subst h2
      have e1 : ¬ i = 9 := by omega
      have e2 : ¬ i = 10 := by omega
      have e3 : ¬ i = 11 := by omega
      have e4 : ¬ i = 12 := by omega
      simp [h1, e1, e2, e3, e4]
    · simp [h1, h2]
  · simp [h1]
theorem mr_eta : mrS u (u 178 9) (u 178 10) (u 178 11) (u 178 12) = u := by
  funext k i; unfold mrS
  by_cases h : k = 178
  · subst h
    rw [if_pos rfl]
    by_cases h1 : i = 9
    · simp [h1]
    · by_cases h2 : i = 10
      · simp [h2]
      · by_cases h3 : i = 11
        · simp [h3]
        · by_cases h4 : i = 12 <;> simp [h1, h2, h3, h4]
  · rw [if_neg h]
theorem mr_in {u2 : Sto} (h : u = u2) : mrS u B l p w = mrS u2 B l p w := by rw [h]
theorem mr_pv {p2 : Int32} (h : p = p2) : mrS u B l p w = mrS u B l p2 w := by rw [h]
theorem mr_wv {w2 : Int32} (h : w = w2) : mrS u B l p w = mrS u B l p w2 := by rw [h]
end MR
abbrev MR (u : Sto) (B : Int32) (L p : Nat) (w : Int32) : Sto := mrS u B (nI L) (nI p) w
def LF (u : Sto) (B : Int32) (f : Nat → Int32) : Prop := (B = -1 ∧ ∀ k, k < 400 → u 183 k = f k) ∨ (B = nI 1080 ∧ ∀ k, k < 400 → u 179 (1080 + k) = f k)
theorem sk_s {f : Nat → Int32} {L p : Nat} (h : p < L) (h2 : f p = nI 32) : skp f L p = skp f L (p + 1) := run_s h (decide_eq_true h2)
theorem sk_e {f : Nat → Int32} {L p : Nat} (h : ¬ (p < L ∧ f p = nI 32)) : skp f L p = p := run_e (fun q => h ⟨q.1, of_decide_eq_true q.2⟩)
theorem sk_sk {f : Nat → Int32} {L : Nat} : ∀ {j p : Nat}, L - p ≤ j → skp f L (skp f L p) = skp f L p
  | 0, p, h => by
    have e : skp f L p = p := sk_e (fun q => by have := q.1; omega)
    rw [e, e]
  | j + 1, p, h => by
    by_cases q : p < L ∧ f p = nI 32
    · rw [sk_s q.1 q.2]; have := q.1; exact sk_sk (j := j) (by omega)
    · rw [sk_e q, sk_e q]
theorem sgP_i {f : Nat → Int32} {L s : Nat} {c : Int32} (h1 : azB c = false) (h2 : dgB c = false) : sgP f L s c ↔ (s < L ∧ f s = c) := by
  constructor
  · intro h; exact ⟨sg_lt h, h.2⟩
  · intro ⟨a, b⟩
    refine ⟨?_, b⟩
    unfold kdN
    rw [if_neg (by omega), b, h1, h2]; rfl
theorem wd_k {f : Nat → Int32} {L s i : Nat} (h : wdB f L s i = true) : kdN f L s = 1 ∧ enN f L s - s = strLen.getD i 0 ∧ ∀ j, j < strLen.getD i 0 → f (s + j) = strC i j := by
  rw [wdB, Bool.and_eq_true] at h
  have h1 := of_decide_eq_true h.1
  exact ⟨h1.1, h1.2, fun j hj => of_decide_eq_true (allB_i.mp h.2 j hj)⟩
theorem kd_az {f : Nat → Int32} {L s : Nat} (h : kdN f L s = 1) : enN f L s = run azB f L s ∧ s < L := by
  have hl := kd_lt (f := f) (L := L) (b := s) (by omega)
  refine ⟨?_, hl⟩
  unfold kdN at h
  unfold enN
  rw [if_neg (by omega)] at h ⊢
  split at h
  · rename_i q; rw [if_pos q]
  · split at h <;> omega
theorem az_kd {f : Nat → Int32} {L s : Nat} (h : s < run azB f L s) : kdN f L s = 1 := by
  by_cases q : s < L ∧ azB (f s) = true
  · unfold kdN; rw [if_neg (by omega), if_pos q.2]
  · rw [run_e q] at h; omega
set_option maxHeartbeats 1000000 in
theorem c_X11_letter {E : EE} (B : Int32) (f : Nat → Int32) (L p : Nat) (w : Int32) (k : Nat) (hk : k < 400) (u : Sto) (hf : LF u B f) (hL : L ≤ 400) (hp : p ≤ L) : Ct E 1 0 yX11_letter cX11_letter 2 (some .int) [.ref (E.ad 178), .int (nI k)] (MR u B L p w) (.inl (some (.int (f k)))) ((MR u B L p w)) := by
  refine ct_of (by decide) (Nat.le_of_ble_eq_true rfl) (fun X h hR hrt htab hargs hini => ?_)
  refine g_aload_n h dX11_letter_0 rfl rfl ?_
  refine g_getI h fl_X11_94_10 sh_178 (by decide) rfl dX11_letter_1 ?_
  refine g_top mr_r9 ?_
  refine g_iconst (v := -1) h dX11_letter_4 (by decide) ?_
  refine g_icmp_ne (tgt := 17) h dX11_letter_5 (by decide) (fun c5 => ?_) (fun c5 => ?_)
  · obtain ⟨hB, hl⟩ := hf.resolve_left (fun q => c5 q.1)
    refine g_aload_n h dX11_letter_17 rfl rfl ?_
    refine g_getR h fl_X11_7_10 sh_178 (by decide) rfl dX11_letter_18 ?_
    refine g_aload_n h dX11_letter_21 rfl rfl ?_
    refine g_getI h fl_X11_94_10 sh_178 (by decide) rfl dX11_letter_22 ?_
    refine g_top mr_r9 ?_
    refine g_iload_n h dX11_letter_25 rfl rfl ?_
    refine g_iadd h dX11_letter_26 ?_
    refine g_top (y := nI (1080 + k)) (by rw [hB]; exact nI_add 1080 k) ?_
    refine g_iald h _ _ _ sh_179 (by decide) (by decide) rfl (by omega) dX11_letter_27 ?_
    refine g_top (mr_o (by decide)) ?_
    exact g_iret h hrt dX11_letter_28 (by omega) (by rw [hl k hk]) rfl
  · obtain ⟨hB, hl⟩ := hf.resolve_right (fun q => absurd (q.1.symm.trans c5) (by decide))
    refine g_aload_n h dX11_letter_8 rfl rfl ?_
    refine g_getR h fl_X11_22_10 sh_178 (by decide) rfl dX11_letter_9 ?_
    refine g_iload_n h dX11_letter_12 rfl rfl ?_
    refine g_iald h _ _ _ sh_183 (by decide) (by decide) rfl (by omega) dX11_letter_13 ?_
    refine g_top (mr_o (by decide)) ?_
    refine g_goto (tgt := 28) h dX11_letter_14 (by decide) ?_
    exact g_iret h hrt dX11_letter_28 (by omega) (by rw [hl k hk]) rfl
set_option maxHeartbeats 1000000 in
theorem c_X11_skip {E : EE} (B : Int32) (f : Nat → Int32) (L p : Nat) (w : Int32) (u : Sto) (hf : LF u B f) (hL : L ≤ 400) (hp : p ≤ L) : Ct E 2 0 yX11_skip cX11_skip 1 none [.ref (E.ad 178)] (MR u B L p w) (.inl none) ((MR u B L (skp f L p) w)) := by
  refine ct_of (by decide) (Nat.le_of_ble_eq_true rfl) (fun X h hR hrt htab hargs hini => ?_)
  have LP : ∀ j q : Nat, L - q ≤ j → q ≤ L → skp f L q = skp f L p → G E X (QM E X (.inl none) ((MR u B L (skp f L p) w)) 0) 1 0 0 [(0, .ref (E.ad 178))] [] (MR u B L q w) := by
    intro j
    induction j with
    | zero =>
      intro q hj hq hs
      refine g_aload_n h dX11_skip_0 rfl rfl ?_
      refine g_getI h fl_X11_97_10 sh_178 (by decide) rfl dX11_skip_1 ?_
      refine g_top mr_r11 ?_
      refine g_aload_n h dX11_skip_4 rfl rfl ?_
      refine g_getI h fl_X11_100_10 sh_178 (by decide) rfl dX11_skip_5 ?_
      refine g_top mr_r10 ?_
      refine g_icmp_ge (tgt := 37) h dX11_skip_8 (by decide) (fun c8 => ?_) (fun c8 => ?_)
      · have n8 := le_n (by omega) (by omega) (show nI (L) ≤ nI (q) from c8)
        exact g_vret h hrt dX11_skip_37 (by omega) rfl (by rw [← hs, sk_e (fun z => by have := z.1; omega)])
      · have n8 := nle_n (by omega) (by omega) (show ¬ nI (L) ≤ nI (q) from c8)
        refine g_aload_n h dX11_skip_11 rfl rfl ?_
        refine g_aload_n h dX11_skip_12 rfl rfl ?_
        refine g_getI h fl_X11_97_10 sh_178 (by decide) rfl dX11_skip_13 ?_
        refine g_top mr_r11 ?_
        refine g_V h lv_X11_103_X11 sh_178 (by decide) rfl (c_X11_letter B f L q w q (by omega) u hf hL hq) (fitR hR (by first | decide | omega) (by decide) (by omega)) rfl rfl (Nat.le_of_ble_eq_true rfl) dX11_skip_16 ?_
        refine g_bipush (v := nI 32) h dX11_skip_19 (by decide) ?_
        refine g_icmp_ne (tgt := 37) h dX11_skip_21 (by decide) (fun c21 => ?_) (fun c21 => ?_)
        · exact g_vret h hrt dX11_skip_37 (by omega) rfl (by rw [← hs, sk_e (fun z => c21 z.2)])
        · refine g_aload_n h dX11_skip_24 rfl rfl ?_
          refine g_dup h dX11_skip_25 rfl ?_
          refine g_getI h fl_X11_97_10 sh_178 (by decide) rfl dX11_skip_26 ?_
          refine g_top mr_r11 ?_
          refine g_iconst (v := nI 1) h dX11_skip_29 (by decide) ?_
          refine g_iadd h dX11_skip_30 ?_
          refine g_top (nI_1 q) ?_
          refine g_putI h pfl_X11_97_10 sh_178 (by decide) rfl dX11_skip_31 ?_
          refine g_sto mr_w11 ?_
          refine g_goto (tgt := 0) h dX11_skip_34 (by decide) ?_
          exact absurd n8 (by omega)
    | succ j ih =>
      intro q hj hq hs
      refine g_aload_n h dX11_skip_0 rfl rfl ?_
      refine g_getI h fl_X11_97_10 sh_178 (by decide) rfl dX11_skip_1 ?_
      refine g_top mr_r11 ?_
      refine g_aload_n h dX11_skip_4 rfl rfl ?_
      refine g_getI h fl_X11_100_10 sh_178 (by decide) rfl dX11_skip_5 ?_
      refine g_top mr_r10 ?_
      refine g_icmp_ge (tgt := 37) h dX11_skip_8 (by decide) (fun c8 => ?_) (fun c8 => ?_)
      · have n8 := le_n (by omega) (by omega) (show nI (L) ≤ nI (q) from c8)
        exact g_vret h hrt dX11_skip_37 (by omega) rfl (by rw [← hs, sk_e (fun z => by have := z.1; omega)])
      · have n8 := nle_n (by omega) (by omega) (show ¬ nI (L) ≤ nI (q) from c8)
        refine g_aload_n h dX11_skip_11 rfl rfl ?_
        refine g_aload_n h dX11_skip_12 rfl rfl ?_
        refine g_getI h fl_X11_97_10 sh_178 (by decide) rfl dX11_skip_13 ?_
        refine g_top mr_r11 ?_
        refine g_V h lv_X11_103_X11 sh_178 (by decide) rfl (c_X11_letter B f L q w q (by omega) u hf hL hq) (fitR hR (by first | decide | omega) (by decide) (by omega)) rfl rfl (Nat.le_of_ble_eq_true rfl) dX11_skip_16 ?_
        refine g_bipush (v := nI 32) h dX11_skip_19 (by decide) ?_
        refine g_icmp_ne (tgt := 37) h dX11_skip_21 (by decide) (fun c21 => ?_) (fun c21 => ?_)
        · exact g_vret h hrt dX11_skip_37 (by omega) rfl (by rw [← hs, sk_e (fun z => c21 z.2)])
        · refine g_aload_n h dX11_skip_24 rfl rfl ?_
          refine g_dup h dX11_skip_25 rfl ?_
          refine g_getI h fl_X11_97_10 sh_178 (by decide) rfl dX11_skip_26 ?_
          refine g_top mr_r11 ?_
          refine g_iconst (v := nI 1) h dX11_skip_29 (by decide) ?_
          refine g_iadd h dX11_skip_30 ?_
          refine g_top (nI_1 q) ?_
          refine g_putI h pfl_X11_97_10 sh_178 (by decide) rfl dX11_skip_31 ?_
          refine g_sto mr_w11 ?_
          refine g_goto (tgt := 0) h dX11_skip_34 (by decide) ?_
          exact ih (q + 1) (by omega) (by omega) ((sk_s (by omega) c21).symm.trans hs)
  exact LP L p (by omega) hp rfl
set_option maxHeartbeats 1000000 in
theorem c_X11_place {E : EE} (B : Int32) (f : Nat → Int32) (L p : Nat) (w : Int32) (u : Sto) (hf : LF u B f) (hL : L ≤ 400) (hp : p ≤ L) : Ct E 3 0 yX11_place cX11_place 1 (some .int) [.ref (E.ad 178)] (MR u B L p w) (.inl (some (.int (nI (skp f L p))))) ((MR u B L (skp f L p) w)) := by
  refine ct_of (by decide) (Nat.le_of_ble_eq_true rfl) (fun X h hR hrt htab hargs hini => ?_)
  refine g_aload_n h dX11_place_0 rfl rfl ?_
  refine g_V h lv_X11_106_X11 sh_178 (by decide) rfl (c_X11_skip B f L p w u hf hL hp) (fitR hR (by first | decide | omega) (by decide) (by omega)) rfl rfl (Nat.le_of_ble_eq_true rfl) dX11_place_1 ?_
  refine g_aload_n h dX11_place_4 rfl rfl ?_
  refine g_getI h fl_X11_97_10 sh_178 (by decide) rfl dX11_place_5 ?_
  refine g_top mr_r11 ?_
  exact g_iret h hrt dX11_place_8 (by omega) (by rfl) rfl
set_option maxHeartbeats 1000000 in
theorem c_X11_wrong {E : EE} (B : Int32) (f : Nat → Int32) (L p : Nat) (w : Int32) (x : Int32) (u : Sto) (hf : LF u B f) (hL : L ≤ 400) (hp : p ≤ L) : Ct E 1 0 yX11_wrong cX11_wrong 2 none [.ref (E.ad 178), .int x] (MR u B L p w) (.inl none) ((MR u B L p (if w = -1 then x else w))) := by
  refine ct_of (by decide) (Nat.le_of_ble_eq_true rfl) (fun X h hR hrt htab hargs hini => ?_)
  refine g_aload_n h dX11_wrong_0 rfl rfl ?_
  refine g_getI h fl_X11_25_10 sh_178 (by decide) rfl dX11_wrong_1 ?_
  refine g_top mr_r12 ?_
  refine g_iconst (v := -1) h dX11_wrong_4 (by decide) ?_
  refine g_icmp_ne (tgt := 13) h dX11_wrong_5 (by decide) (fun c5 => ?_) (fun c5 => ?_)
  · exact g_vret h hrt dX11_wrong_13 (by omega) rfl (mr_wv (if_neg c5))
  · refine g_aload_n h dX11_wrong_8 rfl rfl ?_
    refine g_iload_n h dX11_wrong_9 rfl rfl ?_
    refine g_putI h pfl_X11_25_10 sh_178 (by decide) rfl dX11_wrong_10 ?_
    refine g_sto mr_w12 ?_
    exact g_vret h hrt dX11_wrong_13 (by omega) rfl (mr_wv (if_pos c5))
set_option maxHeartbeats 1000000 in
theorem c_X11_isSign {E : EE} (B : Int32) (f : Nat → Int32) (L p : Nat) (w : Int32) (c : Int32) (hc : azB c = false) (hc2 : dgB c = false) (u : Sto) (hf : LF u B f) (hL : L ≤ 400) (hp : p ≤ L) : Ct E 3 0 yX11_isSign cX11_isSign 2 (some .boolean) [.ref (E.ad 178), .int c] (MR u B L p w) (.inl (some (.int (b2 (sgP f L (skp f L p) c))))) ((MR u B L (skp f L p) w)) := by
  have hs := (skp_b (f := f) hp).2
  refine ct_of (by decide) (Nat.le_of_ble_eq_true rfl) (fun X h hR hrt htab hargs hini => ?_)
  refine g_aload_n h dX11_isSign_0 rfl rfl ?_
  refine g_V h lv_X11_106_X11 sh_178 (by decide) rfl (c_X11_skip B f L p w u hf hL hp) (fitR hR (by first | decide | omega) (by decide) (by omega)) rfl rfl (Nat.le_of_ble_eq_true rfl) dX11_isSign_1 ?_
  refine g_aload_n h dX11_isSign_4 rfl rfl ?_
  refine g_getI h fl_X11_97_10 sh_178 (by decide) rfl dX11_isSign_5 ?_
  refine g_top mr_r11 ?_
  refine g_aload_n h dX11_isSign_8 rfl rfl ?_
  refine g_getI h fl_X11_100_10 sh_178 (by decide) rfl dX11_isSign_9 ?_
  refine g_top mr_r10 ?_
  refine g_icmp_ge (tgt := 31) h dX11_isSign_12 (by decide) (fun c12 => ?_) (fun c12 => ?_)
  · have n12 := le_n (by omega) (by omega) (show nI (L) ≤ nI (skp f L p) from c12)
    refine g_iconst (v := nI 0) h dX11_isSign_31 (by decide) ?_
    exact g_zret h hrt dX11_isSign_32 (by omega) (by first | exact Or.inl rfl | exact Or.inr rfl | exact b2_01 _ | exact hF.2.2.2.1 | exact hF.2.2.2.2 | exact hy | exact hv | simp) (by rw [b2_f (fun q => by have := ((sgP_i hc hc2).mp q).1; omega)]) rfl
  · have n12 := nle_n (by omega) (by omega) (show ¬ nI (L) ≤ nI (skp f L p) from c12)
    refine g_aload_n h dX11_isSign_15 rfl rfl ?_
    refine g_aload_n h dX11_isSign_16 rfl rfl ?_
    refine g_getI h fl_X11_97_10 sh_178 (by decide) rfl dX11_isSign_17 ?_
    refine g_top mr_r11 ?_
    refine g_V h lv_X11_103_X11 sh_178 (by decide) rfl (c_X11_letter B f L (skp f L p) w (skp f L p) (by omega) u hf hL hs) (fitR hR (by first | decide | omega) (by decide) (by omega)) rfl rfl (Nat.le_of_ble_eq_true rfl) dX11_isSign_20 ?_
    refine g_iload_n h dX11_isSign_23 rfl rfl ?_
    refine g_icmp_ne (tgt := 31) h dX11_isSign_24 (by decide) (fun c24 => ?_) (fun c24 => ?_)
    · refine g_iconst (v := nI 0) h dX11_isSign_31 (by decide) ?_
      exact g_zret h hrt dX11_isSign_32 (by omega) (by first | exact Or.inl rfl | exact Or.inr rfl | exact b2_01 _ | exact hF.2.2.2.1 | exact hF.2.2.2.2 | exact hy | exact hv | simp) (by rw [b2_f (fun q => c24 ((sgP_i hc hc2).mp q).2)]) rfl
    · refine g_iconst (v := nI 1) h dX11_isSign_27 (by decide) ?_
      refine g_goto (tgt := 32) h dX11_isSign_28 (by decide) ?_
      exact g_zret h hrt dX11_isSign_32 (by omega) (by first | exact Or.inl rfl | exact Or.inr rfl | exact b2_01 _ | exact hF.2.2.2.1 | exact hF.2.2.2.2 | exact hy | exact hv | simp) (by rw [b2_t ((sgP_i hc hc2).mpr ⟨n12, c24⟩)]) rfl
set_option maxHeartbeats 1000000 in
theorem c_X11_has_ {E : EE} (B : Int32) (f : Nat → Int32) (L p : Nat) (w : Int32) (i : Nat) (hi : i < strN) (hi0 : 0 < strLen.getD i 0) (u : Sto) (hf : LF u B f) (hL : L ≤ 400) (hp : p ≤ L) : Ct E 5 0 yX11_has_ cX11_has_ 4 (some .boolean) [.ref (E.ad 178), .ref (E.aK i)] (MR u B L p w) (.inl (some (.int (b2 (wdB f L (skp f L p) i = true))))) ((MR u B L (if wdB f L (skp f L p) i = true then enN f L (skp f L p) else skp f L p) w)) := by
  refine ct_of (by decide) (Nat.le_of_ble_eq_true rfl) (fun X h hR hrt htab hargs hini => ?_)
  have hs := (skp_b (f := f) hp).2
  have hsl := (str_ok i hi).1
  have LQ : ∀ m k : Nat, L - k ≤ m → k ≤ L → skp f L p ≤ k → run azB f L k = run azB f L (skp f L p) → G E X (QM E X (.inl (some (.int (b2 (wdB f L (skp f L p) i = true))))) ((MR u B L (if wdB f L (skp f L p) i = true then enN f L (skp f L p) else skp f L p) w)) 0) 4 0 9 [(0, .ref (E.ad 178)), (1, .ref (E.aK i)), (2, .int (nI k))] [] (MR u B L (skp f L p) w) := by
    intro m
    induction m with
    | zero =>
      intro k hj hk hk0 hr
      refine g_iload_n h dX11_has__9 rfl rfl ?_
      refine g_aload_n h dX11_has__10 rfl rfl ?_
      refine g_getI h fl_X11_100_10 sh_178 (by decide) rfl dX11_has__11 ?_
      refine g_top mr_r10 ?_
      refine g_icmp_ge (tgt := 38) h dX11_has__14 (by decide) (fun c14 => ?_) (fun c14 => ?_)
      · have n14 := le_n (by omega) (by omega) (show nI (L) ≤ nI (k) from c14)
        have hk9 : run azB f L (skp f L p) = k := by rw [← hr]; exact run_e (fun z => by have := z.1; omega)
        refine g_iload_n h dX11_has__38 rfl rfl ?_
        refine g_aload_n h dX11_has__39 rfl rfl ?_
        refine g_getI h fl_X11_97_10 sh_178 (by decide) rfl dX11_has__40 ?_
        refine g_top mr_r11 ?_
        refine g_isub h dX11_has__43 ?_
        refine g_top (pk_sub hk0) ?_
        refine g_aload_n h dX11_has__44 rfl rfl ?_
        refine g_VS h lv_X11_109_J0 hi (c_J0_length i hi _) (fitR hR (by first | decide | omega) (by decide) (by omega)) rfl rfl (Nat.le_of_ble_eq_true rfl) dX11_has__45 ?_
        refine g_icmp_eq (tgt := 53) h dX11_has__48 (by decide) (fun c48 => ?_) (fun c48 => ?_)
        · have n48 := eq_n (by omega) (by omega) (show nI (k - skp f L p) = nI (strLen.getD i 0) from c48)
          refine g_iconst (v := nI 0) h dX11_has__53 (by decide) ?_
          refine g_istore_n (ls' := [(0, _), (1, _), (2, _), (3, _)]) h dX11_has__54 rfl (by decide) rfl rfl ?_
          have LR : ∀ m j : Nat, strLen.getD i 0 - j ≤ m → j ≤ strLen.getD i 0 → (∀ y, y < j → f (skp f L p + y) = strC i y) → G E X (QM E X (.inl (some (.int (b2 (wdB f L (skp f L p) i = true))))) ((MR u B L (if wdB f L (skp f L p) i = true then enN f L (skp f L p) else skp f L p) w)) 0) 4 0 55 [(0, .ref (E.ad 178)), (1, .ref (E.aK i)), (2, .int (nI k)), (3, .int (nI j))] [] (MR u B L (skp f L p) w) := by
            intro m2
            induction m2 with
            | zero =>
              intro j hj2 hj3 hA
              refine g_iload_n h dX11_has__55 rfl rfl ?_
              refine g_aload_n h dX11_has__56 rfl rfl ?_
              refine g_VS h lv_X11_109_J0 hi (c_J0_length i hi _) (fitR hR (by first | decide | omega) (by decide) (by omega)) rfl rfl (Nat.le_of_ble_eq_true rfl) dX11_has__57 ?_
              refine g_icmp_ge (tgt := 89) h dX11_has__60 (by decide) (fun c60 => ?_) (fun c60 => ?_)
              · have n60 := le_n (by omega) (by omega) (show nI (strLen.getD i 0) ≤ nI (j) from c60)
                have hz : wdB f L (skp f L p) i = true := by
                  rw [wdB, Bool.and_eq_true]
                  have h1 := az_kd (f := f) (L := L) (s := skp f L p) (by rw [hk9]; omega)
                  exact ⟨decide_eq_true ⟨h1, by rw [(kd_az h1).1, hk9]; exact n48⟩, allB_i.mpr (fun y hy => decide_eq_true (hA y (by omega)))⟩
                have hen : enN f L (skp f L p) = k := by rw [(kd_az (wd_k hz).1).1]; exact hk9
                refine g_aload_n h dX11_has__89 rfl rfl ?_
                refine g_iload_n h dX11_has__90 rfl rfl ?_
                refine g_putI h pfl_X11_97_10 sh_178 (by decide) rfl dX11_has__91 ?_
                refine g_sto mr_w11 ?_
                refine g_iconst (v := nI 1) h dX11_has__94 (by decide) ?_
                exact g_zret h hrt dX11_has__95 (by omega) (by first | exact Or.inl rfl | exact Or.inr rfl | exact b2_01 _ | exact hF.2.2.2.1 | exact hF.2.2.2.2 | exact hy | exact hv | simp) (by rw [b2_t hz]) (mr_pv (by rw [if_pos hz, hen]))
              · have n60 := nle_n (by omega) (by omega) (show ¬ nI (strLen.getD i 0) ≤ nI (j) from c60)
                refine g_aload_n h dX11_has__63 rfl rfl ?_
                refine g_aload_n h dX11_has__64 rfl rfl ?_
                refine g_getI h fl_X11_97_10 sh_178 (by decide) rfl dX11_has__65 ?_
                refine g_top mr_r11 ?_
                refine g_iload_n h dX11_has__68 rfl rfl ?_
                refine g_iadd h dX11_has__69 ?_
                refine g_top (nI_add (skp f L p) j) ?_
                refine g_V h lv_X11_103_X11 sh_178 (by decide) rfl (c_X11_letter B f L (skp f L p) w (skp f L p + j) (by omega) u hf hL hs) (fitR hR (by first | decide | omega) (by decide) (by omega)) rfl rfl (Nat.le_of_ble_eq_true rfl) dX11_has__70 ?_
                refine g_aload_n h dX11_has__73 rfl rfl ?_
                refine g_iload_n h dX11_has__74 rfl rfl ?_
                refine g_VS h lv_X11_115_J0 hi (c_J0_charAt i j hi (by omega) _) (fitR hR (by first | decide | omega) (by decide) (by omega)) rfl rfl (Nat.le_of_ble_eq_true rfl) dX11_has__75 ?_
                refine g_icmp_eq (tgt := 83) h dX11_has__78 (by decide) (fun c78 => ?_) (fun c78 => ?_)
                · refine g_iinc (v := nI (j + 1)) (ls' := [(0, _), (1, _), (2, _), (3, _)]) h dX11_has__83 rfl (nI_1 j) (by decide) rfl rfl ?_
                  refine g_goto (tgt := 55) h dX11_has__86 (by decide) ?_
                  exact absurd n60 (by omega)
                · have hz : ¬ wdB f L (skp f L p) i = true := fun z => c78 ((wd_k z).2.2 j (by omega))
                  refine g_iconst (v := nI 0) h dX11_has__81 (by decide) ?_
                  exact g_zret h hrt dX11_has__82 (by omega) (by first | exact Or.inl rfl | exact Or.inr rfl | exact b2_01 _ | exact hF.2.2.2.1 | exact hF.2.2.2.2 | exact hy | exact hv | simp) (by rw [b2_f hz]) (mr_pv (congrArg nI (if_neg hz)))
            | succ m2 ih2 =>
              intro j hj2 hj3 hA
              refine g_iload_n h dX11_has__55 rfl rfl ?_
              refine g_aload_n h dX11_has__56 rfl rfl ?_
              refine g_VS h lv_X11_109_J0 hi (c_J0_length i hi _) (fitR hR (by first | decide | omega) (by decide) (by omega)) rfl rfl (Nat.le_of_ble_eq_true rfl) dX11_has__57 ?_
              refine g_icmp_ge (tgt := 89) h dX11_has__60 (by decide) (fun c60 => ?_) (fun c60 => ?_)
              · have n60 := le_n (by omega) (by omega) (show nI (strLen.getD i 0) ≤ nI (j) from c60)
                have hz : wdB f L (skp f L p) i = true := by
                  rw [wdB, Bool.and_eq_true]
                  have h1 := az_kd (f := f) (L := L) (s := skp f L p) (by rw [hk9]; omega)
                  exact ⟨decide_eq_true ⟨h1, by rw [(kd_az h1).1, hk9]; exact n48⟩, allB_i.mpr (fun y hy => decide_eq_true (hA y (by omega)))⟩
                have hen : enN f L (skp f L p) = k := by rw [(kd_az (wd_k hz).1).1]; exact hk9
                refine g_aload_n h dX11_has__89 rfl rfl ?_
                refine g_iload_n h dX11_has__90 rfl rfl ?_
                refine g_putI h pfl_X11_97_10 sh_178 (by decide) rfl dX11_has__91 ?_
                refine g_sto mr_w11 ?_
                refine g_iconst (v := nI 1) h dX11_has__94 (by decide) ?_
                exact g_zret h hrt dX11_has__95 (by omega) (by first | exact Or.inl rfl | exact Or.inr rfl | exact b2_01 _ | exact hF.2.2.2.1 | exact hF.2.2.2.2 | exact hy | exact hv | simp) (by rw [b2_t hz]) (mr_pv (by rw [if_pos hz, hen]))
              · have n60 := nle_n (by omega) (by omega) (show ¬ nI (strLen.getD i 0) ≤ nI (j) from c60)
                refine g_aload_n h dX11_has__63 rfl rfl ?_
                refine g_aload_n h dX11_has__64 rfl rfl ?_
                refine g_getI h fl_X11_97_10 sh_178 (by decide) rfl dX11_has__65 ?_
                refine g_top mr_r11 ?_
                refine g_iload_n h dX11_has__68 rfl rfl ?_
                refine g_iadd h dX11_has__69 ?_
                refine g_top (nI_add (skp f L p) j) ?_
                refine g_V h lv_X11_103_X11 sh_178 (by decide) rfl (c_X11_letter B f L (skp f L p) w (skp f L p + j) (by omega) u hf hL hs) (fitR hR (by first | decide | omega) (by decide) (by omega)) rfl rfl (Nat.le_of_ble_eq_true rfl) dX11_has__70 ?_
                refine g_aload_n h dX11_has__73 rfl rfl ?_
                refine g_iload_n h dX11_has__74 rfl rfl ?_
                refine g_VS h lv_X11_115_J0 hi (c_J0_charAt i j hi (by omega) _) (fitR hR (by first | decide | omega) (by decide) (by omega)) rfl rfl (Nat.le_of_ble_eq_true rfl) dX11_has__75 ?_
                refine g_icmp_eq (tgt := 83) h dX11_has__78 (by decide) (fun c78 => ?_) (fun c78 => ?_)
                · refine g_iinc (v := nI (j + 1)) (ls' := [(0, _), (1, _), (2, _), (3, _)]) h dX11_has__83 rfl (nI_1 j) (by decide) rfl rfl ?_
                  refine g_goto (tgt := 55) h dX11_has__86 (by decide) ?_
                  exact ih2 (j + 1) (by omega) (by omega) (fun y hy => by
                    by_cases q : y = j
                    · subst q; exact c78
                    · exact hA y (by omega))
                · have hz : ¬ wdB f L (skp f L p) i = true := fun z => c78 ((wd_k z).2.2 j (by omega))
                  refine g_iconst (v := nI 0) h dX11_has__81 (by decide) ?_
                  exact g_zret h hrt dX11_has__82 (by omega) (by first | exact Or.inl rfl | exact Or.inr rfl | exact b2_01 _ | exact hF.2.2.2.1 | exact hF.2.2.2.2 | exact hy | exact hv | simp) (by rw [b2_f hz]) (mr_pv (congrArg nI (if_neg hz)))
          exact LR (strLen.getD i 0) 0 (by omega) (by omega) (fun y hy => absurd hy (by omega))
        · have n48 := ne_n (show ¬ nI (k - skp f L p) = nI (strLen.getD i 0) from c48)
          have hz : ¬ wdB f L (skp f L p) i = true := fun z => by
            obtain ⟨z1, z2, z3⟩ := wd_k z
            have := (kd_az z1).1
            exact n48 (by rw [← hk9, ← this]; exact z2)
          refine g_iconst (v := nI 0) h dX11_has__51 (by decide) ?_
          exact g_zret h hrt dX11_has__52 (by omega) (by first | exact Or.inl rfl | exact Or.inr rfl | exact b2_01 _ | exact hF.2.2.2.1 | exact hF.2.2.2.2 | exact hy | exact hv | simp) (by rw [b2_f hz]) (mr_pv (congrArg nI (if_neg hz)))
      · have n14 := nle_n (by omega) (by omega) (show ¬ nI (L) ≤ nI (k) from c14)
        refine g_aload_n h dX11_has__17 rfl rfl ?_
        refine g_iload_n h dX11_has__18 rfl rfl ?_
        refine g_V h lv_X11_103_X11 sh_178 (by decide) rfl (c_X11_letter B f L (skp f L p) w k (by omega) u hf hL hs) (fitR hR (by first | decide | omega) (by decide) (by omega)) rfl rfl (Nat.le_of_ble_eq_true rfl) dX11_has__19 ?_
        refine g_bipush (v := nI 97) h dX11_has__22 (by decide) ?_
        refine g_bipush (v := nI 122) h dX11_has__24 (by decide) ?_
        refine g_S h ls_X11_72 (c_X11_isIn (f k) (nI 97) (nI 122) _) (fitR hR (by first | decide | omega) (by decide) (by omega)) rfl rfl (Nat.le_of_ble_eq_true rfl) dX11_has__26 ?_
        refine g_if_eq (tgt := 38) h dX11_has__29 (by decide) (fun c29 => ?_) (fun c29 => ?_)
        · have hk9 : run azB f L (skp f L p) = k := by rw [← hr]; exact run_e (fun z => b2_0.mp c29 (of_decide_eq_true z.2))
          refine g_iload_n h dX11_has__38 rfl rfl ?_
          refine g_aload_n h dX11_has__39 rfl rfl ?_
          refine g_getI h fl_X11_97_10 sh_178 (by decide) rfl dX11_has__40 ?_
          refine g_top mr_r11 ?_
          refine g_isub h dX11_has__43 ?_
          refine g_top (pk_sub hk0) ?_
          refine g_aload_n h dX11_has__44 rfl rfl ?_
          refine g_VS h lv_X11_109_J0 hi (c_J0_length i hi _) (fitR hR (by first | decide | omega) (by decide) (by omega)) rfl rfl (Nat.le_of_ble_eq_true rfl) dX11_has__45 ?_
          refine g_icmp_eq (tgt := 53) h dX11_has__48 (by decide) (fun c48 => ?_) (fun c48 => ?_)
          · have n48 := eq_n (by omega) (by omega) (show nI (k - skp f L p) = nI (strLen.getD i 0) from c48)
            refine g_iconst (v := nI 0) h dX11_has__53 (by decide) ?_
            refine g_istore_n (ls' := [(0, _), (1, _), (2, _), (3, _)]) h dX11_has__54 rfl (by decide) rfl rfl ?_
            have LR : ∀ m j : Nat, strLen.getD i 0 - j ≤ m → j ≤ strLen.getD i 0 → (∀ y, y < j → f (skp f L p + y) = strC i y) → G E X (QM E X (.inl (some (.int (b2 (wdB f L (skp f L p) i = true))))) ((MR u B L (if wdB f L (skp f L p) i = true then enN f L (skp f L p) else skp f L p) w)) 0) 4 0 55 [(0, .ref (E.ad 178)), (1, .ref (E.aK i)), (2, .int (nI k)), (3, .int (nI j))] [] (MR u B L (skp f L p) w) := by
              intro m2
              induction m2 with
              | zero =>
                intro j hj2 hj3 hA
                refine g_iload_n h dX11_has__55 rfl rfl ?_
                refine g_aload_n h dX11_has__56 rfl rfl ?_
                refine g_VS h lv_X11_109_J0 hi (c_J0_length i hi _) (fitR hR (by first | decide | omega) (by decide) (by omega)) rfl rfl (Nat.le_of_ble_eq_true rfl) dX11_has__57 ?_
                refine g_icmp_ge (tgt := 89) h dX11_has__60 (by decide) (fun c60 => ?_) (fun c60 => ?_)
                · have n60 := le_n (by omega) (by omega) (show nI (strLen.getD i 0) ≤ nI (j) from c60)
                  have hz : wdB f L (skp f L p) i = true := by
                    rw [wdB, Bool.and_eq_true]
                    have h1 := az_kd (f := f) (L := L) (s := skp f L p) (by rw [hk9]; omega)
                    exact ⟨decide_eq_true ⟨h1, by rw [(kd_az h1).1, hk9]; exact n48⟩, allB_i.mpr (fun y hy => decide_eq_true (hA y (by omega)))⟩
                  have hen : enN f L (skp f L p) = k := by rw [(kd_az (wd_k hz).1).1]; exact hk9
                  refine g_aload_n h dX11_has__89 rfl rfl ?_
                  refine g_iload_n h dX11_has__90 rfl rfl ?_
                  refine g_putI h pfl_X11_97_10 sh_178 (by decide) rfl dX11_has__91 ?_
                  refine g_sto mr_w11 ?_
                  refine g_iconst (v := nI 1) h dX11_has__94 (by decide) ?_
                  exact g_zret h hrt dX11_has__95 (by omega) (by first | exact Or.inl rfl | exact Or.inr rfl | exact b2_01 _ | exact hF.2.2.2.1 | exact hF.2.2.2.2 | exact hy | exact hv | simp) (by rw [b2_t hz]) (mr_pv (by rw [if_pos hz, hen]))
                · have n60 := nle_n (by omega) (by omega) (show ¬ nI (strLen.getD i 0) ≤ nI (j) from c60)
                  refine g_aload_n h dX11_has__63 rfl rfl ?_
                  refine g_aload_n h dX11_has__64 rfl rfl ?_
                  refine g_getI h fl_X11_97_10 sh_178 (by decide) rfl dX11_has__65 ?_
                  refine g_top mr_r11 ?_
                  refine g_iload_n h dX11_has__68 rfl rfl ?_
                  refine g_iadd h dX11_has__69 ?_
                  refine g_top (nI_add (skp f L p) j) ?_
                  refine g_V h lv_X11_103_X11 sh_178 (by decide) rfl (c_X11_letter B f L (skp f L p) w (skp f L p + j) (by omega) u hf hL hs) (fitR hR (by first | decide | omega) (by decide) (by omega)) rfl rfl (Nat.le_of_ble_eq_true rfl) dX11_has__70 ?_
                  refine g_aload_n h dX11_has__73 rfl rfl ?_
                  refine g_iload_n h dX11_has__74 rfl rfl ?_
                  refine g_VS h lv_X11_115_J0 hi (c_J0_charAt i j hi (by omega) _) (fitR hR (by first | decide | omega) (by decide) (by omega)) rfl rfl (Nat.le_of_ble_eq_true rfl) dX11_has__75 ?_
                  refine g_icmp_eq (tgt := 83) h dX11_has__78 (by decide) (fun c78 => ?_) (fun c78 => ?_)
                  · refine g_iinc (v := nI (j + 1)) (ls' := [(0, _), (1, _), (2, _), (3, _)]) h dX11_has__83 rfl (nI_1 j) (by decide) rfl rfl ?_
                    refine g_goto (tgt := 55) h dX11_has__86 (by decide) ?_
                    exact absurd n60 (by omega)
                  · have hz : ¬ wdB f L (skp f L p) i = true := fun z => c78 ((wd_k z).2.2 j (by omega))
                    refine g_iconst (v := nI 0) h dX11_has__81 (by decide) ?_
                    exact g_zret h hrt dX11_has__82 (by omega) (by first | exact Or.inl rfl | exact Or.inr rfl | exact b2_01 _ | exact hF.2.2.2.1 | exact hF.2.2.2.2 | exact hy | exact hv | simp) (by rw [b2_f hz]) (mr_pv (congrArg nI (if_neg hz)))
              | succ m2 ih2 =>
                intro j hj2 hj3 hA
                refine g_iload_n h dX11_has__55 rfl rfl ?_
                refine g_aload_n h dX11_has__56 rfl rfl ?_
                refine g_VS h lv_X11_109_J0 hi (c_J0_length i hi _) (fitR hR (by first | decide | omega) (by decide) (by omega)) rfl rfl (Nat.le_of_ble_eq_true rfl) dX11_has__57 ?_
                refine g_icmp_ge (tgt := 89) h dX11_has__60 (by decide) (fun c60 => ?_) (fun c60 => ?_)
                · have n60 := le_n (by omega) (by omega) (show nI (strLen.getD i 0) ≤ nI (j) from c60)
                  have hz : wdB f L (skp f L p) i = true := by
                    rw [wdB, Bool.and_eq_true]
                    have h1 := az_kd (f := f) (L := L) (s := skp f L p) (by rw [hk9]; omega)
                    exact ⟨decide_eq_true ⟨h1, by rw [(kd_az h1).1, hk9]; exact n48⟩, allB_i.mpr (fun y hy => decide_eq_true (hA y (by omega)))⟩
                  have hen : enN f L (skp f L p) = k := by rw [(kd_az (wd_k hz).1).1]; exact hk9
                  refine g_aload_n h dX11_has__89 rfl rfl ?_
                  refine g_iload_n h dX11_has__90 rfl rfl ?_
                  refine g_putI h pfl_X11_97_10 sh_178 (by decide) rfl dX11_has__91 ?_
                  refine g_sto mr_w11 ?_
                  refine g_iconst (v := nI 1) h dX11_has__94 (by decide) ?_
                  exact g_zret h hrt dX11_has__95 (by omega) (by first | exact Or.inl rfl | exact Or.inr rfl | exact b2_01 _ | exact hF.2.2.2.1 | exact hF.2.2.2.2 | exact hy | exact hv | simp) (by rw [b2_t hz]) (mr_pv (by rw [if_pos hz, hen]))
                · have n60 := nle_n (by omega) (by omega) (show ¬ nI (strLen.getD i 0) ≤ nI (j) from c60)
                  refine g_aload_n h dX11_has__63 rfl rfl ?_
                  refine g_aload_n h dX11_has__64 rfl rfl ?_
                  refine g_getI h fl_X11_97_10 sh_178 (by decide) rfl dX11_has__65 ?_
                  refine g_top mr_r11 ?_
                  refine g_iload_n h dX11_has__68 rfl rfl ?_
                  refine g_iadd h dX11_has__69 ?_
                  refine g_top (nI_add (skp f L p) j) ?_
                  refine g_V h lv_X11_103_X11 sh_178 (by decide) rfl (c_X11_letter B f L (skp f L p) w (skp f L p + j) (by omega) u hf hL hs) (fitR hR (by first | decide | omega) (by decide) (by omega)) rfl rfl (Nat.le_of_ble_eq_true rfl) dX11_has__70 ?_
                  refine g_aload_n h dX11_has__73 rfl rfl ?_
                  refine g_iload_n h dX11_has__74 rfl rfl ?_
                  refine g_VS h lv_X11_115_J0 hi (c_J0_charAt i j hi (by omega) _) (fitR hR (by first | decide | omega) (by decide) (by omega)) rfl rfl (Nat.le_of_ble_eq_true rfl) dX11_has__75 ?_
                  refine g_icmp_eq (tgt := 83) h dX11_has__78 (by decide) (fun c78 => ?_) (fun c78 => ?_)
                  · refine g_iinc (v := nI (j + 1)) (ls' := [(0, _), (1, _), (2, _), (3, _)]) h dX11_has__83 rfl (nI_1 j) (by decide) rfl rfl ?_
                    refine g_goto (tgt := 55) h dX11_has__86 (by decide) ?_
                    exact ih2 (j + 1) (by omega) (by omega) (fun y hy => by
                      by_cases q : y = j
                      · subst q; exact c78
                      · exact hA y (by omega))
                  · have hz : ¬ wdB f L (skp f L p) i = true := fun z => c78 ((wd_k z).2.2 j (by omega))
                    refine g_iconst (v := nI 0) h dX11_has__81 (by decide) ?_
                    exact g_zret h hrt dX11_has__82 (by omega) (by first | exact Or.inl rfl | exact Or.inr rfl | exact b2_01 _ | exact hF.2.2.2.1 | exact hF.2.2.2.2 | exact hy | exact hv | simp) (by rw [b2_f hz]) (mr_pv (congrArg nI (if_neg hz)))
            exact LR (strLen.getD i 0) 0 (by omega) (by omega) (fun y hy => absurd hy (by omega))
          · have n48 := ne_n (show ¬ nI (k - skp f L p) = nI (strLen.getD i 0) from c48)
            have hz : ¬ wdB f L (skp f L p) i = true := fun z => by
              obtain ⟨z1, z2, z3⟩ := wd_k z
              have := (kd_az z1).1
              exact n48 (by rw [← hk9, ← this]; exact z2)
            refine g_iconst (v := nI 0) h dX11_has__51 (by decide) ?_
            exact g_zret h hrt dX11_has__52 (by omega) (by first | exact Or.inl rfl | exact Or.inr rfl | exact b2_01 _ | exact hF.2.2.2.1 | exact hF.2.2.2.2 | exact hy | exact hv | simp) (by rw [b2_f hz]) (mr_pv (congrArg nI (if_neg hz)))
        · refine g_iinc (v := nI (k + 1)) (ls' := [(0, _), (1, _), (2, _)]) h dX11_has__32 rfl (nI_1 k) (by decide) rfl rfl ?_
          refine g_goto (tgt := 9) h dX11_has__35 (by decide) ?_
          exact absurd n14 (by omega)
    | succ m ih =>
      intro k hj hk hk0 hr
      refine g_iload_n h dX11_has__9 rfl rfl ?_
      refine g_aload_n h dX11_has__10 rfl rfl ?_
      refine g_getI h fl_X11_100_10 sh_178 (by decide) rfl dX11_has__11 ?_
      refine g_top mr_r10 ?_
      refine g_icmp_ge (tgt := 38) h dX11_has__14 (by decide) (fun c14 => ?_) (fun c14 => ?_)
      · have n14 := le_n (by omega) (by omega) (show nI (L) ≤ nI (k) from c14)
        have hk9 : run azB f L (skp f L p) = k := by rw [← hr]; exact run_e (fun z => by have := z.1; omega)
        refine g_iload_n h dX11_has__38 rfl rfl ?_
        refine g_aload_n h dX11_has__39 rfl rfl ?_
        refine g_getI h fl_X11_97_10 sh_178 (by decide) rfl dX11_has__40 ?_
        refine g_top mr_r11 ?_
        refine g_isub h dX11_has__43 ?_
        refine g_top (pk_sub hk0) ?_
        refine g_aload_n h dX11_has__44 rfl rfl ?_
        refine g_VS h lv_X11_109_J0 hi (c_J0_length i hi _) (fitR hR (by first | decide | omega) (by decide) (by omega)) rfl rfl (Nat.le_of_ble_eq_true rfl) dX11_has__45 ?_
        refine g_icmp_eq (tgt := 53) h dX11_has__48 (by decide) (fun c48 => ?_) (fun c48 => ?_)
        · have n48 := eq_n (by omega) (by omega) (show nI (k - skp f L p) = nI (strLen.getD i 0) from c48)
          refine g_iconst (v := nI 0) h dX11_has__53 (by decide) ?_
          refine g_istore_n (ls' := [(0, _), (1, _), (2, _), (3, _)]) h dX11_has__54 rfl (by decide) rfl rfl ?_
          have LR : ∀ m j : Nat, strLen.getD i 0 - j ≤ m → j ≤ strLen.getD i 0 → (∀ y, y < j → f (skp f L p + y) = strC i y) → G E X (QM E X (.inl (some (.int (b2 (wdB f L (skp f L p) i = true))))) ((MR u B L (if wdB f L (skp f L p) i = true then enN f L (skp f L p) else skp f L p) w)) 0) 4 0 55 [(0, .ref (E.ad 178)), (1, .ref (E.aK i)), (2, .int (nI k)), (3, .int (nI j))] [] (MR u B L (skp f L p) w) := by
            intro m2
            induction m2 with
            | zero =>
              intro j hj2 hj3 hA
              refine g_iload_n h dX11_has__55 rfl rfl ?_
              refine g_aload_n h dX11_has__56 rfl rfl ?_
              refine g_VS h lv_X11_109_J0 hi (c_J0_length i hi _) (fitR hR (by first | decide | omega) (by decide) (by omega)) rfl rfl (Nat.le_of_ble_eq_true rfl) dX11_has__57 ?_
              refine g_icmp_ge (tgt := 89) h dX11_has__60 (by decide) (fun c60 => ?_) (fun c60 => ?_)
              · have n60 := le_n (by omega) (by omega) (show nI (strLen.getD i 0) ≤ nI (j) from c60)
                have hz : wdB f L (skp f L p) i = true := by
                  rw [wdB, Bool.and_eq_true]
                  have h1 := az_kd (f := f) (L := L) (s := skp f L p) (by rw [hk9]; omega)
                  exact ⟨decide_eq_true ⟨h1, by rw [(kd_az h1).1, hk9]; exact n48⟩, allB_i.mpr (fun y hy => decide_eq_true (hA y (by omega)))⟩
                have hen : enN f L (skp f L p) = k := by rw [(kd_az (wd_k hz).1).1]; exact hk9
                refine g_aload_n h dX11_has__89 rfl rfl ?_
                refine g_iload_n h dX11_has__90 rfl rfl ?_
                refine g_putI h pfl_X11_97_10 sh_178 (by decide) rfl dX11_has__91 ?_
                refine g_sto mr_w11 ?_
                refine g_iconst (v := nI 1) h dX11_has__94 (by decide) ?_
                exact g_zret h hrt dX11_has__95 (by omega) (by first | exact Or.inl rfl | exact Or.inr rfl | exact b2_01 _ | exact hF.2.2.2.1 | exact hF.2.2.2.2 | exact hy | exact hv | simp) (by rw [b2_t hz]) (mr_pv (by rw [if_pos hz, hen]))
              · have n60 := nle_n (by omega) (by omega) (show ¬ nI (strLen.getD i 0) ≤ nI (j) from c60)
                refine g_aload_n h dX11_has__63 rfl rfl ?_
                refine g_aload_n h dX11_has__64 rfl rfl ?_
                refine g_getI h fl_X11_97_10 sh_178 (by decide) rfl dX11_has__65 ?_
                refine g_top mr_r11 ?_
                refine g_iload_n h dX11_has__68 rfl rfl ?_
                refine g_iadd h dX11_has__69 ?_
                refine g_top (nI_add (skp f L p) j) ?_
                refine g_V h lv_X11_103_X11 sh_178 (by decide) rfl (c_X11_letter B f L (skp f L p) w (skp f L p + j) (by omega) u hf hL hs) (fitR hR (by first | decide | omega) (by decide) (by omega)) rfl rfl (Nat.le_of_ble_eq_true rfl) dX11_has__70 ?_
                refine g_aload_n h dX11_has__73 rfl rfl ?_
                refine g_iload_n h dX11_has__74 rfl rfl ?_
                refine g_VS h lv_X11_115_J0 hi (c_J0_charAt i j hi (by omega) _) (fitR hR (by first | decide | omega) (by decide) (by omega)) rfl rfl (Nat.le_of_ble_eq_true rfl) dX11_has__75 ?_
                refine g_icmp_eq (tgt := 83) h dX11_has__78 (by decide) (fun c78 => ?_) (fun c78 => ?_)
                · refine g_iinc (v := nI (j + 1)) (ls' := [(0, _), (1, _), (2, _), (3, _)]) h dX11_has__83 rfl (nI_1 j) (by decide) rfl rfl ?_
                  refine g_goto (tgt := 55) h dX11_has__86 (by decide) ?_
                  exact absurd n60 (by omega)
                · have hz : ¬ wdB f L (skp f L p) i = true := fun z => c78 ((wd_k z).2.2 j (by omega))
                  refine g_iconst (v := nI 0) h dX11_has__81 (by decide) ?_
                  exact g_zret h hrt dX11_has__82 (by omega) (by first | exact Or.inl rfl | exact Or.inr rfl | exact b2_01 _ | exact hF.2.2.2.1 | exact hF.2.2.2.2 | exact hy | exact hv | simp) (by rw [b2_f hz]) (mr_pv (congrArg nI (if_neg hz)))
            | succ m2 ih2 =>
              intro j hj2 hj3 hA
              refine g_iload_n h dX11_has__55 rfl rfl ?_
              refine g_aload_n h dX11_has__56 rfl rfl ?_
              refine g_VS h lv_X11_109_J0 hi (c_J0_length i hi _) (fitR hR (by first | decide | omega) (by decide) (by omega)) rfl rfl (Nat.le_of_ble_eq_true rfl) dX11_has__57 ?_
              refine g_icmp_ge (tgt := 89) h dX11_has__60 (by decide) (fun c60 => ?_) (fun c60 => ?_)
              · have n60 := le_n (by omega) (by omega) (show nI (strLen.getD i 0) ≤ nI (j) from c60)
                have hz : wdB f L (skp f L p) i = true := by
                  rw [wdB, Bool.and_eq_true]
                  have h1 := az_kd (f := f) (L := L) (s := skp f L p) (by rw [hk9]; omega)
                  exact ⟨decide_eq_true ⟨h1, by rw [(kd_az h1).1, hk9]; exact n48⟩, allB_i.mpr (fun y hy => decide_eq_true (hA y (by omega)))⟩
                have hen : enN f L (skp f L p) = k := by rw [(kd_az (wd_k hz).1).1]; exact hk9
                refine g_aload_n h dX11_has__89 rfl rfl ?_
                refine g_iload_n h dX11_has__90 rfl rfl ?_
                refine g_putI h pfl_X11_97_10 sh_178 (by decide) rfl dX11_has__91 ?_
                refine g_sto mr_w11 ?_
                refine g_iconst (v := nI 1) h dX11_has__94 (by decide) ?_
                exact g_zret h hrt dX11_has__95 (by omega) (by first | exact Or.inl rfl | exact Or.inr rfl | exact b2_01 _ | exact hF.2.2.2.1 | exact hF.2.2.2.2 | exact hy | exact hv | simp) (by rw [b2_t hz]) (mr_pv (by rw [if_pos hz, hen]))
              · have n60 := nle_n (by omega) (by omega) (show ¬ nI (strLen.getD i 0) ≤ nI (j) from c60)
                refine g_aload_n h dX11_has__63 rfl rfl ?_
                refine g_aload_n h dX11_has__64 rfl rfl ?_
                refine g_getI h fl_X11_97_10 sh_178 (by decide) rfl dX11_has__65 ?_
                refine g_top mr_r11 ?_
                refine g_iload_n h dX11_has__68 rfl rfl ?_
                refine g_iadd h dX11_has__69 ?_
                refine g_top (nI_add (skp f L p) j) ?_
                refine g_V h lv_X11_103_X11 sh_178 (by decide) rfl (c_X11_letter B f L (skp f L p) w (skp f L p + j) (by omega) u hf hL hs) (fitR hR (by first | decide | omega) (by decide) (by omega)) rfl rfl (Nat.le_of_ble_eq_true rfl) dX11_has__70 ?_
                refine g_aload_n h dX11_has__73 rfl rfl ?_
                refine g_iload_n h dX11_has__74 rfl rfl ?_
                refine g_VS h lv_X11_115_J0 hi (c_J0_charAt i j hi (by omega) _) (fitR hR (by first | decide | omega) (by decide) (by omega)) rfl rfl (Nat.le_of_ble_eq_true rfl) dX11_has__75 ?_
                refine g_icmp_eq (tgt := 83) h dX11_has__78 (by decide) (fun c78 => ?_) (fun c78 => ?_)
                · refine g_iinc (v := nI (j + 1)) (ls' := [(0, _), (1, _), (2, _), (3, _)]) h dX11_has__83 rfl (nI_1 j) (by decide) rfl rfl ?_
                  refine g_goto (tgt := 55) h dX11_has__86 (by decide) ?_
                  exact ih2 (j + 1) (by omega) (by omega) (fun y hy => by
                    by_cases q : y = j
                    · subst q; exact c78
                    · exact hA y (by omega))
                · have hz : ¬ wdB f L (skp f L p) i = true := fun z => c78 ((wd_k z).2.2 j (by omega))
                  refine g_iconst (v := nI 0) h dX11_has__81 (by decide) ?_
                  exact g_zret h hrt dX11_has__82 (by omega) (by first | exact Or.inl rfl | exact Or.inr rfl | exact b2_01 _ | exact hF.2.2.2.1 | exact hF.2.2.2.2 | exact hy | exact hv | simp) (by rw [b2_f hz]) (mr_pv (congrArg nI (if_neg hz)))
          exact LR (strLen.getD i 0) 0 (by omega) (by omega) (fun y hy => absurd hy (by omega))
        · have n48 := ne_n (show ¬ nI (k - skp f L p) = nI (strLen.getD i 0) from c48)
          have hz : ¬ wdB f L (skp f L p) i = true := fun z => by
            obtain ⟨z1, z2, z3⟩ := wd_k z
            have := (kd_az z1).1
            exact n48 (by rw [← hk9, ← this]; exact z2)
          refine g_iconst (v := nI 0) h dX11_has__51 (by decide) ?_
          exact g_zret h hrt dX11_has__52 (by omega) (by first | exact Or.inl rfl | exact Or.inr rfl | exact b2_01 _ | exact hF.2.2.2.1 | exact hF.2.2.2.2 | exact hy | exact hv | simp) (by rw [b2_f hz]) (mr_pv (congrArg nI (if_neg hz)))
      · have n14 := nle_n (by omega) (by omega) (show ¬ nI (L) ≤ nI (k) from c14)
        refine g_aload_n h dX11_has__17 rfl rfl ?_
        refine g_iload_n h dX11_has__18 rfl rfl ?_
        refine g_V h lv_X11_103_X11 sh_178 (by decide) rfl (c_X11_letter B f L (skp f L p) w k (by omega) u hf hL hs) (fitR hR (by first | decide | omega) (by decide) (by omega)) rfl rfl (Nat.le_of_ble_eq_true rfl) dX11_has__19 ?_
        refine g_bipush (v := nI 97) h dX11_has__22 (by decide) ?_
        refine g_bipush (v := nI 122) h dX11_has__24 (by decide) ?_
        refine g_S h ls_X11_72 (c_X11_isIn (f k) (nI 97) (nI 122) _) (fitR hR (by first | decide | omega) (by decide) (by omega)) rfl rfl (Nat.le_of_ble_eq_true rfl) dX11_has__26 ?_
        refine g_if_eq (tgt := 38) h dX11_has__29 (by decide) (fun c29 => ?_) (fun c29 => ?_)
        · have hk9 : run azB f L (skp f L p) = k := by rw [← hr]; exact run_e (fun z => b2_0.mp c29 (of_decide_eq_true z.2))
          refine g_iload_n h dX11_has__38 rfl rfl ?_
          refine g_aload_n h dX11_has__39 rfl rfl ?_
          refine g_getI h fl_X11_97_10 sh_178 (by decide) rfl dX11_has__40 ?_
          refine g_top mr_r11 ?_
          refine g_isub h dX11_has__43 ?_
          refine g_top (pk_sub hk0) ?_
          refine g_aload_n h dX11_has__44 rfl rfl ?_
          refine g_VS h lv_X11_109_J0 hi (c_J0_length i hi _) (fitR hR (by first | decide | omega) (by decide) (by omega)) rfl rfl (Nat.le_of_ble_eq_true rfl) dX11_has__45 ?_
          refine g_icmp_eq (tgt := 53) h dX11_has__48 (by decide) (fun c48 => ?_) (fun c48 => ?_)
          · have n48 := eq_n (by omega) (by omega) (show nI (k - skp f L p) = nI (strLen.getD i 0) from c48)
            refine g_iconst (v := nI 0) h dX11_has__53 (by decide) ?_
            refine g_istore_n (ls' := [(0, _), (1, _), (2, _), (3, _)]) h dX11_has__54 rfl (by decide) rfl rfl ?_
            have LR : ∀ m j : Nat, strLen.getD i 0 - j ≤ m → j ≤ strLen.getD i 0 → (∀ y, y < j → f (skp f L p + y) = strC i y) → G E X (QM E X (.inl (some (.int (b2 (wdB f L (skp f L p) i = true))))) ((MR u B L (if wdB f L (skp f L p) i = true then enN f L (skp f L p) else skp f L p) w)) 0) 4 0 55 [(0, .ref (E.ad 178)), (1, .ref (E.aK i)), (2, .int (nI k)), (3, .int (nI j))] [] (MR u B L (skp f L p) w) := by
              intro m2
              induction m2 with
              | zero =>
                intro j hj2 hj3 hA
                refine g_iload_n h dX11_has__55 rfl rfl ?_
                refine g_aload_n h dX11_has__56 rfl rfl ?_
                refine g_VS h lv_X11_109_J0 hi (c_J0_length i hi _) (fitR hR (by first | decide | omega) (by decide) (by omega)) rfl rfl (Nat.le_of_ble_eq_true rfl) dX11_has__57 ?_
                refine g_icmp_ge (tgt := 89) h dX11_has__60 (by decide) (fun c60 => ?_) (fun c60 => ?_)
                · have n60 := le_n (by omega) (by omega) (show nI (strLen.getD i 0) ≤ nI (j) from c60)
                  have hz : wdB f L (skp f L p) i = true := by
                    rw [wdB, Bool.and_eq_true]
                    have h1 := az_kd (f := f) (L := L) (s := skp f L p) (by rw [hk9]; omega)
                    exact ⟨decide_eq_true ⟨h1, by rw [(kd_az h1).1, hk9]; exact n48⟩, allB_i.mpr (fun y hy => decide_eq_true (hA y (by omega)))⟩
                  have hen : enN f L (skp f L p) = k := by rw [(kd_az (wd_k hz).1).1]; exact hk9
                  refine g_aload_n h dX11_has__89 rfl rfl ?_
                  refine g_iload_n h dX11_has__90 rfl rfl ?_
                  refine g_putI h pfl_X11_97_10 sh_178 (by decide) rfl dX11_has__91 ?_
                  refine g_sto mr_w11 ?_
                  refine g_iconst (v := nI 1) h dX11_has__94 (by decide) ?_
                  exact g_zret h hrt dX11_has__95 (by omega) (by first | exact Or.inl rfl | exact Or.inr rfl | exact b2_01 _ | exact hF.2.2.2.1 | exact hF.2.2.2.2 | exact hy | exact hv | simp) (by rw [b2_t hz]) (mr_pv (by rw [if_pos hz, hen]))
                · have n60 := nle_n (by omega) (by omega) (show ¬ nI (strLen.getD i 0) ≤ nI (j) from c60)
                  refine g_aload_n h dX11_has__63 rfl rfl ?_
                  refine g_aload_n h dX11_has__64 rfl rfl ?_
                  refine g_getI h fl_X11_97_10 sh_178 (by decide) rfl dX11_has__65 ?_
                  refine g_top mr_r11 ?_
                  refine g_iload_n h dX11_has__68 rfl rfl ?_
                  refine g_iadd h dX11_has__69 ?_
                  refine g_top (nI_add (skp f L p) j) ?_
                  refine g_V h lv_X11_103_X11 sh_178 (by decide) rfl (c_X11_letter B f L (skp f L p) w (skp f L p + j) (by omega) u hf hL hs) (fitR hR (by first | decide | omega) (by decide) (by omega)) rfl rfl (Nat.le_of_ble_eq_true rfl) dX11_has__70 ?_
                  refine g_aload_n h dX11_has__73 rfl rfl ?_
                  refine g_iload_n h dX11_has__74 rfl rfl ?_
                  refine g_VS h lv_X11_115_J0 hi (c_J0_charAt i j hi (by omega) _) (fitR hR (by first | decide | omega) (by decide) (by omega)) rfl rfl (Nat.le_of_ble_eq_true rfl) dX11_has__75 ?_
                  refine g_icmp_eq (tgt := 83) h dX11_has__78 (by decide) (fun c78 => ?_) (fun c78 => ?_)
                  · refine g_iinc (v := nI (j + 1)) (ls' := [(0, _), (1, _), (2, _), (3, _)]) h dX11_has__83 rfl (nI_1 j) (by decide) rfl rfl ?_
                    refine g_goto (tgt := 55) h dX11_has__86 (by decide) ?_
                    exact absurd n60 (by omega)
                  · have hz : ¬ wdB f L (skp f L p) i = true := fun z => c78 ((wd_k z).2.2 j (by omega))
                    refine g_iconst (v := nI 0) h dX11_has__81 (by decide) ?_
                    exact g_zret h hrt dX11_has__82 (by omega) (by first | exact Or.inl rfl | exact Or.inr rfl | exact b2_01 _ | exact hF.2.2.2.1 | exact hF.2.2.2.2 | exact hy | exact hv | simp) (by rw [b2_f hz]) (mr_pv (congrArg nI (if_neg hz)))
              | succ m2 ih2 =>
                intro j hj2 hj3 hA
                refine g_iload_n h dX11_has__55 rfl rfl ?_
                refine g_aload_n h dX11_has__56 rfl rfl ?_
                refine g_VS h lv_X11_109_J0 hi (c_J0_length i hi _) (fitR hR (by first | decide | omega) (by decide) (by omega)) rfl rfl (Nat.le_of_ble_eq_true rfl) dX11_has__57 ?_
                refine g_icmp_ge (tgt := 89) h dX11_has__60 (by decide) (fun c60 => ?_) (fun c60 => ?_)
                · have n60 := le_n (by omega) (by omega) (show nI (strLen.getD i 0) ≤ nI (j) from c60)
                  have hz : wdB f L (skp f L p) i = true := by
                    rw [wdB, Bool.and_eq_true]
                    have h1 := az_kd (f := f) (L := L) (s := skp f L p) (by rw [hk9]; omega)
                    exact ⟨decide_eq_true ⟨h1, by rw [(kd_az h1).1, hk9]; exact n48⟩, allB_i.mpr (fun y hy => decide_eq_true (hA y (by omega)))⟩
                  have hen : enN f L (skp f L p) = k := by rw [(kd_az (wd_k hz).1).1]; exact hk9
                  refine g_aload_n h dX11_has__89 rfl rfl ?_
                  refine g_iload_n h dX11_has__90 rfl rfl ?_
                  refine g_putI h pfl_X11_97_10 sh_178 (by decide) rfl dX11_has__91 ?_
                  refine g_sto mr_w11 ?_
                  refine g_iconst (v := nI 1) h dX11_has__94 (by decide) ?_
                  exact g_zret h hrt dX11_has__95 (by omega) (by first | exact Or.inl rfl | exact Or.inr rfl | exact b2_01 _ | exact hF.2.2.2.1 | exact hF.2.2.2.2 | exact hy | exact hv | simp) (by rw [b2_t hz]) (mr_pv (by rw [if_pos hz, hen]))
                · have n60 := nle_n (by omega) (by omega) (show ¬ nI (strLen.getD i 0) ≤ nI (j) from c60)
                  refine g_aload_n h dX11_has__63 rfl rfl ?_
                  refine g_aload_n h dX11_has__64 rfl rfl ?_
                  refine g_getI h fl_X11_97_10 sh_178 (by decide) rfl dX11_has__65 ?_
                  refine g_top mr_r11 ?_
                  refine g_iload_n h dX11_has__68 rfl rfl ?_
                  refine g_iadd h dX11_has__69 ?_
                  refine g_top (nI_add (skp f L p) j) ?_
                  refine g_V h lv_X11_103_X11 sh_178 (by decide) rfl (c_X11_letter B f L (skp f L p) w (skp f L p + j) (by omega) u hf hL hs) (fitR hR (by first | decide | omega) (by decide) (by omega)) rfl rfl (Nat.le_of_ble_eq_true rfl) dX11_has__70 ?_
                  refine g_aload_n h dX11_has__73 rfl rfl ?_
                  refine g_iload_n h dX11_has__74 rfl rfl ?_
                  refine g_VS h lv_X11_115_J0 hi (c_J0_charAt i j hi (by omega) _) (fitR hR (by first | decide | omega) (by decide) (by omega)) rfl rfl (Nat.le_of_ble_eq_true rfl) dX11_has__75 ?_
                  refine g_icmp_eq (tgt := 83) h dX11_has__78 (by decide) (fun c78 => ?_) (fun c78 => ?_)
                  · refine g_iinc (v := nI (j + 1)) (ls' := [(0, _), (1, _), (2, _), (3, _)]) h dX11_has__83 rfl (nI_1 j) (by decide) rfl rfl ?_
                    refine g_goto (tgt := 55) h dX11_has__86 (by decide) ?_
                    exact ih2 (j + 1) (by omega) (by omega) (fun y hy => by
                      by_cases q : y = j
                      · subst q; exact c78
                      · exact hA y (by omega))
                  · have hz : ¬ wdB f L (skp f L p) i = true := fun z => c78 ((wd_k z).2.2 j (by omega))
                    refine g_iconst (v := nI 0) h dX11_has__81 (by decide) ?_
                    exact g_zret h hrt dX11_has__82 (by omega) (by first | exact Or.inl rfl | exact Or.inr rfl | exact b2_01 _ | exact hF.2.2.2.1 | exact hF.2.2.2.2 | exact hy | exact hv | simp) (by rw [b2_f hz]) (mr_pv (congrArg nI (if_neg hz)))
            exact LR (strLen.getD i 0) 0 (by omega) (by omega) (fun y hy => absurd hy (by omega))
          · have n48 := ne_n (show ¬ nI (k - skp f L p) = nI (strLen.getD i 0) from c48)
            have hz : ¬ wdB f L (skp f L p) i = true := fun z => by
              obtain ⟨z1, z2, z3⟩ := wd_k z
              have := (kd_az z1).1
              exact n48 (by rw [← hk9, ← this]; exact z2)
            refine g_iconst (v := nI 0) h dX11_has__51 (by decide) ?_
            exact g_zret h hrt dX11_has__52 (by omega) (by first | exact Or.inl rfl | exact Or.inr rfl | exact b2_01 _ | exact hF.2.2.2.1 | exact hF.2.2.2.2 | exact hy | exact hv | simp) (by rw [b2_f hz]) (mr_pv (congrArg nI (if_neg hz)))
        · refine g_iinc (v := nI (k + 1)) (ls' := [(0, _), (1, _), (2, _)]) h dX11_has__32 rfl (nI_1 k) (by decide) rfl rfl ?_
          refine g_goto (tgt := 9) h dX11_has__35 (by decide) ?_
          exact ih (k + 1) (by omega) (by omega) (by omega) ((run_s (by omega) (decide_eq_true (b2_n0.mp c29))).symm.trans hr)
  refine g_aload_n h dX11_has__0 rfl rfl ?_
  refine g_V h lv_X11_106_X11 sh_178 (by decide) rfl (c_X11_skip B f L p w u hf hL hp) (fitR hR (by first | decide | omega) (by decide) (by omega)) rfl rfl (Nat.le_of_ble_eq_true rfl) dX11_has__1 ?_
  refine g_aload_n h dX11_has__4 rfl rfl ?_
  refine g_getI h fl_X11_97_10 sh_178 (by decide) rfl dX11_has__5 ?_
  refine g_top mr_r11 ?_
  refine g_istore_n (ls' := [(0, _), (1, _), (2, _)]) h dX11_has__8 rfl (by decide) rfl rfl ?_
  exact LQ L (skp f L p) (by omega) hs (Nat.le_refl _) rfl
