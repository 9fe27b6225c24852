-- after: 38.r 47.str
/-! a text and the thing in it that comes next -/
def runN (q : Int32 → Bool) (f : Nat → Int32) (L : Nat) : Nat → Nat → Nat
  | 0, p => p
  | j + 1, p => if p < L ∧ q (f p) = true then runN q f L j (p + 1) else p
def run (q : Int32 → Bool) (f : Nat → Int32) (L p : Nat) : Nat := runN q f L (L - p) p
theorem run_s {q : Int32 → Bool} {f : Nat → Int32} {L p : Nat} (h : p < L) (h2 : q (f p) = true) : run q f L p = run q f L (p + 1) := by
  unfold run
  rw [show L - p = (L - (p + 1)) + 1 by omega, runN, if_pos ⟨h, h2⟩]
theorem run_e {q : Int32 → Bool} {f : Nat → Int32} {L p : Nat} (h : ¬ (p < L ∧ q (f p) = true)) : run q f L p = p := by
  unfold run
  by_cases e : L - p = 0
  · rw [e]; rfl
  · rw [show L - p = (L - (p + 1)) + 1 by omega, runN, if_neg h]
theorem run_ge {q : Int32 → Bool} {f : Nat → Int32} {L : Nat} : ∀ j p, p ≤ runN q f L j p
  | 0, p => Nat.le_refl _
  | j + 1, p => by
    rw [runN]
    split
    · have := run_ge (q := q) (f := f) (L := L) j (p + 1); omega
    · omega
theorem run_le {q : Int32 → Bool} {f : Nat → Int32} {L : Nat} : ∀ j p, p ≤ L → runN q f L j p ≤ L
  | 0, p, h => h
  | j + 1, p, h => by
    rw [runN]
    split
    · exact run_le j (p + 1) (by omega)
    · exact h
theorem run_b {q : Int32 → Bool} {f : Nat → Int32} {L p : Nat} (h : p ≤ L) : p ≤ run q f L p ∧ run q f L p ≤ L := ⟨run_ge _ _, run_le _ _ h⟩
abbrev azP (x : Int32) : Prop := ¬ x < nI 97 ∧ x ≤ nI 122
abbrev dgP (x : Int32) : Prop := ¬ x < nI 48 ∧ x ≤ nI 57
def spB (x : Int32) : Bool := decide (x = nI 32)
def azB (x : Int32) : Bool := decide (azP x)
def dgB (x : Int32) : Bool := decide (dgP x)
def skp (f : Nat → Int32) (L p : Nat) : Nat := run spB f L p
/-- 0 the end, 1 a word, 2 a number, 3 a sign -/
def kdN (f : Nat → Int32) (L b : Nat) : Nat := if L ≤ b then 0 else if azB (f b) = true then 1 else if dgB (f b) = true then 2 else 3
def enN (f : Nat → Int32) (L b : Nat) : Nat := if L ≤ b then b else if azB (f b) = true then run azB f L b else if dgB (f b) = true then run dgB f L b else b + 1
def nuF (f : Nat → Int32) (b : Nat) : Nat → Int32
  | 0 => nI 0
  | k + 1 => nuF f b k * nI 10 + f (b + k) - nI 48
def nmI (f : Nat → Int32) (L b : Nat) : Int32 := if kdN f L b = 2 then nuF f b (enN f L b - b) else nI 0
theorem skp_b {f : Nat → Int32} {L p : Nat} (h : p ≤ L) : p ≤ skp f L p ∧ skp f L p ≤ L := run_b h
theorem enN_b {f : Nat → Int32} {L b : Nat} (h : b ≤ L) : b ≤ enN f L b ∧ enN f L b ≤ L := by
  unfold enN
  split
  · omega
  · split
    · exact run_b h
    · split
      · exact run_b h
      · omega
def txS (u : Sto) (t : Nat) (l k b e n w : Int32) : Sto := fun a j => if a = t then (if j = 1 then l else if j = 2 then k else if j = 3 then b else if j = 4 then e else if j = 5 then n else if j = 6 then w else u a j) else u a j
section TX
variable {u : Sto} {t : Nat} {l k b e n w v : Int32}
theorem tx_r1 : txS u t l k b e n w t 1 = l := by simp [txS]
theorem tx_r2 : txS u t l k b e n w t 2 = k := by simp [txS]
theorem tx_r3 : txS u t l k b e n w t 3 = b := by simp [txS]
theorem tx_r4 : txS u t l k b e n w t 4 = e := by simp [txS]
theorem tx_r5 : txS u t l k b e n w t 5 = n := by simp [txS]
theorem tx_r6 : txS u t l k b e n w t 6 = w := by simp [txS]
theorem tx_o {c j : Nat} (h : c ≠ t) : txS u t l k b e n w c j = u c j := by simp [txS, h]
theorem tx_oc {c : Nat} (h : c ≠ t) : txS u t l k b e n w c = u c := funext fun _ => tx_o h
theorem tx_s {j : Nat} (h : 6 < j) : txS u t l k b e n w t j = u t j := by
  have h1 : ¬ j = 1 := by omega
  have h2 : ¬ j = 2 := by omega
  have h3 : ¬ j = 3 := by omega
  have h4 : ¬ j = 4 := by omega
  have h5 : ¬ j = 5 := by omega
  have h6 : ¬ j = 6 := by omega
  simp [txS, h1, h2, h3, h4, h5, h6]
theorem tx_su {c j : Nat} (h : c ≠ t) : su (txS u t l k b e n w) c j v = txS (su u c j v) t l k b e n w := by
  funext a i
  unfold su txS
  by_cases h1 : a = t
  · have hn : ¬ (a = c ∧ i = j) := fun q => h (q.1.symm.trans h1)
    simp only [if_neg hn]
  · simp only [if_neg h1]
theorem tx_su7 {j : Nat} (h : 6 < j) : su (txS u t l k b e n w) t j v = txS (su u t j v) t l k b e n w := by
  funext a i
  unfold su txS
  by_cases h1 : a = t
  · by_cases h2 : i = j
    · subst h2
      have e1 : ¬ i = 1 := by omega
      have e2 : ¬ i = 2 := by omega
      have e3 : ¬ i = 3 := by omega
      have e4 : ¬ i = 4 := by omega
      have e5 : ¬ i = 5 := by omega
      have e6 : ¬ i = 6 := by omega
      simp [h1, e1, e2, e3, e4, e5, e6]
    · simp [h1, h2]
  · simp [h1]
theorem tx_w1 : su (txS u t l k b e n w) t 1 v = txS u t v k b e n w := by
  funext a i; unfold su txS
  by_cases h1 : a = t <;> by_cases h2 : i = 1 <;> simp [h1, h2]
theorem tx_w2 : su (txS u t l k b e n w) t 2 v = txS u t l v b e n w := by
  funext a i; unfold su txS
  by_cases h1 : a = t <;> by_cases h2 : i = 2 <;> simp [h1, h2]
theorem tx_w3 : su (txS u t l k b e n w) t 3 v = txS u t l k v e n w := by
  funext a i; unfold su txS
  by_cases h1 : a = t <;> by_cases h2 : i = 3 <;> simp [h1, h2]
theorem tx_w4 : su (txS u t l k b e n w) t 4 v = txS u t l k b v n w := by
  funext a i; unfold su txS
  by_cases h1 : a = t <;> by_cases h2 : i = 4 <;> simp [h1, h2]
theorem tx_w5 : su (txS u t l k b e n w) t 5 v = txS u t l k b e v w := by
  funext a i; unfold su txS
  by_cases h1 : a = t <;> by_cases h2 : i = 5 <;> simp [h1, h2]
theorem tx_w6 : su (txS u t l k b e n w) t 6 v = txS u t l k b e n v := by
  funext a i; unfold su txS
  by_cases h1 : a = t <;> by_cases h2 : i = 6 <;> simp [h1, h2]
theorem tx_eta : txS u t (u t 1) (u t 2) (u t 3) (u t 4) (u t 5) (u t 6) = u := by
  funext a i; unfold txS
  by_cases h : a = t
  · subst h
    rw [if_pos rfl]
    by_cases h1 : i = 1
    · simp [h1]
    · by_cases h2 : i = 2
      · simp [h2]
      · by_cases h3 : i = 3
        · simp [h3]
        · by_cases h4 : i = 4
          · simp [h4]
          · by_cases h5 : i = 5
            · simp [h5]
            · by_cases h6 : i = 6 <;> simp [h1, h2, h3, h4, h5, h6]
  · rw [if_neg h]
end TX
/-- the text's state at a token's begin -/
abbrev tkS9 (u : Sto) (t : Nat) (f : Nat → Int32) (L b : Nat) (w : Int32) : Sto := txS u t (nI L) (nI (kdN f L b)) (nI b) (nI (enN f L b)) (nmI f L b) w
set_option maxHeartbeats 1000000 in
theorem c_X6_isBetween_159 {E : EE} (p : Nat) (hp : p < 400) (x y : Int32) (v : Sto) (u : Sto) (hu : u 1 = v 1) : Ct E 1 0 yX6_isBetween cX6_isBetween 4 (some .boolean) [.ref (E.ad 159), .int (nI p), .int x, .int y] u (.inl (some (.int (b2 (¬ v 1 p < x ∧ v 1 p ≤ y))))) (u) := by
  refine ct_of (by decide) (Nat.le_of_ble_eq_true rfl) (fun X h hR hrt htab hargs hini => ?_)
  refine g_aload_n h dX6_isBetween_0 rfl rfl ?_
  refine g_getR h fl_X6_9_7 sh_159 (by decide) rfl dX6_isBetween_1 ?_
  refine g_iload_n h dX6_isBetween_4 rfl rfl ?_
  refine g_iald h _ _ _ sh_1 (by decide) (by decide) rfl (by omega) dX6_isBetween_5 ?_
  rw [hu]
  refine g_iload_n h dX6_isBetween_6 rfl rfl ?_
  refine g_icmp_lt (tgt := 24) h dX6_isBetween_7 (by decide) (fun c7 => ?_) (fun c7 => ?_)
  · have hz : ¬ (¬ v 1 p < x ∧ v 1 p ≤ y) := fun q => q.1 c7
    refine g_iconst (v := nI 0) h dX6_isBetween_24 (by decide) ?_
    exact g_zret h hrt dX6_isBetween_25 (by omega) (by first | exact Or.inl rfl | exact Or.inr rfl | simp) (by first | rw [b2_t hz] | rw [b2_f hz]) rfl
  · refine g_aload_n h dX6_isBetween_10 rfl rfl ?_
    refine g_getR h fl_X6_9_7 sh_159 (by decide) rfl dX6_isBetween_11 ?_
    refine g_iload_n h dX6_isBetween_14 rfl rfl ?_
    refine g_iald h _ _ _ sh_1 (by decide) (by decide) rfl (by omega) dX6_isBetween_15 ?_
    rw [hu]
    refine g_iload_n h dX6_isBetween_16 rfl rfl ?_
    refine g_icmp_gt (tgt := 24) h dX6_isBetween_17 (by decide) (fun c17 => ?_) (fun c17 => ?_)
    · have hz : ¬ (¬ v 1 p < x ∧ v 1 p ≤ y) := fun q => absurd c17 (Int32.not_lt.mpr q.2)
      refine g_iconst (v := nI 0) h dX6_isBetween_24 (by decide) ?_
      exact g_zret h hrt dX6_isBetween_25 (by omega) (by first | exact Or.inl rfl | exact Or.inr rfl | simp) (by first | rw [b2_t hz] | rw [b2_f hz]) rfl
    · have hz : ¬ v 1 p < x ∧ v 1 p ≤ y := ⟨c7, Int32.not_lt.mp c17⟩
      refine g_iconst (v := nI 1) h dX6_isBetween_20 (by decide) ?_
      refine g_goto (tgt := 25) h dX6_isBetween_21 (by decide) ?_
      exact g_zret h hrt dX6_isBetween_25 (by omega) (by first | exact Or.inl rfl | exact Or.inr rfl | simp) (by first | rw [b2_t hz] | rw [b2_f hz]) rfl
set_option maxHeartbeats 1000000 in
theorem c_X6_step_159 {E : EE} (k9 b9 n9 w9 : Int32) (L e : Nat) (hL : L ≤ 400) (he : e ≤ L) (u : Sto) : Ct E 2 0 yX6_step cX6_step 1 none [.ref (E.ad 159)] (txS u 159 (nI L) k9 b9 (nI e) n9 w9) (.inl none) (tkS9 u 159 (u 1) L (skp (u 1) L e) w9) := by
  refine ct_of (by decide) (Nat.le_of_ble_eq_true rfl) (fun X h hR hrt htab hargs hini => ?_)
  refine g_aload_n h dX6_step_0 rfl rfl ?_
  refine g_aload_n h dX6_step_1 rfl rfl ?_
  refine g_getI h fl_X6_25_7 sh_159 (by decide) rfl dX6_step_2 ?_
  refine g_top tx_r4 ?_
  refine g_putI h pfl_X6_40_7 sh_159 (by decide) rfl dX6_step_5 ?_
  refine g_sto tx_w3 ?_
  have LP : ∀ j k : Nat, skp (u 1) L e = run spB (u 1) L k → L < k + j → k ≤ L → G E X (QM E X (.inl none) (tkS9 u 159 (u 1) L (skp (u 1) L e) w9) 0) 1 0 8 [(0, .ref (E.ad 159))] [] (txS u 159 (nI L) k9 (nI k) (nI e) n9 w9) := by
    intro j
    induction j with
    | zero => intro k hf h1 h2; omega
    | succ j ih =>
      intro k hf h1 h2
      refine g_aload_n h dX6_step_8 rfl rfl ?_
      refine g_getI h fl_X6_40_7 sh_159 (by decide) rfl dX6_step_9 ?_
      refine g_top tx_r3 ?_
      refine g_aload_n h dX6_step_12 rfl rfl ?_
      refine g_getI h fl_X6_21_7 sh_159 (by decide) rfl dX6_step_13 ?_
      refine g_top tx_r1 ?_
      refine g_icmp_ge (tgt := 46) h dX6_step_16 (by decide) (fun c16 => ?_) (fun c16 => ?_)
      · have n16 := le_n (by omega) (by omega) (show nI (L) ≤ nI (k) from c16)
        have hkL : k = L := by omega
        rw [run_e (fun q => by omega)] at hf
        have hb9 : skp (u 1) L e = k := hf
        refine g_aload_n h dX6_step_46 rfl rfl ?_
        refine g_aload_n h dX6_step_47 rfl rfl ?_
        refine g_getI h fl_X6_40_7 sh_159 (by decide) rfl dX6_step_48 ?_
        refine g_top tx_r3 ?_
        refine g_putI h pfl_X6_25_7 sh_159 (by decide) rfl dX6_step_51 ?_
        refine g_sto tx_w4 ?_
        refine g_aload_n h dX6_step_54 rfl rfl ?_
        refine g_iconst (v := nI 0) h dX6_step_55 (by decide) ?_
        refine g_putI h pfl_X6_37_7 sh_159 (by decide) rfl dX6_step_56 ?_
        refine g_sto tx_w5 ?_
        refine g_aload_n h dX6_step_59 rfl rfl ?_
        refine g_getI h fl_X6_40_7 sh_159 (by decide) rfl dX6_step_60 ?_
        refine g_top tx_r3 ?_
        refine g_aload_n h dX6_step_63 rfl rfl ?_
        refine g_getI h fl_X6_21_7 sh_159 (by decide) rfl dX6_step_64 ?_
        refine g_top tx_r1 ?_
        refine g_icmp_lt (tgt := 78) h dX6_step_67 (by decide) (fun c67 => ?_) (fun c67 => ?_)
        · have n67 := lt_n (by omega) (by omega) (show nI (k) < nI (L) from c67)
          refine g_aload_n h dX6_step_78 rfl rfl ?_
          refine g_aload_n h dX6_step_79 rfl rfl ?_
          refine g_getI h fl_X6_40_7 sh_159 (by decide) rfl dX6_step_80 ?_
          refine g_top tx_r3 ?_
          refine g_bipush (v := nI 97) h dX6_step_83 (by decide) ?_
          refine g_bipush (v := nI 122) h dX6_step_85 (by decide) ?_
          refine g_V h lv_X6_43_X8 sh_159 (by decide) rfl (c_X6_isBetween_159 k (by omega) _ _ u _ (tx_oc (by decide))) (fitR hR (by decide) (by decide) (by omega)) rfl rfl (Nat.le_of_ble_eq_true rfl) dX6_step_87 ?_
          refine g_if_eq (tgt := 137) h dX6_step_90 (by decide) (fun c90 => ?_) (fun c90 => ?_)
          · have d90 : ¬ azB (u 1 k) = true := fun q => b2_0.mp c90 (of_decide_eq_true q)
            refine g_aload_n h dX6_step_137 rfl rfl ?_
            refine g_aload_n h dX6_step_138 rfl rfl ?_
            refine g_getI h fl_X6_40_7 sh_159 (by decide) rfl dX6_step_139 ?_
            refine g_top tx_r3 ?_
            refine g_bipush (v := nI 48) h dX6_step_142 (by decide) ?_
            refine g_bipush (v := nI 57) h dX6_step_144 (by decide) ?_
            refine g_V h lv_X6_43_X8 sh_159 (by decide) rfl (c_X6_isBetween_159 k (by omega) _ _ u _ (tx_oc (by decide))) (fitR hR (by decide) (by decide) (by omega)) rfl rfl (Nat.le_of_ble_eq_true rfl) dX6_step_146 ?_
            refine g_if_eq (tgt := 220) h dX6_step_149 (by decide) (fun c149 => ?_) (fun c149 => ?_)
            · have d149 : ¬ dgB (u 1 k) = true := fun q => b2_0.mp c149 (of_decide_eq_true q)
              have hkd : kdN (u 1) L k = 3 := by rw [kdN, if_neg (by omega), if_neg d90, if_neg d149]
              have hnm : nmI (u 1) L k = nI 0 := if_neg (by rw [hkd]; decide)
              have hen : enN (u 1) L k = k + 1 := by rw [enN, if_neg (by omega), if_neg d90, if_neg d149]
              refine g_aload_n h dX6_step_220 rfl rfl ?_
              refine g_iconst (v := nI 3) h dX6_step_221 (by decide) ?_
              refine g_putI h pfl_X6_34_7 sh_159 (by decide) rfl dX6_step_222 ?_
              refine g_sto tx_w2 ?_
              refine g_aload_n h dX6_step_225 rfl rfl ?_
              refine g_dup h dX6_step_226 rfl ?_
              refine g_getI h fl_X6_25_7 sh_159 (by decide) rfl dX6_step_227 ?_
              refine g_top tx_r4 ?_
              refine g_iconst (v := nI 1) h dX6_step_230 (by decide) ?_
              refine g_iadd h dX6_step_231 ?_
              refine g_top (nI_add k 1) ?_
              refine g_putI h pfl_X6_25_7 sh_159 (by decide) rfl dX6_step_232 ?_
              refine g_sto tx_w4 ?_
              exact g_vret h hrt dX6_step_235 (by omega) rfl (by rw [tkS9, hb9, hkd, hen, hnm])
            · have d149 : dgB (u 1 k) = true := decide_eq_true (b2_n0.mp c149)
              have hkd : kdN (u 1) L k = 2 := by rw [kdN, if_neg (by omega), if_neg d90, if_pos d149]
              have hen : enN (u 1) L k = run dgB (u 1) L k := by rw [enN, if_neg (by omega), if_neg d90, if_pos d149]
              have hnm : nmI (u 1) L k = nuF (u 1) k (enN (u 1) L k - k) := if_pos hkd
              refine g_aload_n h dX6_step_152 rfl rfl ?_
              refine g_iconst (v := nI 2) h dX6_step_153 (by decide) ?_
              refine g_putI h pfl_X6_34_7 sh_159 (by decide) rfl dX6_step_154 ?_
              refine g_sto tx_w2 ?_
              have LP3 : ∀ j9 k2 : Nat, k ≤ k2 → run dgB (u 1) L k = run dgB (u 1) L k2 → L < k2 + j9 → k2 ≤ L → G E X (QM E X (.inl none) (tkS9 u 159 (u 1) L (skp (u 1) L e) w9) 0) 1 0 157 [(0, .ref (E.ad 159))] [] (txS u 159 (nI L) (nI 2) (nI k) (nI k2) (nuF (u 1) k (k2 - k)) w9) := by
                intro j9
                induction j9 with
                | zero => intro k2 hk2 hr h1 h2; omega
                | succ j9 ih2 =>
                  intro k2 hk2 hr h1 h2
                  refine g_aload_n h dX6_step_157 rfl rfl ?_
                  refine g_getI h fl_X6_25_7 sh_159 (by decide) rfl dX6_step_158 ?_
                  refine g_top tx_r4 ?_
                  refine g_aload_n h dX6_step_161 rfl rfl ?_
                  refine g_getI h fl_X6_21_7 sh_159 (by decide) rfl dX6_step_162 ?_
                  refine g_top tx_r1 ?_
                  refine g_icmp_ge (tgt := 235) h dX6_step_165 (by decide) (fun c165 => ?_) (fun c165 => ?_)
                  · have n165 := le_n (by omega) (by omega) (show nI (L) ≤ nI (k2) from c165)
                    have hkL2 : k2 = L := by omega
                    rw [run_e (p := k2) (fun q => by omega)] at hr
                    exact g_vret h hrt dX6_step_235 (by omega) rfl (by rw [tkS9, hb9, hkd, hen, hnm, hen, hr])
                  · have n165 := nle_n (by omega) (by omega) (show ¬ nI (L) ≤ nI (k2) from c165)
                    refine g_aload_n h dX6_step_168 rfl rfl ?_
                    refine g_aload_n h dX6_step_169 rfl rfl ?_
                    refine g_getI h fl_X6_25_7 sh_159 (by decide) rfl dX6_step_170 ?_
                    refine g_top tx_r4 ?_
                    refine g_bipush (v := nI 48) h dX6_step_173 (by decide) ?_
                    refine g_bipush (v := nI 57) h dX6_step_175 (by decide) ?_
                    refine g_V h lv_X6_43_X8 sh_159 (by decide) rfl (c_X6_isBetween_159 k2 (by omega) _ _ u _ (tx_oc (by decide))) (fitR hR (by decide) (by decide) (by omega)) rfl rfl (Nat.le_of_ble_eq_true rfl) dX6_step_177 ?_
                    refine g_if_eq (tgt := 235) h dX6_step_180 (by decide) (fun c180 => ?_) (fun c180 => ?_)
                    · rw [run_e (p := k2) (fun q => b2_0.mp c180 (of_decide_eq_true q.2))] at hr
                      exact g_vret h hrt dX6_step_235 (by omega) rfl (by rw [tkS9, hb9, hkd, hen, hnm, hen, hr])
                    · rw [run_s (p := k2) n165 (decide_eq_true (b2_n0.mp c180))] at hr
                      refine g_aload_n h dX6_step_183 rfl rfl ?_
                      refine g_aload_n h dX6_step_184 rfl rfl ?_
                      refine g_getI h fl_X6_37_7 sh_159 (by decide) rfl dX6_step_185 ?_
                      refine g_top tx_r5 ?_
                      refine g_bipush (v := nI 10) h dX6_step_188 (by decide) ?_
                      refine g_imul h dX6_step_190 ?_
                      refine g_aload_n h dX6_step_191 rfl rfl ?_
                      refine g_getR h fl_X6_9_7 sh_159 (by decide) rfl dX6_step_192 ?_
                      refine g_aload_n h dX6_step_195 rfl rfl ?_
                      refine g_getI h fl_X6_25_7 sh_159 (by decide) rfl dX6_step_196 ?_
                      refine g_top tx_r4 ?_
                      refine g_iald h _ _ _ sh_1 (by decide) (by decide) rfl (by omega) dX6_step_199 ?_
                      refine g_top (tx_o (by decide)) ?_
                      refine g_iadd h dX6_step_200 ?_
                      refine g_bipush (v := nI 48) h dX6_step_201 (by decide) ?_
                      refine g_isub h dX6_step_203 ?_
                      refine g_top (y := nuF (u 1) k (k2 + 1 - k)) (by rw [show k2 + 1 - k = (k2 - k) + 1 by omega, nuF, show k + (k2 - k) = k2 by omega]) ?_
                      refine g_putI h pfl_X6_37_7 sh_159 (by decide) rfl dX6_step_204 ?_
                      refine g_sto tx_w5 ?_
                      refine g_aload_n h dX6_step_207 rfl rfl ?_
                      refine g_dup h dX6_step_208 rfl ?_
                      refine g_getI h fl_X6_25_7 sh_159 (by decide) rfl dX6_step_209 ?_
                      refine g_top tx_r4 ?_
                      refine g_iconst (v := nI 1) h dX6_step_212 (by decide) ?_
                      refine g_iadd h dX6_step_213 ?_
                      refine g_top (nI_add k2 1) ?_
                      refine g_putI h pfl_X6_25_7 sh_159 (by decide) rfl dX6_step_214 ?_
                      refine g_sto tx_w4 ?_
                      refine g_goto (tgt := 157) h dX6_step_217 (by decide) ?_
                      exact ih2 (k2 + 1) (by omega) hr (by omega) (by omega)
              exact g_cv rfl (by rw [Nat.sub_self]; rfl) (LP3 (L + 1) k (Nat.le_refl _) rfl (by omega) (by omega))
              
          · have d90 : azB (u 1 k) = true := decide_eq_true (b2_n0.mp c90)
            have hkd : kdN (u 1) L k = 1 := by rw [kdN, if_neg (by omega), if_pos d90]
            have hnm : nmI (u 1) L k = nI 0 := if_neg (by rw [hkd]; decide)
            have hen : enN (u 1) L k = run azB (u 1) L k := by rw [enN, if_neg (by omega), if_pos d90]
            refine g_aload_n h dX6_step_93 rfl rfl ?_
            refine g_iconst (v := nI 1) h dX6_step_94 (by decide) ?_
            refine g_putI h pfl_X6_34_7 sh_159 (by decide) rfl dX6_step_95 ?_
            refine g_sto tx_w2 ?_
            have LP2 : ∀ j9 k2 : Nat, run azB (u 1) L k = run azB (u 1) L k2 → L < k2 + j9 → k2 ≤ L → G E X (QM E X (.inl none) (tkS9 u 159 (u 1) L (skp (u 1) L e) w9) 0) 1 0 98 [(0, .ref (E.ad 159))] [] (txS u 159 (nI L) (nI 1) (nI k) (nI k2) (nI 0) w9) := by
              intro j9
              induction j9 with
              | zero => intro k2 hr h1 h2; omega
              | succ j9 ih2 =>
                intro k2 hr h1 h2
                refine g_aload_n h dX6_step_98 rfl rfl ?_
                refine g_getI h fl_X6_25_7 sh_159 (by decide) rfl dX6_step_99 ?_
                refine g_top tx_r4 ?_
                refine g_aload_n h dX6_step_102 rfl rfl ?_
                refine g_getI h fl_X6_21_7 sh_159 (by decide) rfl dX6_step_103 ?_
                refine g_top tx_r1 ?_
                refine g_icmp_ge (tgt := 235) h dX6_step_106 (by decide) (fun c106 => ?_) (fun c106 => ?_)
                · have n106 := le_n (by omega) (by omega) (show nI (L) ≤ nI (k2) from c106)
                  have hkL2 : k2 = L := by omega
                  rw [run_e (p := k2) (fun q => by omega)] at hr
                  exact g_vret h hrt dX6_step_235 (by omega) rfl (by rw [tkS9, hb9, hkd, hen, hnm, hr])
                · have n106 := nle_n (by omega) (by omega) (show ¬ nI (L) ≤ nI (k2) from c106)
                  refine g_aload_n h dX6_step_109 rfl rfl ?_
                  refine g_aload_n h dX6_step_110 rfl rfl ?_
                  refine g_getI h fl_X6_25_7 sh_159 (by decide) rfl dX6_step_111 ?_
                  refine g_top tx_r4 ?_
                  refine g_bipush (v := nI 97) h dX6_step_114 (by decide) ?_
                  refine g_bipush (v := nI 122) h dX6_step_116 (by decide) ?_
                  refine g_V h lv_X6_43_X8 sh_159 (by decide) rfl (c_X6_isBetween_159 k2 (by omega) _ _ u _ (tx_oc (by decide))) (fitR hR (by decide) (by decide) (by omega)) rfl rfl (Nat.le_of_ble_eq_true rfl) dX6_step_118 ?_
                  refine g_if_eq (tgt := 235) h dX6_step_121 (by decide) (fun c121 => ?_) (fun c121 => ?_)
                  · rw [run_e (p := k2) (fun q => b2_0.mp c121 (of_decide_eq_true q.2))] at hr
                    exact g_vret h hrt dX6_step_235 (by omega) rfl (by rw [tkS9, hb9, hkd, hen, hnm, hr])
                  · rw [run_s (p := k2) n106 (decide_eq_true (b2_n0.mp c121))] at hr
                    refine g_aload_n h dX6_step_124 rfl rfl ?_
                    refine g_dup h dX6_step_125 rfl ?_
                    refine g_getI h fl_X6_25_7 sh_159 (by decide) rfl dX6_step_126 ?_
                    refine g_top tx_r4 ?_
                    refine g_iconst (v := nI 1) h dX6_step_129 (by decide) ?_
                    refine g_iadd h dX6_step_130 ?_
                    refine g_top (nI_add k2 1) ?_
                    refine g_putI h pfl_X6_25_7 sh_159 (by decide) rfl dX6_step_131 ?_
                    refine g_sto tx_w4 ?_
                    refine g_goto (tgt := 98) h dX6_step_134 (by decide) ?_
                    exact ih2 (k2 + 1) hr (by omega) (by omega)
            exact LP2 (L + 1) k rfl (by omega) (by omega)
            
        · have n67 := nlt_n (by omega) (by omega) (show ¬ nI (k) < nI (L) from c67)
          have hkd : kdN (u 1) L k = 0 := if_pos n67
          have hen : enN (u 1) L k = k := if_pos n67
          have hnm : nmI (u 1) L k = nI 0 := if_neg (by rw [hkd]; decide)
          refine g_aload_n h dX6_step_70 rfl rfl ?_
          refine g_iconst (v := nI 0) h dX6_step_71 (by decide) ?_
          refine g_putI h pfl_X6_34_7 sh_159 (by decide) rfl dX6_step_72 ?_
          refine g_sto tx_w2 ?_
          refine g_goto (tgt := 235) h dX6_step_75 (by decide) ?_
          exact g_vret h hrt dX6_step_235 (by omega) rfl (by rw [tkS9, hb9, hkd, hen, hnm])
        
      · have n16 := nle_n (by omega) (by omega) (show ¬ nI (L) ≤ nI (k) from c16)
        refine g_aload_n h dX6_step_19 rfl rfl ?_
        refine g_getR h fl_X6_9_7 sh_159 (by decide) rfl dX6_step_20 ?_
        refine g_aload_n h dX6_step_23 rfl rfl ?_
        refine g_getI h fl_X6_40_7 sh_159 (by decide) rfl dX6_step_24 ?_
        refine g_top tx_r3 ?_
        refine g_iald h _ _ _ sh_1 (by decide) (by decide) rfl (by omega) dX6_step_27 ?_
        refine g_top (tx_o (by decide)) ?_
        refine g_bipush (v := nI 32) h dX6_step_28 (by decide) ?_
        refine g_icmp_ne (tgt := 46) h dX6_step_30 (by decide) (fun c30 => ?_) (fun c30 => ?_)
        · rw [run_e (fun q => c30 (of_decide_eq_true q.2))] at hf
          have hb9 : skp (u 1) L e = k := hf
          refine g_aload_n h dX6_step_46 rfl rfl ?_
          refine g_aload_n h dX6_step_47 rfl rfl ?_
          refine g_getI h fl_X6_40_7 sh_159 (by decide) rfl dX6_step_48 ?_
          refine g_top tx_r3 ?_
          refine g_putI h pfl_X6_25_7 sh_159 (by decide) rfl dX6_step_51 ?_
          refine g_sto tx_w4 ?_
          refine g_aload_n h dX6_step_54 rfl rfl ?_
          refine g_iconst (v := nI 0) h dX6_step_55 (by decide) ?_
          refine g_putI h pfl_X6_37_7 sh_159 (by decide) rfl dX6_step_56 ?_
          refine g_sto tx_w5 ?_
          refine g_aload_n h dX6_step_59 rfl rfl ?_
          refine g_getI h fl_X6_40_7 sh_159 (by decide) rfl dX6_step_60 ?_
          refine g_top tx_r3 ?_
          refine g_aload_n h dX6_step_63 rfl rfl ?_
          refine g_getI h fl_X6_21_7 sh_159 (by decide) rfl dX6_step_64 ?_
          refine g_top tx_r1 ?_
          refine g_icmp_lt (tgt := 78) h dX6_step_67 (by decide) (fun c67 => ?_) (fun c67 => ?_)
          · have n67 := lt_n (by omega) (by omega) (show nI (k) < nI (L) from c67)
            refine g_aload_n h dX6_step_78 rfl rfl ?_
            refine g_aload_n h dX6_step_79 rfl rfl ?_
            refine g_getI h fl_X6_40_7 sh_159 (by decide) rfl dX6_step_80 ?_
            refine g_top tx_r3 ?_
            refine g_bipush (v := nI 97) h dX6_step_83 (by decide) ?_
            refine g_bipush (v := nI 122) h dX6_step_85 (by decide) ?_
            refine g_V h lv_X6_43_X8 sh_159 (by decide) rfl (c_X6_isBetween_159 k (by omega) _ _ u _ (tx_oc (by decide))) (fitR hR (by decide) (by decide) (by omega)) rfl rfl (Nat.le_of_ble_eq_true rfl) dX6_step_87 ?_
            refine g_if_eq (tgt := 137) h dX6_step_90 (by decide) (fun c90 => ?_) (fun c90 => ?_)
            · have d90 : ¬ azB (u 1 k) = true := fun q => b2_0.mp c90 (of_decide_eq_true q)
              refine g_aload_n h dX6_step_137 rfl rfl ?_
              refine g_aload_n h dX6_step_138 rfl rfl ?_
              refine g_getI h fl_X6_40_7 sh_159 (by decide) rfl dX6_step_139 ?_
              refine g_top tx_r3 ?_
              refine g_bipush (v := nI 48) h dX6_step_142 (by decide) ?_
              refine g_bipush (v := nI 57) h dX6_step_144 (by decide) ?_
              refine g_V h lv_X6_43_X8 sh_159 (by decide) rfl (c_X6_isBetween_159 k (by omega) _ _ u _ (tx_oc (by decide))) (fitR hR (by decide) (by decide) (by omega)) rfl rfl (Nat.le_of_ble_eq_true rfl) dX6_step_146 ?_
              refine g_if_eq (tgt := 220) h dX6_step_149 (by decide) (fun c149 => ?_) (fun c149 => ?_)
              · have d149 : ¬ dgB (u 1 k) = true := fun q => b2_0.mp c149 (of_decide_eq_true q)
                have hkd : kdN (u 1) L k = 3 := by rw [kdN, if_neg (by omega), if_neg d90, if_neg d149]
                have hnm : nmI (u 1) L k = nI 0 := if_neg (by rw [hkd]; decide)
                have hen : enN (u 1) L k = k + 1 := by rw [enN, if_neg (by omega), if_neg d90, if_neg d149]
                refine g_aload_n h dX6_step_220 rfl rfl ?_
                refine g_iconst (v := nI 3) h dX6_step_221 (by decide) ?_
                refine g_putI h pfl_X6_34_7 sh_159 (by decide) rfl dX6_step_222 ?_
                refine g_sto tx_w2 ?_
                refine g_aload_n h dX6_step_225 rfl rfl ?_
                refine g_dup h dX6_step_226 rfl ?_
                refine g_getI h fl_X6_25_7 sh_159 (by decide) rfl dX6_step_227 ?_
                refine g_top tx_r4 ?_
                refine g_iconst (v := nI 1) h dX6_step_230 (by decide) ?_
                refine g_iadd h dX6_step_231 ?_
                refine g_top (nI_add k 1) ?_
                refine g_putI h pfl_X6_25_7 sh_159 (by decide) rfl dX6_step_232 ?_
                refine g_sto tx_w4 ?_
                exact g_vret h hrt dX6_step_235 (by omega) rfl (by rw [tkS9, hb9, hkd, hen, hnm])
              · have d149 : dgB (u 1 k) = true := decide_eq_true (b2_n0.mp c149)
                have hkd : kdN (u 1) L k = 2 := by rw [kdN, if_neg (by omega), if_neg d90, if_pos d149]
                have hen : enN (u 1) L k = run dgB (u 1) L k := by rw [enN, if_neg (by omega), if_neg d90, if_pos d149]
                have hnm : nmI (u 1) L k = nuF (u 1) k (enN (u 1) L k - k) := if_pos hkd
                refine g_aload_n h dX6_step_152 rfl rfl ?_
                refine g_iconst (v := nI 2) h dX6_step_153 (by decide) ?_
                refine g_putI h pfl_X6_34_7 sh_159 (by decide) rfl dX6_step_154 ?_
                refine g_sto tx_w2 ?_
                have LP3 : ∀ j9 k2 : Nat, k ≤ k2 → run dgB (u 1) L k = run dgB (u 1) L k2 → L < k2 + j9 → k2 ≤ L → G E X (QM E X (.inl none) (tkS9 u 159 (u 1) L (skp (u 1) L e) w9) 0) 1 0 157 [(0, .ref (E.ad 159))] [] (txS u 159 (nI L) (nI 2) (nI k) (nI k2) (nuF (u 1) k (k2 - k)) w9) := by
                  intro j9
                  induction j9 with
                  | zero => intro k2 hk2 hr h1 h2; omega
                  | succ j9 ih2 =>
                    intro k2 hk2 hr h1 h2
                    refine g_aload_n h dX6_step_157 rfl rfl ?_
                    refine g_getI h fl_X6_25_7 sh_159 (by decide) rfl dX6_step_158 ?_
                    refine g_top tx_r4 ?_
                    refine g_aload_n h dX6_step_161 rfl rfl ?_
                    refine g_getI h fl_X6_21_7 sh_159 (by decide) rfl dX6_step_162 ?_
                    refine g_top tx_r1 ?_
                    refine g_icmp_ge (tgt := 235) h dX6_step_165 (by decide) (fun c165 => ?_) (fun c165 => ?_)
                    · have n165 := le_n (by omega) (by omega) (show nI (L) ≤ nI (k2) from c165)
                      have hkL2 : k2 = L := by omega
                      rw [run_e (p := k2) (fun q => by omega)] at hr
                      exact g_vret h hrt dX6_step_235 (by omega) rfl (by rw [tkS9, hb9, hkd, hen, hnm, hen, hr])
                    · have n165 := nle_n (by omega) (by omega) (show ¬ nI (L) ≤ nI (k2) from c165)
                      refine g_aload_n h dX6_step_168 rfl rfl ?_
                      refine g_aload_n h dX6_step_169 rfl rfl ?_
                      refine g_getI h fl_X6_25_7 sh_159 (by decide) rfl dX6_step_170 ?_
                      refine g_top tx_r4 ?_
                      refine g_bipush (v := nI 48) h dX6_step_173 (by decide) ?_
                      refine g_bipush (v := nI 57) h dX6_step_175 (by decide) ?_
                      refine g_V h lv_X6_43_X8 sh_159 (by decide) rfl (c_X6_isBetween_159 k2 (by omega) _ _ u _ (tx_oc (by decide))) (fitR hR (by decide) (by decide) (by omega)) rfl rfl (Nat.le_of_ble_eq_true rfl) dX6_step_177 ?_
                      refine g_if_eq (tgt := 235) h dX6_step_180 (by decide) (fun c180 => ?_) (fun c180 => ?_)
                      · rw [run_e (p := k2) (fun q => b2_0.mp c180 (of_decide_eq_true q.2))] at hr
                        exact g_vret h hrt dX6_step_235 (by omega) rfl (by rw [tkS9, hb9, hkd, hen, hnm, hen, hr])
                      · rw [run_s (p := k2) n165 (decide_eq_true (b2_n0.mp c180))] at hr
                        refine g_aload_n h dX6_step_183 rfl rfl ?_
                        refine g_aload_n h dX6_step_184 rfl rfl ?_
                        refine g_getI h fl_X6_37_7 sh_159 (by decide) rfl dX6_step_185 ?_
                        refine g_top tx_r5 ?_
                        refine g_bipush (v := nI 10) h dX6_step_188 (by decide) ?_
                        refine g_imul h dX6_step_190 ?_
                        refine g_aload_n h dX6_step_191 rfl rfl ?_
                        refine g_getR h fl_X6_9_7 sh_159 (by decide) rfl dX6_step_192 ?_
                        refine g_aload_n h dX6_step_195 rfl rfl ?_
                        refine g_getI h fl_X6_25_7 sh_159 (by decide) rfl dX6_step_196 ?_
                        refine g_top tx_r4 ?_
                        refine g_iald h _ _ _ sh_1 (by decide) (by decide) rfl (by omega) dX6_step_199 ?_
                        refine g_top (tx_o (by decide)) ?_
                        refine g_iadd h dX6_step_200 ?_
                        refine g_bipush (v := nI 48) h dX6_step_201 (by decide) ?_
                        refine g_isub h dX6_step_203 ?_
                        refine g_top (y := nuF (u 1) k (k2 + 1 - k)) (by rw [show k2 + 1 - k = (k2 - k) + 1 by omega, nuF, show k + (k2 - k) = k2 by omega]) ?_
                        refine g_putI h pfl_X6_37_7 sh_159 (by decide) rfl dX6_step_204 ?_
                        refine g_sto tx_w5 ?_
                        refine g_aload_n h dX6_step_207 rfl rfl ?_
                        refine g_dup h dX6_step_208 rfl ?_
                        refine g_getI h fl_X6_25_7 sh_159 (by decide) rfl dX6_step_209 ?_
                        refine g_top tx_r4 ?_
                        refine g_iconst (v := nI 1) h dX6_step_212 (by decide) ?_
                        refine g_iadd h dX6_step_213 ?_
                        refine g_top (nI_add k2 1) ?_
                        refine g_putI h pfl_X6_25_7 sh_159 (by decide) rfl dX6_step_214 ?_
                        refine g_sto tx_w4 ?_
                        refine g_goto (tgt := 157) h dX6_step_217 (by decide) ?_
                        exact ih2 (k2 + 1) (by omega) hr (by omega) (by omega)
                exact g_cv rfl (by rw [Nat.sub_self]; rfl) (LP3 (L + 1) k (Nat.le_refl _) rfl (by omega) (by omega))
                
            · have d90 : azB (u 1 k) = true := decide_eq_true (b2_n0.mp c90)
              have hkd : kdN (u 1) L k = 1 := by rw [kdN, if_neg (by omega), if_pos d90]
              have hnm : nmI (u 1) L k = nI 0 := if_neg (by rw [hkd]; decide)
              have hen : enN (u 1) L k = run azB (u 1) L k := by rw [enN, if_neg (by omega), if_pos d90]
              refine g_aload_n h dX6_step_93 rfl rfl ?_
              refine g_iconst (v := nI 1) h dX6_step_94 (by decide) ?_
              refine g_putI h pfl_X6_34_7 sh_159 (by decide) rfl dX6_step_95 ?_
              refine g_sto tx_w2 ?_
              have LP2 : ∀ j9 k2 : Nat, run azB (u 1) L k = run azB (u 1) L k2 → L < k2 + j9 → k2 ≤ L → G E X (QM E X (.inl none) (tkS9 u 159 (u 1) L (skp (u 1) L e) w9) 0) 1 0 98 [(0, .ref (E.ad 159))] [] (txS u 159 (nI L) (nI 1) (nI k) (nI k2) (nI 0) w9) := by
                intro j9
                induction j9 with
                | zero => intro k2 hr h1 h2; omega
                | succ j9 ih2 =>
                  intro k2 hr h1 h2
                  refine g_aload_n h dX6_step_98 rfl rfl ?_
                  refine g_getI h fl_X6_25_7 sh_159 (by decide) rfl dX6_step_99 ?_
                  refine g_top tx_r4 ?_
                  refine g_aload_n h dX6_step_102 rfl rfl ?_
                  refine g_getI h fl_X6_21_7 sh_159 (by decide) rfl dX6_step_103 ?_
                  refine g_top tx_r1 ?_
                  refine g_icmp_ge (tgt := 235) h dX6_step_106 (by decide) (fun c106 => ?_) (fun c106 => ?_)
                  · have n106 := le_n (by omega) (by omega) (show nI (L) ≤ nI (k2) from c106)
                    have hkL2 : k2 = L := by omega
                    rw [run_e (p := k2) (fun q => by omega)] at hr
                    exact g_vret h hrt dX6_step_235 (by omega) rfl (by rw [tkS9, hb9, hkd, hen, hnm, hr])
                  · have n106 := nle_n (by omega) (by omega) (show ¬ nI (L) ≤ nI (k2) from c106)
                    refine g_aload_n h dX6_step_109 rfl rfl ?_
                    refine g_aload_n h dX6_step_110 rfl rfl ?_
                    refine g_getI h fl_X6_25_7 sh_159 (by decide) rfl dX6_step_111 ?_
                    refine g_top tx_r4 ?_
                    refine g_bipush (v := nI 97) h dX6_step_114 (by decide) ?_
                    refine g_bipush (v := nI 122) h dX6_step_116 (by decide) ?_
                    refine g_V h lv_X6_43_X8 sh_159 (by decide) rfl (c_X6_isBetween_159 k2 (by omega) _ _ u _ (tx_oc (by decide))) (fitR hR (by decide) (by decide) (by omega)) rfl rfl (Nat.le_of_ble_eq_true rfl) dX6_step_118 ?_
                    refine g_if_eq (tgt := 235) h dX6_step_121 (by decide) (fun c121 => ?_) (fun c121 => ?_)
                    · rw [run_e (p := k2) (fun q => b2_0.mp c121 (of_decide_eq_true q.2))] at hr
                      exact g_vret h hrt dX6_step_235 (by omega) rfl (by rw [tkS9, hb9, hkd, hen, hnm, hr])
                    · rw [run_s (p := k2) n106 (decide_eq_true (b2_n0.mp c121))] at hr
                      refine g_aload_n h dX6_step_124 rfl rfl ?_
                      refine g_dup h dX6_step_125 rfl ?_
                      refine g_getI h fl_X6_25_7 sh_159 (by decide) rfl dX6_step_126 ?_
                      refine g_top tx_r4 ?_
                      refine g_iconst (v := nI 1) h dX6_step_129 (by decide) ?_
                      refine g_iadd h dX6_step_130 ?_
                      refine g_top (nI_add k2 1) ?_
                      refine g_putI h pfl_X6_25_7 sh_159 (by decide) rfl dX6_step_131 ?_
                      refine g_sto tx_w4 ?_
                      refine g_goto (tgt := 98) h dX6_step_134 (by decide) ?_
                      exact ih2 (k2 + 1) hr (by omega) (by omega)
              exact LP2 (L + 1) k rfl (by omega) (by omega)
              
          · have n67 := nlt_n (by omega) (by omega) (show ¬ nI (k) < nI (L) from c67)
            have hkd : kdN (u 1) L k = 0 := if_pos n67
            have hen : enN (u 1) L k = k := if_pos n67
            have hnm : nmI (u 1) L k = nI 0 := if_neg (by rw [hkd]; decide)
            refine g_aload_n h dX6_step_70 rfl rfl ?_
            refine g_iconst (v := nI 0) h dX6_step_71 (by decide) ?_
            refine g_putI h pfl_X6_34_7 sh_159 (by decide) rfl dX6_step_72 ?_
            refine g_sto tx_w2 ?_
            refine g_goto (tgt := 235) h dX6_step_75 (by decide) ?_
            exact g_vret h hrt dX6_step_235 (by omega) rfl (by rw [tkS9, hb9, hkd, hen, hnm])
          
        · rw [run_s n16 (decide_eq_true c30)] at hf
          refine g_aload_n h dX6_step_33 rfl rfl ?_
          refine g_dup h dX6_step_34 rfl ?_
          refine g_getI h fl_X6_40_7 sh_159 (by decide) rfl dX6_step_35 ?_
          refine g_top tx_r3 ?_
          refine g_iconst (v := nI 1) h dX6_step_38 (by decide) ?_
          refine g_iadd h dX6_step_39 ?_
          refine g_top (nI_add k 1) ?_
          refine g_putI h pfl_X6_40_7 sh_159 (by decide) rfl dX6_step_40 ?_
          refine g_sto tx_w3 ?_
          refine g_goto (tgt := 8) h dX6_step_43 (by decide) ?_
          exact ih (k + 1) hf (by omega) (by omega)
  exact LP (L + 1) e rfl (by omega) (by omega)
  
set_option maxHeartbeats 1000000 in
theorem c_X6_isBetween_160 {E : EE} (p : Nat) (hp : p < 400) (x y : Int32) (v : Sto) (u : Sto) (hu : u 1 = v 1) : Ct E 1 0 yX6_isBetween cX6_isBetween 4 (some .boolean) [.ref (E.ad 160), .int (nI p), .int x, .int y] u (.inl (some (.int (b2 (¬ v 1 p < x ∧ v 1 p ≤ y))))) (u) := by
  refine ct_of (by decide) (Nat.le_of_ble_eq_true rfl) (fun X h hR hrt htab hargs hini => ?_)
  refine g_aload_n h dX6_isBetween_0 rfl rfl ?_
  refine g_getR h fl_X6_9_3 sh_160 (by decide) rfl dX6_isBetween_1 ?_
  refine g_iload_n h dX6_isBetween_4 rfl rfl ?_
  refine g_iald h _ _ _ sh_1 (by decide) (by decide) rfl (by omega) dX6_isBetween_5 ?_
  rw [hu]
  refine g_iload_n h dX6_isBetween_6 rfl rfl ?_
  refine g_icmp_lt (tgt := 24) h dX6_isBetween_7 (by decide) (fun c7 => ?_) (fun c7 => ?_)
  · have hz : ¬ (¬ v 1 p < x ∧ v 1 p ≤ y) := fun q => q.1 c7
    refine g_iconst (v := nI 0) h dX6_isBetween_24 (by decide) ?_
    exact g_zret h hrt dX6_isBetween_25 (by omega) (by first | exact Or.inl rfl | exact Or.inr rfl | simp) (by first | rw [b2_t hz] | rw [b2_f hz]) rfl
  · refine g_aload_n h dX6_isBetween_10 rfl rfl ?_
    refine g_getR h fl_X6_9_3 sh_160 (by decide) rfl dX6_isBetween_11 ?_
    refine g_iload_n h dX6_isBetween_14 rfl rfl ?_
    refine g_iald h _ _ _ sh_1 (by decide) (by decide) rfl (by omega) dX6_isBetween_15 ?_
    rw [hu]
    refine g_iload_n h dX6_isBetween_16 rfl rfl ?_
    refine g_icmp_gt (tgt := 24) h dX6_isBetween_17 (by decide) (fun c17 => ?_) (fun c17 => ?_)
    · have hz : ¬ (¬ v 1 p < x ∧ v 1 p ≤ y) := fun q => absurd c17 (Int32.not_lt.mpr q.2)
      refine g_iconst (v := nI 0) h dX6_isBetween_24 (by decide) ?_
      exact g_zret h hrt dX6_isBetween_25 (by omega) (by first | exact Or.inl rfl | exact Or.inr rfl | simp) (by first | rw [b2_t hz] | rw [b2_f hz]) rfl
    · have hz : ¬ v 1 p < x ∧ v 1 p ≤ y := ⟨c7, Int32.not_lt.mp c17⟩
      refine g_iconst (v := nI 1) h dX6_isBetween_20 (by decide) ?_
      refine g_goto (tgt := 25) h dX6_isBetween_21 (by decide) ?_
      exact g_zret h hrt dX6_isBetween_25 (by omega) (by first | exact Or.inl rfl | exact Or.inr rfl | simp) (by first | rw [b2_t hz] | rw [b2_f hz]) rfl
set_option maxHeartbeats 1000000 in
theorem c_X6_step_160 {E : EE} (k9 b9 n9 w9 : Int32) (L e : Nat) (hL : L ≤ 400) (he : e ≤ L) (u : Sto) : Ct E 2 0 yX6_step cX6_step 1 none [.ref (E.ad 160)] (txS u 160 (nI L) k9 b9 (nI e) n9 w9) (.inl none) (tkS9 u 160 (u 1) L (skp (u 1) L e) w9) := by
  refine ct_of (by decide) (Nat.le_of_ble_eq_true rfl) (fun X h hR hrt htab hargs hini => ?_)
  refine g_aload_n h dX6_step_0 rfl rfl ?_
  refine g_aload_n h dX6_step_1 rfl rfl ?_
  refine g_getI h fl_X6_25_3 sh_160 (by decide) rfl dX6_step_2 ?_
  refine g_top tx_r4 ?_
  refine g_putI h pfl_X6_40_3 sh_160 (by decide) rfl dX6_step_5 ?_
  refine g_sto tx_w3 ?_
  have LP : ∀ j k : Nat, skp (u 1) L e = run spB (u 1) L k → L < k + j → k ≤ L → G E X (QM E X (.inl none) (tkS9 u 160 (u 1) L (skp (u 1) L e) w9) 0) 1 0 8 [(0, .ref (E.ad 160))] [] (txS u 160 (nI L) k9 (nI k) (nI e) n9 w9) := by
    intro j
    induction j with
    | zero => intro k hf h1 h2; omega
    | succ j ih =>
      intro k hf h1 h2
      refine g_aload_n h dX6_step_8 rfl rfl ?_
      refine g_getI h fl_X6_40_3 sh_160 (by decide) rfl dX6_step_9 ?_
      refine g_top tx_r3 ?_
      refine g_aload_n h dX6_step_12 rfl rfl ?_
      refine g_getI h fl_X6_21_3 sh_160 (by decide) rfl dX6_step_13 ?_
      refine g_top tx_r1 ?_
      refine g_icmp_ge (tgt := 46) h dX6_step_16 (by decide) (fun c16 => ?_) (fun c16 => ?_)
      · have n16 := le_n (by omega) (by omega) (show nI (L) ≤ nI (k) from c16)
        have hkL : k = L := by omega
        rw [run_e (fun q => by omega)] at hf
        have hb9 : skp (u 1) L e = k := hf
        refine g_aload_n h dX6_step_46 rfl rfl ?_
        refine g_aload_n h dX6_step_47 rfl rfl ?_
        refine g_getI h fl_X6_40_3 sh_160 (by decide) rfl dX6_step_48 ?_
        refine g_top tx_r3 ?_
        refine g_putI h pfl_X6_25_3 sh_160 (by decide) rfl dX6_step_51 ?_
        refine g_sto tx_w4 ?_
        refine g_aload_n h dX6_step_54 rfl rfl ?_
        refine g_iconst (v := nI 0) h dX6_step_55 (by decide) ?_
        refine g_putI h pfl_X6_37_3 sh_160 (by decide) rfl dX6_step_56 ?_
        refine g_sto tx_w5 ?_
        refine g_aload_n h dX6_step_59 rfl rfl ?_
        refine g_getI h fl_X6_40_3 sh_160 (by decide) rfl dX6_step_60 ?_
        refine g_top tx_r3 ?_
        refine g_aload_n h dX6_step_63 rfl rfl ?_
        refine g_getI h fl_X6_21_3 sh_160 (by decide) rfl dX6_step_64 ?_
        refine g_top tx_r1 ?_
        refine g_icmp_lt (tgt := 78) h dX6_step_67 (by decide) (fun c67 => ?_) (fun c67 => ?_)
        · have n67 := lt_n (by omega) (by omega) (show nI (k) < nI (L) from c67)
          refine g_aload_n h dX6_step_78 rfl rfl ?_
          refine g_aload_n h dX6_step_79 rfl rfl ?_
          refine g_getI h fl_X6_40_3 sh_160 (by decide) rfl dX6_step_80 ?_
          refine g_top tx_r3 ?_
          refine g_bipush (v := nI 97) h dX6_step_83 (by decide) ?_
          refine g_bipush (v := nI 122) h dX6_step_85 (by decide) ?_
          refine g_V h lv_X6_43_X3 sh_160 (by decide) rfl (c_X6_isBetween_160 k (by omega) _ _ u _ (tx_oc (by decide))) (fitR hR (by decide) (by decide) (by omega)) rfl rfl (Nat.le_of_ble_eq_true rfl) dX6_step_87 ?_
          refine g_if_eq (tgt := 137) h dX6_step_90 (by decide) (fun c90 => ?_) (fun c90 => ?_)
          · have d90 : ¬ azB (u 1 k) = true := fun q => b2_0.mp c90 (of_decide_eq_true q)
            refine g_aload_n h dX6_step_137 rfl rfl ?_
            refine g_aload_n h dX6_step_138 rfl rfl ?_
            refine g_getI h fl_X6_40_3 sh_160 (by decide) rfl dX6_step_139 ?_
            refine g_top tx_r3 ?_
            refine g_bipush (v := nI 48) h dX6_step_142 (by decide) ?_
            refine g_bipush (v := nI 57) h dX6_step_144 (by decide) ?_
            refine g_V h lv_X6_43_X3 sh_160 (by decide) rfl (c_X6_isBetween_160 k (by omega) _ _ u _ (tx_oc (by decide))) (fitR hR (by decide) (by decide) (by omega)) rfl rfl (Nat.le_of_ble_eq_true rfl) dX6_step_146 ?_
            refine g_if_eq (tgt := 220) h dX6_step_149 (by decide) (fun c149 => ?_) (fun c149 => ?_)
            · have d149 : ¬ dgB (u 1 k) = true := fun q => b2_0.mp c149 (of_decide_eq_true q)
              have hkd : kdN (u 1) L k = 3 := by rw [kdN, if_neg (by omega), if_neg d90, if_neg d149]
              have hnm : nmI (u 1) L k = nI 0 := if_neg (by rw [hkd]; decide)
              have hen : enN (u 1) L k = k + 1 := by rw [enN, if_neg (by omega), if_neg d90, if_neg d149]
              refine g_aload_n h dX6_step_220 rfl rfl ?_
              refine g_iconst (v := nI 3) h dX6_step_221 (by decide) ?_
              refine g_putI h pfl_X6_34_3 sh_160 (by decide) rfl dX6_step_222 ?_
              refine g_sto tx_w2 ?_
              refine g_aload_n h dX6_step_225 rfl rfl ?_
              refine g_dup h dX6_step_226 rfl ?_
              refine g_getI h fl_X6_25_3 sh_160 (by decide) rfl dX6_step_227 ?_
              refine g_top tx_r4 ?_
              refine g_iconst (v := nI 1) h dX6_step_230 (by decide) ?_
              refine g_iadd h dX6_step_231 ?_
              refine g_top (nI_add k 1) ?_
              refine g_putI h pfl_X6_25_3 sh_160 (by decide) rfl dX6_step_232 ?_
              refine g_sto tx_w4 ?_
              exact g_vret h hrt dX6_step_235 (by omega) rfl (by rw [tkS9, hb9, hkd, hen, hnm])
            · have d149 : dgB (u 1 k) = true := decide_eq_true (b2_n0.mp c149)
              have hkd : kdN (u 1) L k = 2 := by rw [kdN, if_neg (by omega), if_neg d90, if_pos d149]
              have hen : enN (u 1) L k = run dgB (u 1) L k := by rw [enN, if_neg (by omega), if_neg d90, if_pos d149]
              have hnm : nmI (u 1) L k = nuF (u 1) k (enN (u 1) L k - k) := if_pos hkd
              refine g_aload_n h dX6_step_152 rfl rfl ?_
              refine g_iconst (v := nI 2) h dX6_step_153 (by decide) ?_
              refine g_putI h pfl_X6_34_3 sh_160 (by decide) rfl dX6_step_154 ?_
              refine g_sto tx_w2 ?_
              have LP3 : ∀ j9 k2 : Nat, k ≤ k2 → run dgB (u 1) L k = run dgB (u 1) L k2 → L < k2 + j9 → k2 ≤ L → G E X (QM E X (.inl none) (tkS9 u 160 (u 1) L (skp (u 1) L e) w9) 0) 1 0 157 [(0, .ref (E.ad 160))] [] (txS u 160 (nI L) (nI 2) (nI k) (nI k2) (nuF (u 1) k (k2 - k)) w9) := by
                intro j9
                induction j9 with
                | zero => intro k2 hk2 hr h1 h2; omega
                | succ j9 ih2 =>
                  intro k2 hk2 hr h1 h2
                  refine g_aload_n h dX6_step_157 rfl rfl ?_
                  refine g_getI h fl_X6_25_3 sh_160 (by decide) rfl dX6_step_158 ?_
                  refine g_top tx_r4 ?_
                  refine g_aload_n h dX6_step_161 rfl rfl ?_
                  refine g_getI h fl_X6_21_3 sh_160 (by decide) rfl dX6_step_162 ?_
                  refine g_top tx_r1 ?_
                  refine g_icmp_ge (tgt := 235) h dX6_step_165 (by decide) (fun c165 => ?_) (fun c165 => ?_)
                  · have n165 := le_n (by omega) (by omega) (show nI (L) ≤ nI (k2) from c165)
                    have hkL2 : k2 = L := by omega
                    rw [run_e (p := k2) (fun q => by omega)] at hr
                    exact g_vret h hrt dX6_step_235 (by omega) rfl (by rw [tkS9, hb9, hkd, hen, hnm, hen, hr])
                  · have n165 := nle_n (by omega) (by omega) (show ¬ nI (L) ≤ nI (k2) from c165)
                    refine g_aload_n h dX6_step_168 rfl rfl ?_
                    refine g_aload_n h dX6_step_169 rfl rfl ?_
                    refine g_getI h fl_X6_25_3 sh_160 (by decide) rfl dX6_step_170 ?_
                    refine g_top tx_r4 ?_
                    refine g_bipush (v := nI 48) h dX6_step_173 (by decide) ?_
                    refine g_bipush (v := nI 57) h dX6_step_175 (by decide) ?_
                    refine g_V h lv_X6_43_X3 sh_160 (by decide) rfl (c_X6_isBetween_160 k2 (by omega) _ _ u _ (tx_oc (by decide))) (fitR hR (by decide) (by decide) (by omega)) rfl rfl (Nat.le_of_ble_eq_true rfl) dX6_step_177 ?_
                    refine g_if_eq (tgt := 235) h dX6_step_180 (by decide) (fun c180 => ?_) (fun c180 => ?_)
                    · rw [run_e (p := k2) (fun q => b2_0.mp c180 (of_decide_eq_true q.2))] at hr
                      exact g_vret h hrt dX6_step_235 (by omega) rfl (by rw [tkS9, hb9, hkd, hen, hnm, hen, hr])
                    · rw [run_s (p := k2) n165 (decide_eq_true (b2_n0.mp c180))] at hr
                      refine g_aload_n h dX6_step_183 rfl rfl ?_
                      refine g_aload_n h dX6_step_184 rfl rfl ?_
                      refine g_getI h fl_X6_37_3 sh_160 (by decide) rfl dX6_step_185 ?_
                      refine g_top tx_r5 ?_
                      refine g_bipush (v := nI 10) h dX6_step_188 (by decide) ?_
                      refine g_imul h dX6_step_190 ?_
                      refine g_aload_n h dX6_step_191 rfl rfl ?_
                      refine g_getR h fl_X6_9_3 sh_160 (by decide) rfl dX6_step_192 ?_
                      refine g_aload_n h dX6_step_195 rfl rfl ?_
                      refine g_getI h fl_X6_25_3 sh_160 (by decide) rfl dX6_step_196 ?_
                      refine g_top tx_r4 ?_
                      refine g_iald h _ _ _ sh_1 (by decide) (by decide) rfl (by omega) dX6_step_199 ?_
                      refine g_top (tx_o (by decide)) ?_
                      refine g_iadd h dX6_step_200 ?_
                      refine g_bipush (v := nI 48) h dX6_step_201 (by decide) ?_
                      refine g_isub h dX6_step_203 ?_
                      refine g_top (y := nuF (u 1) k (k2 + 1 - k)) (by rw [show k2 + 1 - k = (k2 - k) + 1 by omega, nuF, show k + (k2 - k) = k2 by omega]) ?_
                      refine g_putI h pfl_X6_37_3 sh_160 (by decide) rfl dX6_step_204 ?_
                      refine g_sto tx_w5 ?_
                      refine g_aload_n h dX6_step_207 rfl rfl ?_
                      refine g_dup h dX6_step_208 rfl ?_
                      refine g_getI h fl_X6_25_3 sh_160 (by decide) rfl dX6_step_209 ?_
                      refine g_top tx_r4 ?_
                      refine g_iconst (v := nI 1) h dX6_step_212 (by decide) ?_
                      refine g_iadd h dX6_step_213 ?_
                      refine g_top (nI_add k2 1) ?_
                      refine g_putI h pfl_X6_25_3 sh_160 (by decide) rfl dX6_step_214 ?_
                      refine g_sto tx_w4 ?_
                      refine g_goto (tgt := 157) h dX6_step_217 (by decide) ?_
                      exact ih2 (k2 + 1) (by omega) hr (by omega) (by omega)
              exact g_cv rfl (by rw [Nat.sub_self]; rfl) (LP3 (L + 1) k (Nat.le_refl _) rfl (by omega) (by omega))
              
          · have d90 : azB (u 1 k) = true := decide_eq_true (b2_n0.mp c90)
            have hkd : kdN (u 1) L k = 1 := by rw [kdN, if_neg (by omega), if_pos d90]
            have hnm : nmI (u 1) L k = nI 0 := if_neg (by rw [hkd]; decide)
            have hen : enN (u 1) L k = run azB (u 1) L k := by rw [enN, if_neg (by omega), if_pos d90]
            refine g_aload_n h dX6_step_93 rfl rfl ?_
            refine g_iconst (v := nI 1) h dX6_step_94 (by decide) ?_
            refine g_putI h pfl_X6_34_3 sh_160 (by decide) rfl dX6_step_95 ?_
            refine g_sto tx_w2 ?_
            have LP2 : ∀ j9 k2 : Nat, run azB (u 1) L k = run azB (u 1) L k2 → L < k2 + j9 → k2 ≤ L → G E X (QM E X (.inl none) (tkS9 u 160 (u 1) L (skp (u 1) L e) w9) 0) 1 0 98 [(0, .ref (E.ad 160))] [] (txS u 160 (nI L) (nI 1) (nI k) (nI k2) (nI 0) w9) := by
              intro j9
              induction j9 with
              | zero => intro k2 hr h1 h2; omega
              | succ j9 ih2 =>
                intro k2 hr h1 h2
                refine g_aload_n h dX6_step_98 rfl rfl ?_
                refine g_getI h fl_X6_25_3 sh_160 (by decide) rfl dX6_step_99 ?_
                refine g_top tx_r4 ?_
                refine g_aload_n h dX6_step_102 rfl rfl ?_
                refine g_getI h fl_X6_21_3 sh_160 (by decide) rfl dX6_step_103 ?_
                refine g_top tx_r1 ?_
                refine g_icmp_ge (tgt := 235) h dX6_step_106 (by decide) (fun c106 => ?_) (fun c106 => ?_)
                · have n106 := le_n (by omega) (by omega) (show nI (L) ≤ nI (k2) from c106)
                  have hkL2 : k2 = L := by omega
                  rw [run_e (p := k2) (fun q => by omega)] at hr
                  exact g_vret h hrt dX6_step_235 (by omega) rfl (by rw [tkS9, hb9, hkd, hen, hnm, hr])
                · have n106 := nle_n (by omega) (by omega) (show ¬ nI (L) ≤ nI (k2) from c106)
                  refine g_aload_n h dX6_step_109 rfl rfl ?_
                  refine g_aload_n h dX6_step_110 rfl rfl ?_
                  refine g_getI h fl_X6_25_3 sh_160 (by decide) rfl dX6_step_111 ?_
                  refine g_top tx_r4 ?_
                  refine g_bipush (v := nI 97) h dX6_step_114 (by decide) ?_
                  refine g_bipush (v := nI 122) h dX6_step_116 (by decide) ?_
                  refine g_V h lv_X6_43_X3 sh_160 (by decide) rfl (c_X6_isBetween_160 k2 (by omega) _ _ u _ (tx_oc (by decide))) (fitR hR (by decide) (by decide) (by omega)) rfl rfl (Nat.le_of_ble_eq_true rfl) dX6_step_118 ?_
                  refine g_if_eq (tgt := 235) h dX6_step_121 (by decide) (fun c121 => ?_) (fun c121 => ?_)
                  · rw [run_e (p := k2) (fun q => b2_0.mp c121 (of_decide_eq_true q.2))] at hr
                    exact g_vret h hrt dX6_step_235 (by omega) rfl (by rw [tkS9, hb9, hkd, hen, hnm, hr])
                  · rw [run_s (p := k2) n106 (decide_eq_true (b2_n0.mp c121))] at hr
                    refine g_aload_n h dX6_step_124 rfl rfl ?_
                    refine g_dup h dX6_step_125 rfl ?_
                    refine g_getI h fl_X6_25_3 sh_160 (by decide) rfl dX6_step_126 ?_
                    refine g_top tx_r4 ?_
                    refine g_iconst (v := nI 1) h dX6_step_129 (by decide) ?_
                    refine g_iadd h dX6_step_130 ?_
                    refine g_top (nI_add k2 1) ?_
                    refine g_putI h pfl_X6_25_3 sh_160 (by decide) rfl dX6_step_131 ?_
                    refine g_sto tx_w4 ?_
                    refine g_goto (tgt := 98) h dX6_step_134 (by decide) ?_
                    exact ih2 (k2 + 1) hr (by omega) (by omega)
            exact LP2 (L + 1) k rfl (by omega) (by omega)
            
        · have n67 := nlt_n (by omega) (by omega) (show ¬ nI (k) < nI (L) from c67)
          have hkd : kdN (u 1) L k = 0 := if_pos n67
          have hen : enN (u 1) L k = k := if_pos n67
          have hnm : nmI (u 1) L k = nI 0 := if_neg (by rw [hkd]; decide)
          refine g_aload_n h dX6_step_70 rfl rfl ?_
          refine g_iconst (v := nI 0) h dX6_step_71 (by decide) ?_
          refine g_putI h pfl_X6_34_3 sh_160 (by decide) rfl dX6_step_72 ?_
          refine g_sto tx_w2 ?_
          refine g_goto (tgt := 235) h dX6_step_75 (by decide) ?_
          exact g_vret h hrt dX6_step_235 (by omega) rfl (by rw [tkS9, hb9, hkd, hen, hnm])
        
      · have n16 := nle_n (by omega) (by omega) (show ¬ nI (L) ≤ nI (k) from c16)
        refine g_aload_n h dX6_step_19 rfl rfl ?_
        refine g_getR h fl_X6_9_3 sh_160 (by decide) rfl dX6_step_20 ?_
        refine g_aload_n h dX6_step_23 rfl rfl ?_
        refine g_getI h fl_X6_40_3 sh_160 (by decide) rfl dX6_step_24 ?_
        refine g_top tx_r3 ?_
        refine g_iald h _ _ _ sh_1 (by decide) (by decide) rfl (by omega) dX6_step_27 ?_
        refine g_top (tx_o (by decide)) ?_
        refine g_bipush (v := nI 32) h dX6_step_28 (by decide) ?_
        refine g_icmp_ne (tgt := 46) h dX6_step_30 (by decide) (fun c30 => ?_) (fun c30 => ?_)
        · rw [run_e (fun q => c30 (of_decide_eq_true q.2))] at hf
          have hb9 : skp (u 1) L e = k := hf
          refine g_aload_n h dX6_step_46 rfl rfl ?_
          refine g_aload_n h dX6_step_47 rfl rfl ?_
          refine g_getI h fl_X6_40_3 sh_160 (by decide) rfl dX6_step_48 ?_
          refine g_top tx_r3 ?_
          refine g_putI h pfl_X6_25_3 sh_160 (by decide) rfl dX6_step_51 ?_
          refine g_sto tx_w4 ?_
          refine g_aload_n h dX6_step_54 rfl rfl ?_
          refine g_iconst (v := nI 0) h dX6_step_55 (by decide) ?_
          refine g_putI h pfl_X6_37_3 sh_160 (by decide) rfl dX6_step_56 ?_
          refine g_sto tx_w5 ?_
          refine g_aload_n h dX6_step_59 rfl rfl ?_
          refine g_getI h fl_X6_40_3 sh_160 (by decide) rfl dX6_step_60 ?_
          refine g_top tx_r3 ?_
          refine g_aload_n h dX6_step_63 rfl rfl ?_
          refine g_getI h fl_X6_21_3 sh_160 (by decide) rfl dX6_step_64 ?_
          refine g_top tx_r1 ?_
          refine g_icmp_lt (tgt := 78) h dX6_step_67 (by decide) (fun c67 => ?_) (fun c67 => ?_)
          · have n67 := lt_n (by omega) (by omega) (show nI (k) < nI (L) from c67)
            refine g_aload_n h dX6_step_78 rfl rfl ?_
            refine g_aload_n h dX6_step_79 rfl rfl ?_
            refine g_getI h fl_X6_40_3 sh_160 (by decide) rfl dX6_step_80 ?_
            refine g_top tx_r3 ?_
            refine g_bipush (v := nI 97) h dX6_step_83 (by decide) ?_
            refine g_bipush (v := nI 122) h dX6_step_85 (by decide) ?_
            refine g_V h lv_X6_43_X3 sh_160 (by decide) rfl (c_X6_isBetween_160 k (by omega) _ _ u _ (tx_oc (by decide))) (fitR hR (by decide) (by decide) (by omega)) rfl rfl (Nat.le_of_ble_eq_true rfl) dX6_step_87 ?_
            refine g_if_eq (tgt := 137) h dX6_step_90 (by decide) (fun c90 => ?_) (fun c90 => ?_)
            · have d90 : ¬ azB (u 1 k) = true := fun q => b2_0.mp c90 (of_decide_eq_true q)
              refine g_aload_n h dX6_step_137 rfl rfl ?_
              refine g_aload_n h dX6_step_138 rfl rfl ?_
              refine g_getI h fl_X6_40_3 sh_160 (by decide) rfl dX6_step_139 ?_
              refine g_top tx_r3 ?_
              refine g_bipush (v := nI 48) h dX6_step_142 (by decide) ?_
              refine g_bipush (v := nI 57) h dX6_step_144 (by decide) ?_
              refine g_V h lv_X6_43_X3 sh_160 (by decide) rfl (c_X6_isBetween_160 k (by omega) _ _ u _ (tx_oc (by decide))) (fitR hR (by decide) (by decide) (by omega)) rfl rfl (Nat.le_of_ble_eq_true rfl) dX6_step_146 ?_
              refine g_if_eq (tgt := 220) h dX6_step_149 (by decide) (fun c149 => ?_) (fun c149 => ?_)
              · have d149 : ¬ dgB (u 1 k) = true := fun q => b2_0.mp c149 (of_decide_eq_true q)
                have hkd : kdN (u 1) L k = 3 := by rw [kdN, if_neg (by omega), if_neg d90, if_neg d149]
                have hnm : nmI (u 1) L k = nI 0 := if_neg (by rw [hkd]; decide)
                have hen : enN (u 1) L k = k + 1 := by rw [enN, if_neg (by omega), if_neg d90, if_neg d149]
                refine g_aload_n h dX6_step_220 rfl rfl ?_
                refine g_iconst (v := nI 3) h dX6_step_221 (by decide) ?_
                refine g_putI h pfl_X6_34_3 sh_160 (by decide) rfl dX6_step_222 ?_
                refine g_sto tx_w2 ?_
                refine g_aload_n h dX6_step_225 rfl rfl ?_
                refine g_dup h dX6_step_226 rfl ?_
                refine g_getI h fl_X6_25_3 sh_160 (by decide) rfl dX6_step_227 ?_
                refine g_top tx_r4 ?_
                refine g_iconst (v := nI 1) h dX6_step_230 (by decide) ?_
                refine g_iadd h dX6_step_231 ?_
                refine g_top (nI_add k 1) ?_
                refine g_putI h pfl_X6_25_3 sh_160 (by decide) rfl dX6_step_232 ?_
                refine g_sto tx_w4 ?_
                exact g_vret h hrt dX6_step_235 (by omega) rfl (by rw [tkS9, hb9, hkd, hen, hnm])
              · have d149 : dgB (u 1 k) = true := decide_eq_true (b2_n0.mp c149)
                have hkd : kdN (u 1) L k = 2 := by rw [kdN, if_neg (by omega), if_neg d90, if_pos d149]
                have hen : enN (u 1) L k = run dgB (u 1) L k := by rw [enN, if_neg (by omega), if_neg d90, if_pos d149]
                have hnm : nmI (u 1) L k = nuF (u 1) k (enN (u 1) L k - k) := if_pos hkd
                refine g_aload_n h dX6_step_152 rfl rfl ?_
                refine g_iconst (v := nI 2) h dX6_step_153 (by decide) ?_
                refine g_putI h pfl_X6_34_3 sh_160 (by decide) rfl dX6_step_154 ?_
                refine g_sto tx_w2 ?_
                have LP3 : ∀ j9 k2 : Nat, k ≤ k2 → run dgB (u 1) L k = run dgB (u 1) L k2 → L < k2 + j9 → k2 ≤ L → G E X (QM E X (.inl none) (tkS9 u 160 (u 1) L (skp (u 1) L e) w9) 0) 1 0 157 [(0, .ref (E.ad 160))] [] (txS u 160 (nI L) (nI 2) (nI k) (nI k2) (nuF (u 1) k (k2 - k)) w9) := by
                  intro j9
                  induction j9 with
                  | zero => intro k2 hk2 hr h1 h2; omega
                  | succ j9 ih2 =>
                    intro k2 hk2 hr h1 h2
                    refine g_aload_n h dX6_step_157 rfl rfl ?_
                    refine g_getI h fl_X6_25_3 sh_160 (by decide) rfl dX6_step_158 ?_
                    refine g_top tx_r4 ?_
                    refine g_aload_n h dX6_step_161 rfl rfl ?_
                    refine g_getI h fl_X6_21_3 sh_160 (by decide) rfl dX6_step_162 ?_
                    refine g_top tx_r1 ?_
                    refine g_icmp_ge (tgt := 235) h dX6_step_165 (by decide) (fun c165 => ?_) (fun c165 => ?_)
                    · have n165 := le_n (by omega) (by omega) (show nI (L) ≤ nI (k2) from c165)
                      have hkL2 : k2 = L := by omega
                      rw [run_e (p := k2) (fun q => by omega)] at hr
                      exact g_vret h hrt dX6_step_235 (by omega) rfl (by rw [tkS9, hb9, hkd, hen, hnm, hen, hr])
                    · have n165 := nle_n (by omega) (by omega) (show ¬ nI (L) ≤ nI (k2) from c165)
                      refine g_aload_n h dX6_step_168 rfl rfl ?_
                      refine g_aload_n h dX6_step_169 rfl rfl ?_
                      refine g_getI h fl_X6_25_3 sh_160 (by decide) rfl dX6_step_170 ?_
                      refine g_top tx_r4 ?_
                      refine g_bipush (v := nI 48) h dX6_step_173 (by decide) ?_
                      refine g_bipush (v := nI 57) h dX6_step_175 (by decide) ?_
                      refine g_V h lv_X6_43_X3 sh_160 (by decide) rfl (c_X6_isBetween_160 k2 (by omega) _ _ u _ (tx_oc (by decide))) (fitR hR (by decide) (by decide) (by omega)) rfl rfl (Nat.le_of_ble_eq_true rfl) dX6_step_177 ?_
                      refine g_if_eq (tgt := 235) h dX6_step_180 (by decide) (fun c180 => ?_) (fun c180 => ?_)
                      · rw [run_e (p := k2) (fun q => b2_0.mp c180 (of_decide_eq_true q.2))] at hr
                        exact g_vret h hrt dX6_step_235 (by omega) rfl (by rw [tkS9, hb9, hkd, hen, hnm, hen, hr])
                      · rw [run_s (p := k2) n165 (decide_eq_true (b2_n0.mp c180))] at hr
                        refine g_aload_n h dX6_step_183 rfl rfl ?_
                        refine g_aload_n h dX6_step_184 rfl rfl ?_
                        refine g_getI h fl_X6_37_3 sh_160 (by decide) rfl dX6_step_185 ?_
                        refine g_top tx_r5 ?_
                        refine g_bipush (v := nI 10) h dX6_step_188 (by decide) ?_
                        refine g_imul h dX6_step_190 ?_
                        refine g_aload_n h dX6_step_191 rfl rfl ?_
                        refine g_getR h fl_X6_9_3 sh_160 (by decide) rfl dX6_step_192 ?_
                        refine g_aload_n h dX6_step_195 rfl rfl ?_
                        refine g_getI h fl_X6_25_3 sh_160 (by decide) rfl dX6_step_196 ?_
                        refine g_top tx_r4 ?_
                        refine g_iald h _ _ _ sh_1 (by decide) (by decide) rfl (by omega) dX6_step_199 ?_
                        refine g_top (tx_o (by decide)) ?_
                        refine g_iadd h dX6_step_200 ?_
                        refine g_bipush (v := nI 48) h dX6_step_201 (by decide) ?_
                        refine g_isub h dX6_step_203 ?_
                        refine g_top (y := nuF (u 1) k (k2 + 1 - k)) (by rw [show k2 + 1 - k = (k2 - k) + 1 by omega, nuF, show k + (k2 - k) = k2 by omega]) ?_
                        refine g_putI h pfl_X6_37_3 sh_160 (by decide) rfl dX6_step_204 ?_
                        refine g_sto tx_w5 ?_
                        refine g_aload_n h dX6_step_207 rfl rfl ?_
                        refine g_dup h dX6_step_208 rfl ?_
                        refine g_getI h fl_X6_25_3 sh_160 (by decide) rfl dX6_step_209 ?_
                        refine g_top tx_r4 ?_
                        refine g_iconst (v := nI 1) h dX6_step_212 (by decide) ?_
                        refine g_iadd h dX6_step_213 ?_
                        refine g_top (nI_add k2 1) ?_
                        refine g_putI h pfl_X6_25_3 sh_160 (by decide) rfl dX6_step_214 ?_
                        refine g_sto tx_w4 ?_
                        refine g_goto (tgt := 157) h dX6_step_217 (by decide) ?_
                        exact ih2 (k2 + 1) (by omega) hr (by omega) (by omega)
                exact g_cv rfl (by rw [Nat.sub_self]; rfl) (LP3 (L + 1) k (Nat.le_refl _) rfl (by omega) (by omega))
                
            · have d90 : azB (u 1 k) = true := decide_eq_true (b2_n0.mp c90)
              have hkd : kdN (u 1) L k = 1 := by rw [kdN, if_neg (by omega), if_pos d90]
              have hnm : nmI (u 1) L k = nI 0 := if_neg (by rw [hkd]; decide)
              have hen : enN (u 1) L k = run azB (u 1) L k := by rw [enN, if_neg (by omega), if_pos d90]
              refine g_aload_n h dX6_step_93 rfl rfl ?_
              refine g_iconst (v := nI 1) h dX6_step_94 (by decide) ?_
              refine g_putI h pfl_X6_34_3 sh_160 (by decide) rfl dX6_step_95 ?_
              refine g_sto tx_w2 ?_
              have LP2 : ∀ j9 k2 : Nat, run azB (u 1) L k = run azB (u 1) L k2 → L < k2 + j9 → k2 ≤ L → G E X (QM E X (.inl none) (tkS9 u 160 (u 1) L (skp (u 1) L e) w9) 0) 1 0 98 [(0, .ref (E.ad 160))] [] (txS u 160 (nI L) (nI 1) (nI k) (nI k2) (nI 0) w9) := by
                intro j9
                induction j9 with
                | zero => intro k2 hr h1 h2; omega
                | succ j9 ih2 =>
                  intro k2 hr h1 h2
                  refine g_aload_n h dX6_step_98 rfl rfl ?_
                  refine g_getI h fl_X6_25_3 sh_160 (by decide) rfl dX6_step_99 ?_
                  refine g_top tx_r4 ?_
                  refine g_aload_n h dX6_step_102 rfl rfl ?_
                  refine g_getI h fl_X6_21_3 sh_160 (by decide) rfl dX6_step_103 ?_
                  refine g_top tx_r1 ?_
                  refine g_icmp_ge (tgt := 235) h dX6_step_106 (by decide) (fun c106 => ?_) (fun c106 => ?_)
                  · have n106 := le_n (by omega) (by omega) (show nI (L) ≤ nI (k2) from c106)
                    have hkL2 : k2 = L := by omega
                    rw [run_e (p := k2) (fun q => by omega)] at hr
                    exact g_vret h hrt dX6_step_235 (by omega) rfl (by rw [tkS9, hb9, hkd, hen, hnm, hr])
                  · have n106 := nle_n (by omega) (by omega) (show ¬ nI (L) ≤ nI (k2) from c106)
                    refine g_aload_n h dX6_step_109 rfl rfl ?_
                    refine g_aload_n h dX6_step_110 rfl rfl ?_
                    refine g_getI h fl_X6_25_3 sh_160 (by decide) rfl dX6_step_111 ?_
                    refine g_top tx_r4 ?_
                    refine g_bipush (v := nI 97) h dX6_step_114 (by decide) ?_
                    refine g_bipush (v := nI 122) h dX6_step_116 (by decide) ?_
                    refine g_V h lv_X6_43_X3 sh_160 (by decide) rfl (c_X6_isBetween_160 k2 (by omega) _ _ u _ (tx_oc (by decide))) (fitR hR (by decide) (by decide) (by omega)) rfl rfl (Nat.le_of_ble_eq_true rfl) dX6_step_118 ?_
                    refine g_if_eq (tgt := 235) h dX6_step_121 (by decide) (fun c121 => ?_) (fun c121 => ?_)
                    · rw [run_e (p := k2) (fun q => b2_0.mp c121 (of_decide_eq_true q.2))] at hr
                      exact g_vret h hrt dX6_step_235 (by omega) rfl (by rw [tkS9, hb9, hkd, hen, hnm, hr])
                    · rw [run_s (p := k2) n106 (decide_eq_true (b2_n0.mp c121))] at hr
                      refine g_aload_n h dX6_step_124 rfl rfl ?_
                      refine g_dup h dX6_step_125 rfl ?_
                      refine g_getI h fl_X6_25_3 sh_160 (by decide) rfl dX6_step_126 ?_
                      refine g_top tx_r4 ?_
                      refine g_iconst (v := nI 1) h dX6_step_129 (by decide) ?_
                      refine g_iadd h dX6_step_130 ?_
                      refine g_top (nI_add k2 1) ?_
                      refine g_putI h pfl_X6_25_3 sh_160 (by decide) rfl dX6_step_131 ?_
                      refine g_sto tx_w4 ?_
                      refine g_goto (tgt := 98) h dX6_step_134 (by decide) ?_
                      exact ih2 (k2 + 1) hr (by omega) (by omega)
              exact LP2 (L + 1) k rfl (by omega) (by omega)
              
          · have n67 := nlt_n (by omega) (by omega) (show ¬ nI (k) < nI (L) from c67)
            have hkd : kdN (u 1) L k = 0 := if_pos n67
            have hen : enN (u 1) L k = k := if_pos n67
            have hnm : nmI (u 1) L k = nI 0 := if_neg (by rw [hkd]; decide)
            refine g_aload_n h dX6_step_70 rfl rfl ?_
            refine g_iconst (v := nI 0) h dX6_step_71 (by decide) ?_
            refine g_putI h pfl_X6_34_3 sh_160 (by decide) rfl dX6_step_72 ?_
            refine g_sto tx_w2 ?_
            refine g_goto (tgt := 235) h dX6_step_75 (by decide) ?_
            exact g_vret h hrt dX6_step_235 (by omega) rfl (by rw [tkS9, hb9, hkd, hen, hnm])
          
        · rw [run_s n16 (decide_eq_true c30)] at hf
          refine g_aload_n h dX6_step_33 rfl rfl ?_
          refine g_dup h dX6_step_34 rfl ?_
          refine g_getI h fl_X6_40_3 sh_160 (by decide) rfl dX6_step_35 ?_
          refine g_top tx_r3 ?_
          refine g_iconst (v := nI 1) h dX6_step_38 (by decide) ?_
          refine g_iadd h dX6_step_39 ?_
          refine g_top (nI_add k 1) ?_
          refine g_putI h pfl_X6_40_3 sh_160 (by decide) rfl dX6_step_40 ?_
          refine g_sto tx_w3 ?_
          refine g_goto (tgt := 8) h dX6_step_43 (by decide) ?_
          exact ih (k + 1) hf (by omega) (by omega)
  exact LP (L + 1) e rfl (by omega) (by omega)
  
