-- after: 99.od
theorem okN_q {y : Int32} {N : Nat} (hN : N ≤ 20) (h : okN y (-1) (nI N - nI 1)) (h2 : ¬ y = -1) : ∃ q, q < N ∧ y = nI q := by
  have h1 : (nI N - nI 1).toInt = (N : Int) - 1 := by
    rw [Int32.toInt_sub, nI_toInt (by omega), nI_toInt (by omega), Int.bmod_eq_of_le (by omega) (by omega)]; omega
  have h3 := Int32.le_iff_toInt_le.mp (Int32.not_lt.mp h.1)
  have h4 := Int32.le_iff_toInt_le.mp h.2
  have h5 : (-1 : Int32).toInt = -1 := by decide
  have h6 : ¬ y.toInt = -1 := fun q => h2 (Int32.toInt_inj.mp (q.trans h5.symm))
  have h7 : ¬ y < 0 := fun q => by
    have := Int32.lt_iff_toInt_lt.mp q
    have h0 : (0 : Int32).toInt = 0 := by decide
    omega
  obtain ⟨q, hq, rfl⟩ := nI_ge0 (Int32.not_lt.mp h7)
  rw [nI_toInt (by omega)] at h4
  exact ⟨q, by omega, rfl⟩
theorem m1_lt {x : Int32} : ¬ x < -1 ↔ x = -1 ∨ ¬ x < 0 := by
  have h5 : (-1 : Int32).toInt = -1 := by decide
  have h0 : (0 : Int32).toInt = 0 := by decide
  rw [Int32.lt_iff_toInt_lt, Int32.lt_iff_toInt_lt, h5, h0]
  constructor
  · intro h
    by_cases q : x.toInt = -1
    · exact Or.inl (Int32.toInt_inj.mp (q.trans h5.symm))
    · exact Or.inr (by omega)
  · rintro (rfl | h)
    · rw [h5]; omega
    · omega
theorem rg_b9 {v : Sto} {a : Nat} : ∀ (j n : Nat), rgN v a j n ≤ n + j
  | 0, _ => Nat.zero_le _
  | j + 1, n => by
    show (if ptI v (atF v a n) = -1 then 0 else if v 4 (ix (ptI v (atF v a n))) = nI a then n + 1 else rgN v a j (n + 1)) ≤ _
    split
    · omega
    · split
      · omega
      · have := rg_b9 (v := v) (a := a) j (n + 1); omega
theorem rin_m {R : Nat} {z : Int32} (hR : R ≤ 10) : (if R = 0 ∨ nI R ≤ -1 then -1 else if (-1 : Int32) = -1 then nI R else z) = rgV R := by
  unfold rgV
  by_cases c : R = 0
  · rw [if_pos (Or.inl c), if_pos c]
  · have h : ¬ nI R ≤ -1 := by
      intro q
      have h1 := Int32.le_iff_toInt_le.mp q
      rw [nI_toInt (by omega)] at h1
      have h2 : (-1 : Int32).toInt = -1 := by decide
      omega
    rw [if_neg (not_or.mpr ⟨c, h⟩), if_pos rfl, if_neg c]
set_option maxHeartbeats 1000000 in
theorem c_X11_ring {E : EE} (v : Sto) (T W : Nat) (x y : Int32) (u : Sto) (hK : LK v u T W) (hI : TI v 3 10 T) : CtP E 36 0 yX11_ring cX11_ring 4 (some .int) [.ref (E.ad 178), .int x, .int y] u (PMr (cdL [ioob, iae]) (rinR v x y).1 u) := by
  refine ctp_of (by decide) (Nat.le_of_ble_eq_true rfl) (fun X h hR hrt htab hargs => ?_)
  refine g_aload_n h dX11_ring_0 rfl rfl ?_
  refine g_aload_n h dX11_ring_1 rfl rfl ?_
  refine g_iload_n h dX11_ring_2 rfl rfl ?_
  refine g_V h lv_X11_277_X11 sh_178 (by decide) rfl (c_X11_isTenant x v T W u hK.r) (fitR hR (by first | decide | omega) (by decide) (by omega)) rfl rfl (Nat.le_of_ble_eq_true rfl) dX11_ring_3 ?_
  by_cases n3 : okT v x
  · refine g_top (b2_t n3) ?_
    obtain ⟨a, ha, ha9, ia, rfl⟩ := okT_n hK.hT hK.r.vt n3
    refine g_if_ne (tgt := 13) h dX11_ring_6 (by decide) (fun _ => ?_) (fun q => absurd q (by decide))
    refine g_iload_n h dX11_ring_13 rfl rfl ?_
    refine g_iconst (v := -1) h dX11_ring_14 (by decide) ?_
    refine g_icmp_ge (tgt := 22) h dX11_ring_15 (by decide) (fun c15 => ?_) (fun c15 => ?_)
    · refine g_iconst (v := nI 0) h dX11_ring_22 (by decide) ?_
      refine g_putI h pfl_X11_69_10 sh_178 (by decide) rfl dX11_ring_23 ?_
      refine g_aload_n h dX11_ring_26 rfl rfl ?_
      refine g_getI h fl_X11_69_10 sh_178 (by decide) rfl dX11_ring_27 ?_
      refine g_top su_k ?_
      refine g_if_le (tgt := 35) h dX11_ring_30 (by decide) (fun _ => ?_) (fun q => absurd q (by decide))
      refine g_aload_n h dX11_ring_35 rfl rfl ?_
      refine g_iload_n h dX11_ring_36 rfl rfl ?_
      refine g_VP h lv_X11_370_X11 sh_178 (by decide) rfl (c_X11_rings v T W a ha _ hK.th hI) rn_nx (fitR hR (by first | decide | omega) (by decide) (by omega)) rfl rfl (Nat.le_of_ble_eq_true rfl) dX11_ring_37 (fun v37 u37 hs37 => ?_)
      obtain ⟨hv37, hs37, hrow⟩ := hs37
      cases hv37
      have hre := rg_eq hI hK.hT ha
      · skip
        refine g_istore_n (ls' := [(0, _), (1, _), (2, _), (3, _)]) h dX11_ring_40 rfl (by decide) rfl rfl ?_
        refine g_iload_n h dX11_ring_41 rfl rfl ?_
        refine g_iconst (v := -1) h dX11_ring_42 (by decide) ?_
        refine g_icmp_ne (tgt := 50) h dX11_ring_43 (by decide) (fun c43 => ?_) (fun c43 => ?_)
        · have hy : ¬ y < 0 := (m1_lt.mp (Int32.not_lt.mpr c15)).resolve_left c43
          obtain ⟨q9, hq9, rfl⟩ := nI_ge0 (Int32.not_lt.mp hy)
          refine g_iload_n h dX11_ring_50 rfl rfl ?_
          refine g_iload_n h dX11_ring_51 rfl rfl ?_
          refine g_icmp_ge (tgt := 64) h dX11_ring_52 (by decide) (fun c52 => ?_) (fun c52 => ?_)
          · have hrb := rg_b9 (v := v) (a := a) T 0
            have hq : rgN v a T 0 = 0 ∨ nI (rgN v a T 0) ≤ nI q9 := by
              unfold rgV at c52
              split at c52
              · rename_i c9; exact Or.inl c9
              · exact Or.inr c52
            refine g_iconst (v := -1) h dX11_ring_64 (by decide) ?_
            exact g_iretP h hrt dX11_ring_65 (by omega) (pm_v (by rw [rinR, if_pos n3, if_pos (Int32.not_lt.mpr c15)]) (by rw [ia, rinV, hre, if_pos hq]) hs37)
          · have hrb := rg_b9 (v := v) (a := a) T 0
            have hq : q9 < rgN v a T 0 ∧ ¬ rgN v a T 0 = 0 := by
              have c52 := Int32.not_le.mp c52
              unfold rgV at c52
              split at c52
              · exact absurd c52 (fun z => hy (Int32.lt_trans z (by decide)))
              · rename_i c9; exact ⟨lt_n (by omega) (by omega) c52, c9⟩
            refine g_aload_n h dX11_ring_55 rfl rfl ?_
            refine g_getR h fl_X11_54_10 sh_178 (by decide) rfl dX11_ring_56 ?_
            refine g_iload_n h dX11_ring_59 rfl rfl ?_
            refine g_iald h _ _ _ sh_192 (by decide) (by decide) rfl (by have := hK.hT; omega) dX11_ring_60 ?_
            refine g_goto (tgt := 65) h dX11_ring_61 (by decide) ?_
            exact g_iretP h hrt dX11_ring_65 (by omega) (pm_v (by rw [rinR, if_pos n3, if_pos (Int32.not_lt.mpr c15)]) (by rw [ia, rinV, hre, if_neg (not_or.mpr ⟨hq.2, fun z => by have := le_n (by have := hK.hT; omega) (by omega) z; omega⟩), if_neg c43, ix_nI (by omega), (hrow q9 hq.1).2]) hs37)
        · refine g_iload_n h dX11_ring_46 rfl rfl ?_
          refine g_goto (tgt := 65) h dX11_ring_47 (by decide) ?_
          exact g_iretP h hrt dX11_ring_65 (by omega) (pm_v (by rw [rinR, if_pos n3, if_pos (Int32.not_lt.mpr c15)]) (by rw [ia, rinV, hre, c43]; exact rin_m (by have := rg_b9 (v := v) (a := a) T 0; have := hK.hT; omega)) hs37)
    · refine g_iconst (v := nI 2) h dX11_ring_18 (by decide) ?_
      refine g_goto (tgt := 23) h dX11_ring_19 (by decide) ?_
      refine g_putI h pfl_X11_69_10 sh_178 (by decide) rfl dX11_ring_23 ?_
      refine g_aload_n h dX11_ring_26 rfl rfl ?_
      refine g_getI h fl_X11_69_10 sh_178 (by decide) rfl dX11_ring_27 ?_
      refine g_top su_k ?_
      refine g_if_le (tgt := 35) h dX11_ring_30 (by decide) (fun q => absurd q (by decide)) (fun _ => ?_)
      refine g_iconst (v := nI 0) h dX11_ring_33 (by decide) ?_
      exact g_iretP h hrt dX11_ring_34 (by omega) (by first | exact pm_x (Ex := ioob) (by rw [rinR, if_pos n3, if_neg (fun q => q (Int32.not_le.mp c15))]) (by decide) (sim.refl _) | exact pm_x (Ex := iae) (by rw [rinR, if_pos n3, if_neg (fun q => q (Int32.not_le.mp c15))]) (by decide) (sim.refl _))
  · refine g_top (b2_f n3) ?_
    refine g_if_ne (tgt := 13) h dX11_ring_6 (by decide) (fun q => absurd q (by decide)) (fun _ => ?_)
    refine g_iconst (v := nI 1) h dX11_ring_9 (by decide) ?_
    refine g_goto (tgt := 23) h dX11_ring_10 (by decide) ?_
    refine g_putI h pfl_X11_69_10 sh_178 (by decide) rfl dX11_ring_23 ?_
    refine g_aload_n h dX11_ring_26 rfl rfl ?_
    refine g_getI h fl_X11_69_10 sh_178 (by decide) rfl dX11_ring_27 ?_
    refine g_top su_k ?_
    refine g_if_le (tgt := 35) h dX11_ring_30 (by decide) (fun q => absurd q (by decide)) (fun _ => ?_)
    refine g_iconst (v := nI 0) h dX11_ring_33 (by decide) ?_
    exact g_iretP h hrt dX11_ring_34 (by omega) (by first | exact pm_x (Ex := ioob) (by rw [rinR, if_neg n3]) (by decide) (sim.refl _) | exact pm_x (Ex := iae) (by rw [rinR, if_neg n3]) (by decide) (sim.refl _))
def bsF (g ch : Nat → Int32) : Nat → Int32
  | 0 => -1
  | k + 1 => if ch k = 0 ∧ ¬ g k = -1 ∧ (bsF g ch k = -1 ∨ g k < g (ix (bsF g ch k))) then nI k else bsF g ch k
theorem bs_1 {g ch : Nat → Int32} {k : Nat} (h : ch k = 0 ∧ ¬ g k = -1 ∧ (bsF g ch k = -1 ∨ g k < g (ix (bsF g ch k)))) : bsF g ch (k + 1) = nI k := by rw [bsF, if_pos h]
theorem bs_0 {g ch : Nat → Int32} {k : Nat} (h : ¬ (ch k = 0 ∧ ¬ g k = -1 ∧ (bsF g ch k = -1 ∨ g k < g (ix (bsF g ch k))))) : bsF g ch (k + 1) = bsF g ch k := by rw [bsF, if_neg h]
theorem bs_i {g ch : Nat → Int32} : ∀ k, k < 2 ^ 31 → bsF g ch k = -1 ∨ ∃ j, j < k ∧ bsF g ch k = nI j ∧ ch j = 0 ∧ ¬ g j = -1
  | 0, _ => Or.inl rfl
  | k + 1, hk => by
    by_cases c : ch k = 0 ∧ ¬ g k = -1 ∧ (bsF g ch k = -1 ∨ g k < g (ix (bsF g ch k)))
    · rw [bs_1 c]; exact Or.inr ⟨k, by omega, rfl, c.1, c.2.1⟩
    · rw [bs_0 c]
      rcases bs_i (g := g) (ch := ch) k (by omega) with e | ⟨j, hj, e, e2⟩
      · exact Or.inl e
      · exact Or.inr ⟨j, by omega, e, e2⟩
def cmA (F g ch : Nat → Int32) : Prop := ∀ j, j < 168 → F j = if ch j = 0 then g j else -2
theorem cl_bs {F g ch : Nat → Int32} (h : cmA F g ch) (hg : ∀ j, j < 168 → g j = -1 ∨ ∃ n, n ≤ 11988 ∧ g j = nI n) : ∀ k, k ≤ 168 → clF F k = bsF g ch k
  | 0, _ => rfl
  | k + 1, hk => by
    have ih := cl_bs h hg k (by omega)
    have hF := h k (by omega)
    rw [clF, bsF, ih]
    by_cases c : ch k = 0
    · rw [if_pos c] at hF
      rw [hF]
      rcases bs_i (g := g) (ch := ch) k (by omega) with e | ⟨j, hj, e, e2, e3⟩
      · by_cases z : g k = -1
        · rw [if_neg (fun q => q.1 (by rw [z]; decide)), if_neg (fun q => q.2.1 z)]
        · obtain ⟨n, hn, en⟩ := (hg k (by omega)).resolve_left z
          rw [if_pos ⟨by rw [en]; exact fun q => absurd (lt_n (by omega) (by omega) (show nI n < nI 0 from q)) (by omega), Or.inl e⟩, if_pos ⟨c, z, Or.inl e⟩]
      · have hFj := h j (by omega)
        rw [if_pos e2] at hFj
        rw [e, ix_nI (by omega), hFj]
        by_cases z : g k = -1
        · rw [if_neg (fun q => q.1 (by rw [z]; decide)), if_neg (fun q => q.2.1 z)]
        · obtain ⟨n, hn, en⟩ := (hg k (by omega)).resolve_left z
          have h0 : ¬ g k < 0 := by rw [en]; exact fun q => absurd (lt_n (by omega) (by omega) (show nI n < nI 0 from q)) (by omega)
          by_cases w : nI j = -1 ∨ g k < g j
          · rw [if_pos ⟨h0, w⟩, if_pos ⟨c, z, w⟩]
          · rw [if_neg (fun q => w q.2), if_neg (fun q => w q.2.2)]
    · rw [if_neg c] at hF
      rw [hF, if_neg (fun q => q.1 (by decide)), if_neg (fun q => c q.1)]
theorem chm_s {F : Nat → Int32} {N i : Nat} {s : Int32} (h : i < N) (hb : ¬ clF F 168 = -1) : chF (N - i) F s = chF (N - (i + 1)) (upd F (ix (clF F 168)) (-2)) (s + F (ix (clF F 168))) := by
  rw [show N - i = (N - (i + 1)) + 1 by omega, chF, if_neg hb]
theorem chm_n {F : Nat → Int32} {N i : Nat} {s : Int32} (h : i < N) (hb : clF F 168 = -1) : chF (N - i) F s = none := by
  rw [show N - i = (N - (i + 1)) + 1 by omega, chF, if_pos hb]
theorem pr_b {v u : Sto} {T W a j : Nat} (hK : LK v u T W) : prI v a j = -1 ∨ ∃ n, n ≤ 11988 ∧ prI v a j = nI n := by
  unfold prI
  split
  · exact Or.inr (hK.rt a j)
  · exact Or.inl rfl
theorem pr_y {v u : Sto} {T W a j : Nat} (hK : LK v u T W) (h1 : v 13 a = -1) (h2 : v 4 j = -1) (h3 : v 14 j = 0) (h4 : brP v a j = false) : prI v a j = rtI v a j := by
  obtain ⟨n, hn, e⟩ := hK.rt a j
  have h6 : ¬ (1000000 : Int32) < rtI v a j := by
    rw [e]
    intro q
    have := Int32.lt_iff_toInt_lt.mp q
    rw [nI_toInt (by omega)] at this
    have h5 : (1000000 : Int32).toInt = 1000000 := by decide
    omega
  rw [prI, if_pos ⟨h1, h2, h3, h4, h6⟩]
theorem cs_k {F g ch : Nat → Int32} (h : cmA F g ch) (hg : ∀ j, j < 168 → g j = -1 ∨ ∃ n, n ≤ 11988 ∧ g j = nI n) {j : Nat} (hj : j < 168) : F j < -1 ↔ ¬ ch j = 0 := by
  rw [h j hj]
  by_cases c : ch j = 0
  · rw [if_pos c]
    refine ⟨fun q => ?_, fun q => absurd c q⟩
    rcases hg j hj with e | ⟨n, hn, e⟩
    · rw [e] at q; exact absurd q (by decide)
    · rw [e] at q
      have := Int32.lt_iff_toInt_lt.mp q
      rw [nI_toInt (by omega)] at this
      have h5 : (-1 : Int32).toInt = -1 := by decide
      omega
  · rw [if_neg c]
    exact ⟨fun _ => c, fun _ => by decide⟩
theorem ledm_cong {p q : Nat → Bool} {f : Nat → Int32} : ∀ (j k : Nat) (l : Int32), (∀ i, k ≤ i → i < k + j → p i = q i) → ledF p f j k l = ledF q f j k l
  | 0, _, _, _ => rfl
  | j + 1, k, l, h => by
    rw [ledF, ledF, h k (Nat.le_refl _) (by omega), ledm_cong j (k + 1) _ (fun i h1 h2 => h i (by omega) (by omega)), ledm_cong j (k + 1) _ (fun i h1 h2 => h i (by omega) (by omega))]
set_option maxHeartbeats 1000000 in
theorem c_X11_cheap {E : EE} (v : Sto) (T W : Nat) (x n y : Int32) (u : Sto) (hK : LK v u T W) (hRi : RI v 10 T W) : CtP E 36 0 yX11_cheap cX11_cheap 8 (some .int) [.ref (E.ad 178), .int x, .int n, .int y] u (PMr (cdL [ioob, iae]) (cheR v x n y).1 u) := by
  refine ctp_of (by decide) (Nat.le_of_ble_eq_true rfl) (fun X h hR hrt htab hargs => ?_)
  refine g_aload_n h dX11_cheap_0 rfl rfl ?_
  refine g_aload_n h dX11_cheap_1 rfl rfl ?_
  refine g_iload_n h dX11_cheap_2 rfl rfl ?_
  refine g_V h lv_X11_277_X11 sh_178 (by decide) rfl (c_X11_isTenant x v T W u hK.r) (fitR hR (by first | decide | omega) (by decide) (by omega)) rfl rfl (Nat.le_of_ble_eq_true rfl) dX11_cheap_3 ?_
  by_cases n3 : okT v x
  · refine g_top (b2_t n3) ?_
    obtain ⟨a, ha, ha9, ia, rfl⟩ := okT_n hK.hT hK.r.vt n3
    refine g_if_ne (tgt := 13) h dX11_cheap_6 (by decide) (fun _ => ?_) (fun q => absurd q (by decide))
    refine g_iload_n h dX11_cheap_13 rfl rfl ?_
    refine g_iconst (v := nI 1) h dX11_cheap_14 (by decide) ?_
    refine g_bipush (v := nI 20) h dX11_cheap_15 (by decide) ?_
    refine g_S h ls_X11_72 (c_X11_isIn n (nI 1) (nI 20) u) (fitR hR (by first | decide | omega) (by decide) (by omega)) rfl rfl (Nat.le_of_ble_eq_true rfl) dX11_cheap_17 ?_
    by_cases n17 : okN n (nI 1) (nI 20)
    · refine g_top (b2_t n17) ?_
      obtain ⟨N, hN0, hN1, iN, rfl⟩ := okN_k (by decide) n17
      refine g_if_eq (tgt := 34) h dX11_cheap_20 (by decide) (fun q => absurd q (by decide)) (fun _ => ?_)
      refine g_iload_n h dX11_cheap_23 rfl rfl ?_
      refine g_iconst (v := -1) h dX11_cheap_24 (by decide) ?_
      refine g_iload_n h dX11_cheap_25 rfl rfl ?_
      refine g_iconst (v := nI 1) h dX11_cheap_26 (by decide) ?_
      refine g_isub h dX11_cheap_27 ?_
      refine g_S h ls_X11_72 (c_X11_isIn y (-1) (nI N - nI 1) u) (fitR hR (by first | decide | omega) (by decide) (by omega)) rfl rfl (Nat.le_of_ble_eq_true rfl) dX11_cheap_28 ?_
      by_cases n28 : okN y (-1) (nI N - nI 1)
      · refine g_top (b2_t n28) ?_
        refine g_if_ne (tgt := 38) h dX11_cheap_31 (by decide) (fun _ => ?_) (fun q => absurd q (by decide))
        refine g_iconst (v := nI 0) h dX11_cheap_38 (by decide) ?_
        refine g_putI h pfl_X11_69_10 sh_178 (by decide) rfl dX11_cheap_39 ?_
        refine g_aload_n h dX11_cheap_42 rfl rfl ?_
        refine g_getI h fl_X11_69_10 sh_178 (by decide) rfl dX11_cheap_43 ?_
        refine g_top su_k ?_
        refine g_if_le (tgt := 51) h dX11_cheap_46 (by decide) (fun _ => ?_) (fun q => absurd q (by decide))
        refine g_iconst (v := nI 0) h dX11_cheap_51 (by decide) ?_
        refine g_istore (ls' := [(0, _), (1, _), (2, _), (3, _), (4, _)]) h dX11_cheap_52 (by decide) rfl rfl ?_
        have LP : ∀ (j k : Nat) (w : Sto), 168 < k + j → k ≤ 168 → (sim w (su u 178 0 (nI 0)) ∧ ∀ j, j < k → w 185 j = prI v a j ∧ w 186 j = nI 0) → G E X (QMP E X (PMr (cdL [ioob, iae]) (cheR v (nI a) (nI N) y).1 u) 0) 8 0 54 [(0, .ref (E.ad 178)), (1, .int (nI a)), (2, .int (nI N)), (3, .int y), (4, .int (nI k))] [] w := by
          intro j
          induction j with
          | zero => intro k w h1 h2 hw; omega
          | succ j ih =>
            intro k w h1 h2 hw
            refine g_iload h dX11_cheap_54 rfl ?_
            refine g_sipush (v := nI 168) h dX11_cheap_56 (by decide) ?_
            refine g_icmp_ge (tgt := 146) h dX11_cheap_59 (by decide) (fun c59 => ?_) (fun c59 => ?_)
            · have n59 := le_n (by omega) (by omega) (show nI (168) ≤ nI (k) from c59)
              have hrow : ∀ j, j < 168 → w 185 j = prI v a j ∧ w 186 j = nI 0 := fun j hj => hw.2 j (by omega)
              refine g_iconst (v := nI 0) h dX11_cheap_146 (by decide) ?_
              refine g_istore (ls' := [(0, _), (1, _), (2, _), (3, _), (4, _)]) h dX11_cheap_147 (by decide) rfl rfl ?_
              refine g_iconst (v := nI 0) h dX11_cheap_149 (by decide) ?_
              refine g_istore (ls' := [(0, _), (1, _), (2, _), (3, _), (4, _), (5, _)]) h dX11_cheap_150 (by decide) rfl rfl ?_
              have LP2 : ∀ (j2 i : Nat) (w2 : Sto) (s : Int32), N < i + j2 → i ≤ N → (sim w2 (su u 178 0 (nI 0)) ∧ w2 185 = w 185 ∧ (∀ j, j < 168 → w2 186 j = nI 0 ∨ w2 186 j = nI 1) ∧ cN (fun j => decide (¬ w2 186 j = 0)) 168 = i ∧ ∃ F, chF N (prI v a) (nI 0) = chF (N - i) F s ∧ cmA F (prI v a) (w2 186)) → G E X (QMP E X (PMr (cdL [ioob, iae]) (cheR v (nI a) (nI N) y).1 u) 0) 8 0 152 [(0, .ref (E.ad 178)), (1, .int (nI a)), (2, .int (nI N)), (3, .int y), (4, .int s), (5, .int (nI i))] [] w2 := by
                intro j2
                induction j2 with
                | zero => intro i w2 s h1 h2 hw2; omega
                | succ j2 ih2 =>
                  intro i w2 s h1 h2 hw2
                  obtain ⟨F9, hch, hcm⟩ := hw2.2.2.2.2
                  refine g_iload h dX11_cheap_152 rfl ?_
                  refine g_iload_n h dX11_cheap_154 rfl rfl ?_
                  refine g_icmp_ge (tgt := 260) h dX11_cheap_155 (by decide) (fun c155 => ?_) (fun c155 => ?_)
                  · have n155 := le_n (by omega) (by omega) (show nI (N) ≤ nI (i) from c155)
                    rw [show N - i = 0 by omega] at hch
                    have hch : chF N (prI v a) (nI 0) = some (F9, s) := hch
                    refine g_iload_n h dX11_cheap_260 rfl rfl ?_
                    refine g_iconst (v := -1) h dX11_cheap_261 (by decide) ?_
                    refine g_icmp_ne (tgt := 268) h dX11_cheap_262 (by decide) (fun c262 => ?_) (fun c262 => ?_)
                    · obtain ⟨q9, hq9, rfl⟩ := okN_q hN1 n28 c262
                      refine g_iload_n h dX11_cheap_268 rfl rfl ?_
                      refine g_istore (ls' := [(0, _), (1, _), (2, _), (3, _), (4, _), (5, _)]) h dX11_cheap_269 (by decide) rfl rfl ?_
                      refine g_iconst (v := nI 0) h dX11_cheap_271 (by decide) ?_
                      refine g_istore (ls' := [(0, _), (1, _), (2, _), (3, _), (4, _), (5, _), (6, _)]) h dX11_cheap_272 (by decide) rfl rfl ?_
                      have LP4 : ∀ j4 r : Nat, ∀ l : Nat, ledF (fun j => decide (¬ w2 186 j = 0)) nI 168 0 (nI q9) = ledF (fun j => decide (¬ w2 186 j = 0)) nI (168 - r) r (nI l) → l + cN (fun j => decide (¬ w2 186 j = 0)) r < cN (fun j => decide (¬ w2 186 j = 0)) 168 → 168 < r + j4 → r ≤ 168 → G E X (QMP E X (PMr (cdL [ioob, iae]) (cheR v (nI a) (nI N) (nI q9)).1 u) 0) 8 0 274 [(0, .ref (E.ad 178)), (1, .int (nI a)), (2, .int (nI N)), (3, .int (nI q9)), (4, .int s), (5, .int (nI l)), (6, .int (nI r))] [] (w2) := by
                        intro j4
                        induction j4 with
                        | zero => intro r l hf hcn h1 h2; omega
                        | succ j4 ih4 =>
                          intro r l hf hcn h1 h2
                          have hr8 : r < 168 := by
                            by_cases z : r < 168
                            · exact z
                            · rw [show r = 168 by omega] at hcn; omega
                          have hl9 := cN_lq (p := (fun j => decide (¬ w2 186 j = 0))) 168
                          refine g_aload_n h dX11_cheap_274 rfl rfl ?_
                          refine g_getR h fl_X11_35_10 sh_178 (by decide) rfl dX11_cheap_275 ?_
                          refine g_iload h dX11_cheap_278 rfl ?_
                          refine g_zald h _ _ _ sh_186 (by decide) (by decide) rfl hr8 dX11_cheap_280 ?_
                          refine g_if_eq (tgt := 289) h dX11_cheap_281 (by decide) (fun c281 => ?_) (fun c281 => ?_)
                          · rw [led_s hr8, if_neg (show ¬ (fun j => decide (¬ w2 186 j = 0)) r = true from fun q => of_decide_eq_true q c281)] at hf
                            refine g_iload h dX11_cheap_289 rfl ?_
                            refine g_aload_n h dX11_cheap_291 rfl rfl ?_
                            refine g_getR h fl_X11_35_10 sh_178 (by decide) rfl dX11_cheap_292 ?_
                            refine g_iload h dX11_cheap_295 rfl ?_
                            refine g_zald h _ _ _ sh_186 (by decide) (by decide) rfl hr8 dX11_cheap_297 ?_
                            refine g_if_eq (tgt := 305) h dX11_cheap_298 (by decide) (fun c298 => ?_) (fun c298 => ?_)
                            · refine g_iconst (v := nI 0) h dX11_cheap_305 (by decide) ?_
                              refine g_isub h dX11_cheap_306 ?_
                              refine g_top (y := nI l) (pk_sub (Nat.zero_le _)) ?_
                              refine g_istore (ls' := [(0, _), (1, _), (2, _), (3, _), (4, _), (5, _), (6, _)]) h dX11_cheap_307 (by decide) rfl rfl ?_
                              refine g_iinc (v := nI (r + 1)) (ls' := [(0, _), (1, _), (2, _), (3, _), (4, _), (5, _), (6, _)]) h dX11_cheap_309 rfl (nI_1 r) (by decide) rfl rfl ?_
                              refine g_goto (tgt := 274) h dX11_cheap_312 (by decide) ?_
                              exact ih4 (r + 1) l hf (by rw [cN, if_neg (show ¬ (fun j => decide (¬ w2 186 j = 0)) r = true from fun q => of_decide_eq_true q c281)]; exact hcn) (by omega) (by omega)
                            · exact absurd c281 c298
                          · rw [led_s hr8, if_pos (show (fun j => decide (¬ w2 186 j = 0)) r = true from decide_eq_true c281)] at hf
                            refine g_iload h dX11_cheap_284 rfl ?_
                            refine g_if_le (tgt := 315) h dX11_cheap_286 (by decide) (fun c286 => ?_) (fun c286 => ?_)
                            · have hl0 : l = 0 := by
                                have := le_n (by omega) (by omega) (show nI l ≤ nI 0 from c286)
                                omega
                              subst hl0
                              rw [if_pos (show (nI 0 : Int32) = 0 from rfl)] at hf
                              refine g_iload h dX11_cheap_315 rfl ?_
                              exact g_iretP h hrt dX11_cheap_317 (by omega) (pm_v (by rw [cheR, if_pos n3, if_pos n17, if_pos n28]) (by rw [ia, iN, chV, hch]; show (if nI q9 = -1 then s else csI F9 (nI q9)) = _; rw [if_neg c262, csI, ledm_cong 168 0 _ (q := (fun j => decide (¬ w2 186 j = 0))) (fun j h8 h9 => decide_eq_decide.mpr (cs_k hcm (fun j hj => pr_b hK) (by omega))), hf]) hw2.1)
                            · have hl0 : 0 < l := by
                                have := nle_n (by omega) (by omega) (show ¬ nI l ≤ nI 0 from c286)
                                omega
                              rw [if_neg (show ¬ nI l = 0 from fun q => absurd (eq_n (by omega) (by omega) (show nI l = nI 0 from q)) (by omega)), nI_d hl0] at hf
                              refine g_iload h dX11_cheap_289 rfl ?_
                              refine g_aload_n h dX11_cheap_291 rfl rfl ?_
                              refine g_getR h fl_X11_35_10 sh_178 (by decide) rfl dX11_cheap_292 ?_
                              refine g_iload h dX11_cheap_295 rfl ?_
                              refine g_zald h _ _ _ sh_186 (by decide) (by decide) rfl hr8 dX11_cheap_297 ?_
                              refine g_if_eq (tgt := 305) h dX11_cheap_298 (by decide) (fun c298 => ?_) (fun c298 => ?_)
                              · exact absurd c298 c281
                              · refine g_iconst (v := nI 1) h dX11_cheap_301 (by decide) ?_
                                refine g_goto (tgt := 306) h dX11_cheap_302 (by decide) ?_
                                refine g_isub h dX11_cheap_306 ?_
                                refine g_top (y := nI (l - 1)) (pk_sub (by omega)) ?_
                                refine g_istore (ls' := [(0, _), (1, _), (2, _), (3, _), (4, _), (5, _), (6, _)]) h dX11_cheap_307 (by decide) rfl rfl ?_
                                refine g_iinc (v := nI (r + 1)) (ls' := [(0, _), (1, _), (2, _), (3, _), (4, _), (5, _), (6, _)]) h dX11_cheap_309 rfl (nI_1 r) (by decide) rfl rfl ?_
                                refine g_goto (tgt := 274) h dX11_cheap_312 (by decide) ?_
                                exact ih4 (r + 1) (l - 1) hf (by rw [cN, if_pos (show (fun j => decide (¬ w2 186 j = 0)) r = true from decide_eq_true c281)]; omega) (by omega) (by omega)
                      exact LP4 (168 + 1) (0) q9 rfl (by rw [hw2.2.2.2.1]; show q9 + 0 < i; omega) (by omega) (by omega)
                      
                    · refine g_iload h dX11_cheap_265 rfl ?_
                      exact g_iretP h hrt dX11_cheap_267 (by omega) (pm_v (by rw [cheR, if_pos n3, if_pos n17, if_pos n28]) (by rw [ia, iN, chV, hch]; show (if y = -1 then s else csI F9 y) = _; rw [if_pos c262]) hw2.1)
                  · have n155 := nle_n (by omega) (by omega) (show ¬ nI (N) ≤ nI (i) from c155)
                    refine g_iconst (v := -1) h dX11_cheap_158 (by decide) ?_
                    refine g_istore (ls' := [(0, _), (1, _), (2, _), (3, _), (4, _), (5, _), (6, _)]) h dX11_cheap_159 (by decide) rfl rfl ?_
                    refine g_iconst (v := nI 0) h dX11_cheap_161 (by decide) ?_
                    refine g_istore (ls' := [(0, _), (1, _), (2, _), (3, _), (4, _), (5, _), (6, _), (7, _)]) h dX11_cheap_162 (by decide) rfl rfl ?_
                    have LP3 : ∀ j3 r : Nat, 168 < r + j3 → r ≤ 168 → G E X (QMP E X (PMr (cdL [ioob, iae]) (cheR v (nI a) (nI N) y).1 u) 0) 8 0 164 [(0, .ref (E.ad 178)), (1, .int (nI a)), (2, .int (nI N)), (3, .int y), (4, .int s), (5, .int (nI i)), (6, .int (bsF (prI v a) (w2 186) r)), (7, .int (nI r))] [] (w2) := by
                      intro j3
                      induction j3 with
                      | zero => intro r h1 h2; omega
                      | succ j3 ih3 =>
                        intro r h1 h2
                        refine g_iload h dX11_cheap_164 rfl ?_
                        refine g_sipush (v := nI 168) h dX11_cheap_166 (by decide) ?_
                        refine g_icmp_ge (tgt := 226) h dX11_cheap_169 (by decide) (fun c169 => ?_) (fun c169 => ?_)
                        · have n169 := le_n (by omega) (by omega) (show nI (168) ≤ nI (r) from c169)
                          refine g_iload h dX11_cheap_226 rfl ?_
                          refine g_iconst (v := -1) h dX11_cheap_228 (by decide) ?_
                          refine g_icmp_ne (tgt := 234) h dX11_cheap_229 (by decide) (fun c229 => ?_) (fun c229 => ?_)
                          · obtain ⟨b9, hb9, eb9, ec9, eg9⟩ := (bs_i (g := prI v a) (ch := w2 186) r (by omega)).resolve_left c229
                            have hcl : clF F9 168 = nI b9 := (cl_bs hcm (fun j hj => pr_b hK) 168 (Nat.le_refl _)).trans (by rw [← show r = 168 by omega]; exact eb9)
                            have hcx : ix (clF F9 168) = b9 := by rw [hcl]; exact ix_nI (by omega)
                            have hF9 : F9 b9 = prI v a b9 := by rw [hcm b9 (by omega), if_pos ec9]
                            have hst := hch.trans (chm_s (by omega) (by rw [hcl]; exact nI_m1 (by omega)))
                            rw [hcx, hF9] at hst
                            refine g_aload_n h dX11_cheap_234 rfl rfl ?_
                            refine g_getR h fl_X11_35_10 sh_178 (by decide) rfl dX11_cheap_235 ?_
                            refine g_iload h dX11_cheap_238 rfl ?_
                            refine g_top eb9 ?_
                            refine g_iconst (v := nI 1) h dX11_cheap_240 (by decide) ?_
                            refine g_zast h _ _ _ sh_186 (by decide) (by decide) rfl (by omega) (by decide) dX11_cheap_241 ?_
                            refine g_iload h dX11_cheap_242 rfl ?_
                            refine g_aload_n h dX11_cheap_244 rfl rfl ?_
                            refine g_getR h fl_X11_32_10 sh_178 (by decide) rfl dX11_cheap_245 ?_
                            refine g_iload h dX11_cheap_248 rfl ?_
                            refine g_top eb9 ?_
                            refine g_iald h _ _ _ sh_185 (by decide) (by decide) rfl (by omega) dX11_cheap_250 ?_
                            refine g_top (y := prI v a b9) (by rw [su_cell _ _ (by decide), hw2.2.1]; exact (hrow b9 (by omega)).1) ?_
                            refine g_iadd h dX11_cheap_251 ?_
                            refine g_istore (ls' := [(0, _), (1, _), (2, _), (3, _), (4, _), (5, _), (6, _), (7, _)]) h dX11_cheap_252 (by decide) rfl rfl ?_
                            refine g_iinc (v := nI (i + 1)) (ls' := [(0, _), (1, _), (2, _), (3, _), (4, _), (5, _), (6, _), (7, _)]) h dX11_cheap_254 rfl (nI_1 i) (by decide) rfl rfl ?_
                            refine g_goto (tgt := 152) h dX11_cheap_257 (by decide) ?_
                            refine g_del 6 (ls' := [(0, _), (1, _), (2, _), (3, _), (4, _), (5, _), (7, _)]) rfl ?_
                            refine g_del 7 (ls' := [(0, _), (1, _), (2, _), (3, _), (4, _), (5, _)]) rfl ?_
                            exact ih2 (i + 1) (su w2 186 b9 (nI 1)) _ (by omega) (by omega) ⟨sim_scr hw2.1 _ (scr_m (by decide)), (su_cell _ _ (by decide)).trans hw2.2.1, fun j hj => by
                              rw [su_at]
                              by_cases q : j = b9
                              · subst q; rw [pk_us]; exact Or.inr rfl
                              · rw [pk_un q]; exact hw2.2.2.1 j hj, by
                              rw [su_at]
                              have := cN_up (p := fun j => decide (¬ upd (w2 186) b9 (nI 1) j = 0)) (q := fun j => decide (¬ w2 186 j = 0)) (a := b9) (by rw [pk_us]; decide) (by rw [ec9]; decide) (fun j hj => by rw [pk_un hj]) 168
                              rw [if_pos (by omega)] at this
                              rw [← this, hw2.2.2.2.1], _, hst, fun j hj => by
                              rw [su_at]
                              by_cases q : j = b9
                              · subst q; rw [pk_us, pk_us, if_neg (by decide)]
                              · rw [pk_un q, pk_un q]; exact hcm j hj⟩
                          · have hcl : clF F9 168 = -1 := (cl_bs hcm (fun j hj => pr_b hK) 168 (Nat.le_refl _)).trans (by rw [← show r = 168 by omega]; exact c229)
                            have hres := hch.trans (chm_n (by omega) hcl)
                            refine g_iconst (v := -1) h dX11_cheap_232 (by decide) ?_
                            exact g_iretP h hrt dX11_cheap_233 (by omega) (pm_v (by rw [cheR, if_pos n3, if_pos n17, if_pos n28]) (by rw [ia, iN, chV, hres]) hw2.1)
                        · have n169 := nle_n (by omega) (by omega) (show ¬ nI (168) ≤ nI (r) from c169)
                          refine g_aload_n h dX11_cheap_172 rfl rfl ?_
                          refine g_getR h fl_X11_35_10 sh_178 (by decide) rfl dX11_cheap_173 ?_
                          refine g_iload h dX11_cheap_176 rfl ?_
                          refine g_zald h _ _ _ sh_186 (by decide) (by decide) rfl (by omega) dX11_cheap_178 ?_
                          refine g_if_ne (tgt := 220) h dX11_cheap_179 (by decide) (fun c179 => ?_) (fun c179 => ?_)
                          · refine g_iinc (v := nI (r + 1)) (ls' := [(0, _), (1, _), (2, _), (3, _), (4, _), (5, _), (6, _), (7, _)]) h dX11_cheap_220 rfl (nI_1 r) (by decide) rfl rfl ?_
                            refine g_goto (tgt := 164) h dX11_cheap_223 (by decide) ?_
                            exact g_cv (by rw [bs_0 (fun q => c179 q.1)]) rfl (ih3 (r + 1) (by omega) (by omega))
                          · refine g_aload_n h dX11_cheap_182 rfl rfl ?_
                            refine g_getR h fl_X11_32_10 sh_178 (by decide) rfl dX11_cheap_183 ?_
                            refine g_iload h dX11_cheap_186 rfl ?_
                            refine g_iald h _ _ _ sh_185 (by decide) (by decide) rfl (by omega) dX11_cheap_188 ?_
                            refine g_top (y := prI v a r) (by rw [hw2.2.1]; exact (hrow r (by omega)).1) ?_
                            refine g_iconst (v := -1) h dX11_cheap_189 (by decide) ?_
                            refine g_icmp_eq (tgt := 220) h dX11_cheap_190 (by decide) (fun c190 => ?_) (fun c190 => ?_)
                            · refine g_iinc (v := nI (r + 1)) (ls' := [(0, _), (1, _), (2, _), (3, _), (4, _), (5, _), (6, _), (7, _)]) h dX11_cheap_220 rfl (nI_1 r) (by decide) rfl rfl ?_
                              refine g_goto (tgt := 164) h dX11_cheap_223 (by decide) ?_
                              exact g_cv (by rw [bs_0 (fun q => q.2.1 c190)]) rfl (ih3 (r + 1) (by omega) (by omega))
                            · refine g_iload h dX11_cheap_193 rfl ?_
                              refine g_iconst (v := -1) h dX11_cheap_195 (by decide) ?_
                              refine g_icmp_eq (tgt := 216) h dX11_cheap_196 (by decide) (fun c196 => ?_) (fun c196 => ?_)
                              · refine g_iload h dX11_cheap_216 rfl ?_
                                refine g_istore (ls' := [(0, _), (1, _), (2, _), (3, _), (4, _), (5, _), (6, _), (7, _)]) h dX11_cheap_218 (by decide) rfl rfl ?_
                                refine g_iinc (v := nI (r + 1)) (ls' := [(0, _), (1, _), (2, _), (3, _), (4, _), (5, _), (6, _), (7, _)]) h dX11_cheap_220 rfl (nI_1 r) (by decide) rfl rfl ?_
                                refine g_goto (tgt := 164) h dX11_cheap_223 (by decide) ?_
                                exact g_cv (by rw [bs_1 ⟨c179, c190, Or.inl c196⟩]) rfl (ih3 (r + 1) (by omega) (by omega))
                              · obtain ⟨b9, hb9, eb9, -⟩ := (bs_i (g := prI v a) (ch := w2 186) r (by omega)).resolve_left c196
                                refine g_aload_n h dX11_cheap_199 rfl rfl ?_
                                refine g_getR h fl_X11_32_10 sh_178 (by decide) rfl dX11_cheap_200 ?_
                                refine g_iload h dX11_cheap_203 rfl ?_
                                refine g_iald h _ _ _ sh_185 (by decide) (by decide) rfl (by omega) dX11_cheap_205 ?_
                                refine g_top (y := prI v a r) (by rw [hw2.2.1]; exact (hrow r (by omega)).1) ?_
                                refine g_aload_n h dX11_cheap_206 rfl rfl ?_
                                refine g_getR h fl_X11_32_10 sh_178 (by decide) rfl dX11_cheap_207 ?_
                                refine g_iload h dX11_cheap_210 rfl ?_
                                refine g_top eb9 ?_
                                refine g_iald h _ _ _ sh_185 (by decide) (by decide) rfl (by omega) dX11_cheap_212 ?_
                                refine g_top (y := prI v a b9) (by rw [hw2.2.1]; exact (hrow b9 (by omega)).1) ?_
                                refine g_icmp_ge (tgt := 220) h dX11_cheap_213 (by decide) (fun c213 => ?_) (fun c213 => ?_)
                                · refine g_iinc (v := nI (r + 1)) (ls' := [(0, _), (1, _), (2, _), (3, _), (4, _), (5, _), (6, _), (7, _)]) h dX11_cheap_220 rfl (nI_1 r) (by decide) rfl rfl ?_
                                  refine g_goto (tgt := 164) h dX11_cheap_223 (by decide) ?_
                                  exact g_cv (by rw [bs_0 (fun q => q.2.2.elim c196 (fun z => by rw [eb9, ix_nI (by omega)] at z; exact absurd z (Int32.not_lt.mpr c213)))]) rfl (ih3 (r + 1) (by omega) (by omega))
                                · refine g_iload h dX11_cheap_216 rfl ?_
                                  refine g_istore (ls' := [(0, _), (1, _), (2, _), (3, _), (4, _), (5, _), (6, _), (7, _)]) h dX11_cheap_218 (by decide) rfl rfl ?_
                                  refine g_iinc (v := nI (r + 1)) (ls' := [(0, _), (1, _), (2, _), (3, _), (4, _), (5, _), (6, _), (7, _)]) h dX11_cheap_220 rfl (nI_1 r) (by decide) rfl rfl ?_
                                  refine g_goto (tgt := 164) h dX11_cheap_223 (by decide) ?_
                                  exact g_cv (by rw [bs_1 ⟨c179, c190, Or.inr (by rw [eb9, ix_nI (by omega)]; exact Int32.not_le.mp c213)⟩]) rfl (ih3 (r + 1) (by omega) (by omega))
                    exact LP3 (168 + 1) (0) (by omega) (by omega)
                    
              exact LP2 (N + 1) 0 w _ (by omega) (by omega) ⟨hw.1, rfl, fun j hj => Or.inl (hrow j hj).2, cN_z 168 (fun j hj q => of_decide_eq_true q (hrow j hj).2), _, by rw [Nat.sub_zero], fun j hj => by rw [(hrow j hj).2, if_pos (show (nI 0 : Int32) = 0 from rfl)]⟩
              
            · have n59 := nle_n (by omega) (by omega) (show ¬ nI (168) ≤ nI (k) from c59)
              refine g_aload_n h dX11_cheap_62 rfl rfl ?_
              refine g_getR h fl_X11_35_10 sh_178 (by decide) rfl dX11_cheap_63 ?_
              refine g_iload h dX11_cheap_66 rfl ?_
              refine g_iconst (v := nI 0) h dX11_cheap_68 (by decide) ?_
              refine g_zast h _ _ _ sh_186 (by decide) (by decide) rfl (by omega) (by decide) dX11_cheap_69 ?_
              refine g_aload_n h dX11_cheap_70 rfl rfl ?_
              refine g_getR h fl_X11_32_10 sh_178 (by decide) rfl dX11_cheap_71 ?_
              refine g_iload h dX11_cheap_74 rfl ?_
              refine g_iconst (v := -1) h dX11_cheap_76 (by decide) ?_
              refine g_iast h _ _ _ sh_185 (by decide) (by decide) rfl (by omega) dX11_cheap_77 ?_
              refine g_aload_n h dX11_cheap_78 rfl rfl ?_
              refine g_iload_n h dX11_cheap_79 rfl rfl ?_
              refine g_V h lv_X11_80_X11 sh_178 (by decide) rfl (c_X11_isChild a v T W ha _ (hK.th.sim (w := (su (su w 186 k (nI 0)) 185 k (-1))) (sim_scr (sim_scr hw.1 (nI 0) (scr_m (by decide))) (-1) (scr_m (by decide)))).r) (fitR hR (by first | decide | omega) (by decide) (by omega)) rfl rfl (Nat.le_of_ble_eq_true rfl) dX11_cheap_80 ?_
              by_cases n80 : v 13 a = -1
              · refine g_top (b2_f (fun q => q n80)) ?_
                refine g_if_ne (tgt := 140) h dX11_cheap_83 (by decide) (fun q => absurd q (by decide)) (fun _ => ?_)
                refine g_aload_n h dX11_cheap_86 rfl rfl ?_
                refine g_iload h dX11_cheap_87 rfl ?_
                refine g_iconst (v := nI 0) h dX11_cheap_89 (by decide) ?_
                refine g_V h lv_X11_84_X11 sh_178 (by decide) rfl (c_X11_ofRoom k 0 (by omega) (by decide) _) (fitR hR (by first | decide | omega) (by decide) (by omega)) rfl rfl (Nat.le_of_ble_eq_true rfl) dX11_cheap_90 ?_
                refine g_top ((hK.th.sim (w := (su (su w 186 k (nI 0)) 185 k (-1))) (sim_scr (sim_scr hw.1 (nI 0) (scr_m (by decide))) (-1) (scr_m (by decide)))).own (by omega)) ?_
                refine g_iconst (v := -1) h dX11_cheap_93 (by decide) ?_
                refine g_icmp_ne (tgt := 140) h dX11_cheap_94 (by decide) (fun c94 => ?_) (fun c94 => ?_)
                · refine g_iinc (v := nI (k + 1)) (ls' := [(0, _), (1, _), (2, _), (3, _), (4, _)]) h dX11_cheap_140 rfl (nI_1 k) (by decide) rfl rfl ?_
                  refine g_goto (tgt := 54) h dX11_cheap_143 (by decide) ?_
                  exact ih (k + 1) _ (by omega) (by omega) ⟨(sim_scr (sim_scr hw.1 (nI 0) (scr_m (by decide))) (-1) (scr_m (by decide))), fun j hj => by
                    by_cases q : j = k
                    · subst q; exact ⟨by rw [su_k]; exact (if_neg (fun q => c94 q.2.1)).symm, by rw [su_cell _ _ (by decide)]; exact su_k⟩
                    · rw [su_i q, su_cell _ _ (by decide : (185 : Nat) ≠ 186), su_cell _ _ (by decide : (186 : Nat) ≠ 185), su_i q]; exact hw.2 j (by omega)⟩
                · refine g_aload_n h dX11_cheap_97 rfl rfl ?_
                  refine g_iload h dX11_cheap_98 rfl ?_
                  refine g_iconst (v := nI 3) h dX11_cheap_100 (by decide) ?_
                  refine g_V h lv_X11_84_X11 sh_178 (by decide) rfl (c_X11_ofRoom k 3 (by omega) (by decide) _) (fitR hR (by first | decide | omega) (by decide) (by omega)) rfl rfl (Nat.le_of_ble_eq_true rfl) dX11_cheap_101 ?_
                  refine g_top ((hK.th.sim (w := (su (su w 186 k (nI 0)) 185 k (-1))) (sim_scr (sim_scr hw.1 (nI 0) (scr_m (by decide))) (-1) (scr_m (by decide)))).sht (by omega)) ?_
                  refine g_iconst (v := nI 1) h dX11_cheap_104 (by decide) ?_
                  refine g_icmp_ne (tgt := 111) h dX11_cheap_105 (by decide) (fun c105 => ?_) (fun c105 => ?_)
                  · refine g_aload_n h dX11_cheap_111 rfl rfl ?_
                    refine g_iload_n h dX11_cheap_112 rfl rfl ?_
                    refine g_iload h dX11_cheap_113 rfl ?_
                    refine g_VP h lv_X11_270_X11 sh_178 (by decide) rfl (c_X11_asksA v T W a k ha (by omega) _ (hK.th.sim (w := (su (su w 186 k (nI 0)) 185 k (-1))) (sim_scr (sim_scr hw.1 (nI 0) (scr_m (by decide))) (-1) (scr_m (by decide))))) qa2_nx (fitR hR (by first | decide | omega) (by decide) (by omega)) rfl rfl (Nat.le_of_ble_eq_true rfl) dX11_cheap_115 (fun v115 u115 hs115 => ?_)
                    obtain ⟨hv115, hs115, ha17, ha18, ha19⟩ := hs115
                    · cases hv115
                      refine g_aload_n h dX11_cheap_118 rfl rfl ?_
                      refine g_getR h fl_X11_32_10 sh_178 (by decide) rfl dX11_cheap_119 ?_
                      refine g_iload h dX11_cheap_122 rfl ?_
                      refine g_aload_n h dX11_cheap_124 rfl rfl ?_
                      refine g_getI h fl_X11_257_10 sh_178 (by decide) rfl dX11_cheap_125 ?_
                      refine g_top ha17 ?_
                      refine g_if_eq (tgt := 135) h dX11_cheap_128 (by decide) (fun c128 => ?_) (fun c128 => ?_)
                      · refine g_aload_n h dX11_cheap_135 rfl rfl ?_
                        refine g_getI h fl_X11_260_10 sh_178 (by decide) rfl dX11_cheap_136 ?_
                        refine g_top ha18 ?_
                        refine g_iast h _ _ _ sh_185 (by decide) (by decide) rfl (by omega) dX11_cheap_139 ?_
                        refine g_iinc (v := nI (k + 1)) (ls' := [(0, _), (1, _), (2, _), (3, _), (4, _)]) h dX11_cheap_140 rfl (nI_1 k) (by decide) rfl rfl ?_
                        refine g_goto (tgt := 54) h dX11_cheap_143 (by decide) ?_
                        exact ih (k + 1) _ (by omega) (by omega) ⟨sim_scr (hs115.2.trans (sim_scr (sim_scr hw.1 (nI 0) (scr_m (by decide))) (-1) (scr_m (by decide)))) _ (scr_m (by decide)), fun j hj => by
                          by_cases q : j = k
                          · subst q; exact ⟨show su u115 185 j _ 185 j = _ by rw [su_k]; exact (pr_y hK n80 c94 ((hRi.sht j (by omega)).resolve_right c105) (Bool.eq_false_iff.mpr (b2_0.mp c128))).symm, show su u115 185 j _ 186 j = _ by rw [su_cell _ _ (by decide), hs115.1 186 (by decide) (by decide), su_cell _ _ (by decide)]; exact su_k⟩
                          · rw [su_i q, su_cell _ _ (by decide : (186 : Nat) ≠ 185), hs115.1 185 (by decide) (by decide), hs115.1 186 (by decide) (by decide), su_i q, su_cell _ _ (by decide : (185 : Nat) ≠ 186), su_cell _ _ (by decide : (186 : Nat) ≠ 185), su_i q]; exact hw.2 j (by omega)⟩
                      · refine g_iconst (v := -1) h dX11_cheap_131 (by decide) ?_
                        refine g_goto (tgt := 139) h dX11_cheap_132 (by decide) ?_
                        refine g_iast h _ _ _ sh_185 (by decide) (by decide) rfl (by omega) dX11_cheap_139 ?_
                        refine g_iinc (v := nI (k + 1)) (ls' := [(0, _), (1, _), (2, _), (3, _), (4, _)]) h dX11_cheap_140 rfl (nI_1 k) (by decide) rfl rfl ?_
                        refine g_goto (tgt := 54) h dX11_cheap_143 (by decide) ?_
                        exact ih (k + 1) _ (by omega) (by omega) ⟨sim_scr (hs115.2.trans (sim_scr (sim_scr hw.1 (nI 0) (scr_m (by decide))) (-1) (scr_m (by decide)))) _ (scr_m (by decide)), fun j hj => by
                          by_cases q : j = k
                          · subst q; exact ⟨show su u115 185 j _ 185 j = _ by rw [su_k]; exact (if_neg (fun q => by have := b2_n0.mp c128; rw [q.2.2.2.1] at this; exact absurd this (by decide))).symm, show su u115 185 j _ 186 j = _ by rw [su_cell _ _ (by decide), hs115.1 186 (by decide) (by decide), su_cell _ _ (by decide)]; exact su_k⟩
                          · rw [su_i q, su_cell _ _ (by decide : (186 : Nat) ≠ 185), hs115.1 185 (by decide) (by decide), hs115.1 186 (by decide) (by decide), su_i q, su_cell _ _ (by decide : (185 : Nat) ≠ 186), su_cell _ _ (by decide : (186 : Nat) ≠ 185), su_i q]; exact hw.2 j (by omega)⟩
                  · refine g_goto (tgt := 140) h dX11_cheap_108 (by decide) ?_
                    refine g_iinc (v := nI (k + 1)) (ls' := [(0, _), (1, _), (2, _), (3, _), (4, _)]) h dX11_cheap_140 rfl (nI_1 k) (by decide) rfl rfl ?_
                    refine g_goto (tgt := 54) h dX11_cheap_143 (by decide) ?_
                    exact ih (k + 1) _ (by omega) (by omega) ⟨(sim_scr (sim_scr hw.1 (nI 0) (scr_m (by decide))) (-1) (scr_m (by decide))), fun j hj => by
                      by_cases q : j = k
                      · subst q; exact ⟨by rw [su_k]; exact (if_neg (fun q => absurd (c105.symm.trans q.2.2.1) (by decide))).symm, by rw [su_cell _ _ (by decide)]; exact su_k⟩
                      · rw [su_i q, su_cell _ _ (by decide : (185 : Nat) ≠ 186), su_cell _ _ (by decide : (186 : Nat) ≠ 185), su_i q]; exact hw.2 j (by omega)⟩
              · refine g_top (b2_t n80) ?_
                refine g_if_ne (tgt := 140) h dX11_cheap_83 (by decide) (fun _ => ?_) (fun q => absurd q (by decide))
                refine g_iinc (v := nI (k + 1)) (ls' := [(0, _), (1, _), (2, _), (3, _), (4, _)]) h dX11_cheap_140 rfl (nI_1 k) (by decide) rfl rfl ?_
                refine g_goto (tgt := 54) h dX11_cheap_143 (by decide) ?_
                exact ih (k + 1) _ (by omega) (by omega) ⟨(sim_scr (sim_scr hw.1 (nI 0) (scr_m (by decide))) (-1) (scr_m (by decide))), fun j hj => by
                  by_cases q : j = k
                  · subst q; exact ⟨by rw [su_k]; exact (if_neg (fun q => n80 q.1)).symm, by rw [su_cell _ _ (by decide)]; exact su_k⟩
                  · rw [su_i q, su_cell _ _ (by decide : (185 : Nat) ≠ 186), su_cell _ _ (by decide : (186 : Nat) ≠ 185), su_i q]; exact hw.2 j (by omega)⟩
        exact LP (168 + 1) 0 _ (by omega) (by omega) ⟨sim.refl _, fun j hj => absurd hj (Nat.not_lt_zero _)⟩
        
      · refine g_top (b2_f n28) ?_
        refine g_if_ne (tgt := 38) h dX11_cheap_31 (by decide) (fun q => absurd q (by decide)) (fun _ => ?_)
        refine g_iconst (v := nI 2) h dX11_cheap_34 (by decide) ?_
        refine g_goto (tgt := 39) h dX11_cheap_35 (by decide) ?_
        refine g_putI h pfl_X11_69_10 sh_178 (by decide) rfl dX11_cheap_39 ?_
        refine g_aload_n h dX11_cheap_42 rfl rfl ?_
        refine g_getI h fl_X11_69_10 sh_178 (by decide) rfl dX11_cheap_43 ?_
        refine g_top su_k ?_
        refine g_if_le (tgt := 51) h dX11_cheap_46 (by decide) (fun q => absurd q (by decide)) (fun _ => ?_)
        refine g_iconst (v := nI 0) h dX11_cheap_49 (by decide) ?_
        exact g_iretP h hrt dX11_cheap_50 (by omega) (by first | exact pm_x (Ex := ioob) (by rw [cheR, if_pos n3, if_pos n17, if_neg n28]) (by decide) (sim.refl _) | exact pm_x (Ex := iae) (by rw [cheR, if_pos n3, if_pos n17, if_neg n28]) (by decide) (sim.refl _))
    · refine g_top (b2_f n17) ?_
      refine g_if_eq (tgt := 34) h dX11_cheap_20 (by decide) (fun _ => ?_) (fun q => absurd q (by decide))
      refine g_iconst (v := nI 2) h dX11_cheap_34 (by decide) ?_
      refine g_goto (tgt := 39) h dX11_cheap_35 (by decide) ?_
      refine g_putI h pfl_X11_69_10 sh_178 (by decide) rfl dX11_cheap_39 ?_
      refine g_aload_n h dX11_cheap_42 rfl rfl ?_
      refine g_getI h fl_X11_69_10 sh_178 (by decide) rfl dX11_cheap_43 ?_
      refine g_top su_k ?_
      refine g_if_le (tgt := 51) h dX11_cheap_46 (by decide) (fun q => absurd q (by decide)) (fun _ => ?_)
      refine g_iconst (v := nI 0) h dX11_cheap_49 (by decide) ?_
      exact g_iretP h hrt dX11_cheap_50 (by omega) (by first | exact pm_x (Ex := ioob) (by rw [cheR, if_pos n3, if_neg n17]) (by decide) (sim.refl _) | exact pm_x (Ex := iae) (by rw [cheR, if_pos n3, if_neg n17]) (by decide) (sim.refl _))
  · refine g_top (b2_f n3) ?_
    refine g_if_ne (tgt := 13) h dX11_cheap_6 (by decide) (fun q => absurd q (by decide)) (fun _ => ?_)
    refine g_iconst (v := nI 1) h dX11_cheap_9 (by decide) ?_
    refine g_goto (tgt := 39) h dX11_cheap_10 (by decide) ?_
    refine g_putI h pfl_X11_69_10 sh_178 (by decide) rfl dX11_cheap_39 ?_
    refine g_aload_n h dX11_cheap_42 rfl rfl ?_
    refine g_getI h fl_X11_69_10 sh_178 (by decide) rfl dX11_cheap_43 ?_
    refine g_top su_k ?_
    refine g_if_le (tgt := 51) h dX11_cheap_46 (by decide) (fun q => absurd q (by decide)) (fun _ => ?_)
    refine g_iconst (v := nI 0) h dX11_cheap_49 (by decide) ?_
    exact g_iretP h hrt dX11_cheap_50 (by omega) (by first | exact pm_x (Ex := ioob) (by rw [cheR, if_neg n3]) (by decide) (sim.refl _) | exact pm_x (Ex := iae) (by rw [cheR, if_neg n3]) (by decide) (sim.refl _))
