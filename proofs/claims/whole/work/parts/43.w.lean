-- after: 38.r 39.s 40.t 41.u 42.v
def cheR (u : Sto) (x n k : Int32) : Res × Sto := if okT u x then if okN n (nI 1) (nI 20) then if okN k (-1) (n - nI 1) then (.inl (some (.int (chV u (ix x) (ix n) k))), u) else (.inr iae, u) else (.inr iae, u) else (.inr ioob, u)
def envR (u : Sto) (x : Int32) : Res × Sto := if okT u x then (.inl (some (.int (envV u (ix x)))), u) else (.inr ioob, u)
theorem gu_1 : ∀ k, k < 10 → ∀ m, m < 2 ^ k → nI m ||| one k = nI (m + 2 ^ k) := by decide +kernel
theorem gu_lt (u : Sto) (x : Int32) : ∀ k, k ≤ 10 → ∃ m, m < 2 ^ k ∧ guI u x k = nI m
  | 0, _ => ⟨0, by decide, rfl⟩
  | k + 1, hk => by
    obtain ⟨m, hm, h⟩ := gu_lt u x k (by omega)
    rw [guI]
    have e : 2 ^ (k + 1) = 2 ^ k + 2 ^ k := by rw [Nat.pow_succ]; omega
    split
    · exact ⟨m + 2 ^ k, by omega, by rw [h]; exact gu_1 k (by omega) m hm⟩
    · exact ⟨m, by omega, h⟩
theorem se_23 : ∀ m, m < 1024 → seP (nI m) → (seL (nI m) 10).length = 2 ∨ (seL (nI m) 10).length = 3 := by decide +kernel
theorem gu_23 {u : Sto} {x : Int32} {T : Nat} (hT : T ≤ 10) (h : seP (guI u x T)) : (seL (guI u x T) 10).length = 2 ∨ (seL (guI u x T) 10).length = 3 := by
  obtain ⟨m, hm, e⟩ := gu_lt u x T hT
  rw [e] at h ⊢
  exact se_23 m (Nat.lt_of_lt_of_le hm (Nat.pow_le_pow_right (by omega) hT)) h
def faV (u : Sto) (d : Nat) (L : List Nat) (h : Int32) : Int32 :=
  if h = -1 then nI (cN (faB u d L) (L.length ^ 6)) else if cN (faB u d L) (L.length ^ 6) = 0 then -1 else nI (L.getD ((fsN (faB u d L) (L.length ^ 6) / L.length ^ (5 - (ix h - 12))) % L.length) 0)
def faiR (u : Sto) (T : Nat) (d s h : Int32) : Res × Sto := if okN d (nI 0) (nI 6) then if h = -1 ∨ okN h (nI 12) (nI 17) then if seP (guI u s T) then (.inl (some (.int (faV u (ix d) (seL (guI u s T) 10) h))), u) else (.inl (some (.int (-2))), u) else (.inr iae, u) else (.inr iae, u)
def rinV (u : Sto) (a : Nat) (k : Int32) : Int32 := if rgN u a 10 0 = 0 ∨ nI (rgN u a 10 0) ≤ k then -1 else if k = -1 then nI (rgN u a 10 0) else ptI u (atF u a (ix k))
def rinR (u : Sto) (x k : Int32) : Res × Sto := if okT u x then if ¬ k < -1 then (.inl (some (.int (rinV u (ix x) k))), u) else (.inr iae, u) else (.inr ioob, u)
def turR (u : Sto) (pf pc : Nat) (x : Int32) : Res × Sto := if okT u x then if 0 < rgN u (ix x) 10 0 then (.inl (some (.int (nI (rgN u (ix x) 10 0)))), trW (rmS u pf pc) (atF u (ix x)) (fun i => ix (ptI u (atF u (ix x) i))) (rgN u (ix x) 10 0)) else (.inr ise, u) else (.inr ioob, u)
theorem rg_le (u : Sto) (a : Nat) : ∀ j n, rgN u a j n ≤ n + j
  | 0, n => Nat.zero_le _
  | j + 1, n => by
    rw [rgN]
    split
    · omega
    · split
      · omega
      · have := rg_le u a j (n + 1); omega
theorem se_nx {u : Sto} {x : Int32} : ∀ Ex u', ¬ seQ u x (.inr Ex) u' := fun _ _ h => nomatch h.1
theorem m2lt : (-1 : Int32) < nI 0 := by decide
set_option maxHeartbeats 1000000 in
theorem c_X10_cheap {E : EE} (T : Nat) (hT9 : T ≤ 10) (x n k : Int32) (u : Sto) (hw : WI u) (hT : u 10 8 = nI T) : CtP E 9 1 yX10_cheap cX10_cheap 4 (some .int) [.ref (E.ad 0), .int x, .int n, .int k] u (PSp (cheR u x n k)) := by
  refine ctp_of (by decide) (Nat.le_of_ble_eq_true rfl) (fun X h hR hrt htab hargs => ?_)
  refine g_aload_n h dX10_cheap_0 rfl rfl ?_
  refine g_iload_n h dX10_cheap_1 rfl rfl ?_
  refine g_nT h dX10_cheap_2 hR (by decide) (by omega) ⟨hT9, hT⟩ (fun hc2 => ?_) (fun hc2 => ?_)
  · exact psp (by rw [cheR, if_neg hc2]) (sim.refl _)
  obtain ⟨a, haT, ha, ea, rfl⟩ := okT_n hT9 hT hc2
  refine g_iload_n h dX10_cheap_5 rfl rfl ?_
  refine g_iconst (v := nI 1) h dX10_cheap_6 (by decide) ?_
  refine g_bipush (v := nI 20) h dX10_cheap_7 (by decide) ?_
  refine g_nN h dX10_cheap_9 hR (by decide) (by omega) (fun hc9 => ?_) (fun hc9 => ?_)
  · exact psp (by rw [cheR, if_pos hc2, ea, if_neg hc9]) (sim.refl _)
  obtain ⟨N, hN1, hN, eN, rfl⟩ := okN_k (by decide) hc9
  refine g_iload_n h dX10_cheap_12 rfl rfl ?_
  refine g_iconst (v := -1) h dX10_cheap_13 (by decide) ?_
  refine g_iload_n h dX10_cheap_14 rfl rfl ?_
  refine g_iconst (v := nI 1) h dX10_cheap_15 (by decide) ?_
  refine g_isub h dX10_cheap_16 ?_
  refine g_nN h dX10_cheap_17 hR (by decide) (by omega) (fun hc17 => ?_) (fun hc17 => ?_)
  · exact psp (by rw [cheR, if_pos hc2, ea, if_pos hc9, eN, if_neg hc17]) (sim.refl _)
  refine g_aload_n h dX10_cheap_20 rfl rfl ?_
  refine g_getR h fl_X10_70_9 sh_0 (by decide) rfl dX10_cheap_21 ?_
  refine g_iload_n h dX10_cheap_24 rfl rfl ?_
  refine g_iload_n h dX10_cheap_25 rfl rfl ?_
  refine g_iload_n h dX10_cheap_26 rfl rfl ?_
  refine g_VP h lv_X10_286_X0 sh_164 (by decide) rfl (c_X0_cheapest a ha N (by omega) _ _ hw.1) ps_nx (fitR hR (by decide) (by decide) (by omega)) rfl rfl (Nat.le_of_ble_eq_true rfl) dX10_cheap_27 (fun v27 u27 hs27 => ?_)
  obtain ⟨hv27, hs27⟩ := hs27
  cases hv27
  exact g_iretP h hrt dX10_cheap_30 (by omega) (psp (by rw [cheR, if_pos hc2, ea, if_pos hc9, eN, if_pos hc17]) hs27)
set_option maxHeartbeats 1000000 in
theorem c_X10_envies {E : EE} (T : Nat) (hT9 : T ≤ 10) (x : Int32) (u : Sto) (hw : WI u) (hT : u 10 8 = nI T) (hL : LI u) : CtP E 9 1 yX10_envies cX10_envies 2 (some .int) [.ref (E.ad 0), .int x] u (PSp (envR u x)) := by
  refine ctp_of (by decide) (Nat.le_of_ble_eq_true rfl) (fun X h hR hrt htab hargs => ?_)
  refine g_aload_n h dX10_envies_0 rfl rfl ?_
  refine g_iload_n h dX10_envies_1 rfl rfl ?_
  refine g_nT h dX10_envies_2 hR (by decide) (by omega) ⟨hT9, hT⟩ (fun hc2 => ?_) (fun hc2 => ?_)
  · exact psp (by rw [envR, if_neg hc2]) (sim.refl _)
  obtain ⟨a, haT, ha, ea, rfl⟩ := okT_n hT9 hT hc2
  refine g_aload_n h dX10_envies_5 rfl rfl ?_
  refine g_getR h fl_X10_70_9 sh_0 (by decide) rfl dX10_envies_6 ?_
  refine g_iload_n h dX10_envies_9 rfl rfl ?_
  refine g_VP h lv_X10_298_X0 sh_164 (by decide) rfl (c_X0_enviedBy a ha _ hw.1 hL) ps_nx (fitR hR (by decide) (by decide) (by omega)) rfl rfl (Nat.le_of_ble_eq_true rfl) dX10_envies_10 (fun v10 u10 hs10 => ?_)
  obtain ⟨hv10, hs10⟩ := hs10
  cases hv10
  exact g_iretP h hrt dX10_envies_13 (by omega) (psp (by rw [envR, if_pos hc2, ea]) hs10)
set_option maxHeartbeats 1000000 in
theorem c_X10_ring {E : EE} (T : Nat) (hT9 : T ≤ 10) (x k : Int32) (u : Sto) (hw : WI u) (hT : u 10 8 = nI T) : CtP E 9 1 yX10_ring cX10_ring 4 (some .int) [.ref (E.ad 0), .int x, .int k] u (PSp (rinR u x k)) := by
  refine ctp_of (by decide) (Nat.le_of_ble_eq_true rfl) (fun X h hR hrt htab hargs => ?_)
  refine g_aload_n h dX10_ring_0 rfl rfl ?_
  refine g_iload_n h dX10_ring_1 rfl rfl ?_
  refine g_nT h dX10_ring_2 hR (by decide) (by omega) ⟨hT9, hT⟩ (fun hc2 => ?_) (fun hc2 => ?_)
  · exact psp (by rw [rinR, if_neg hc2]) (sim.refl _)
  obtain ⟨a, haT, ha, ea, rfl⟩ := okT_n hT9 hT hc2
  refine g_iload_n h dX10_ring_5 rfl rfl ?_
  refine g_iconst (v := -1) h dX10_ring_6 (by decide) ?_
  refine g_icmp_ge (tgt := 21) h dX10_ring_7 (by decide) (fun c7 => ?_) (fun c7 => ?_)
  · have hk : ¬ k < -1 := Int32.not_lt.mpr c7
    refine g_aload_n h dX10_ring_21 rfl rfl ?_
    refine g_getR h fl_X10_70_9 sh_0 (by decide) rfl dX10_ring_22 ?_
    refine g_iload_n h dX10_ring_25 rfl rfl ?_
    refine g_VP h lv_X10_312_X0 sh_164 (by decide) rfl (c_X0_findRing a ha _ hw.1 hw.2.1) rg_nx (fitR hR (by decide) (by decide) (by omega)) rfl rfl (Nat.le_of_ble_eq_true rfl) dX10_ring_26 (fun v26 u26 hs26 => ?_)
    obtain ⟨hv26, hs26⟩ := hs26
    cases hv26
    have hg := rg_le u a 10 0
    obtain ⟨hs9, hrow⟩ := hs26
    refine g_istore_n (ls' := [(0, _), (1, _), (2, _), (3, _)]) h dX10_ring_29 rfl (by decide) rfl rfl ?_
    refine g_iload_n h dX10_ring_30 rfl rfl ?_
    refine g_if_eq (tgt := 39) h dX10_ring_31 (by decide) (fun c31 => ?_) (fun c31 => ?_)
    · have n31 := eq_n (by omega) (by omega) (show nI (rgN u a 10 0) = nI (0) from c31)
      have hz : rgN u a 10 0 = 0 ∨ nI (rgN u a 10 0) ≤ k := Or.inl n31
      refine g_iconst (v := -1) h dX10_ring_39 (by decide) ?_
      exact g_iretP h hrt dX10_ring_40 (by omega) (psp (by rw [rinR, if_pos hc2, ea, if_pos hk, rinV, if_pos hz]) hs9)
    · have n31 := ne_n (show ¬ nI (rgN u a 10 0) = nI (0) from c31)
      refine g_iload_n h dX10_ring_34 rfl rfl ?_
      refine g_iload_n h dX10_ring_35 rfl rfl ?_
      refine g_icmp_lt (tgt := 41) h dX10_ring_36 (by decide) (fun c36 => ?_) (fun c36 => ?_)
      · have hz : ¬ (rgN u a 10 0 = 0 ∨ nI (rgN u a 10 0) ≤ k) := fun q => by
          rcases q with q | q
          · exact n31 q
          · exact absurd c36 (Int32.not_lt.mpr q)
        refine g_iload_n h dX10_ring_41 rfl rfl ?_
        refine g_iconst (v := -1) h dX10_ring_42 (by decide) ?_
        refine g_icmp_ne (tgt := 50) h dX10_ring_43 (by decide) (fun c43 => ?_) (fun c43 => ?_)
        · have hk0 : 0 ≤ k := Int32.not_lt.mp (fun q => c43 (by
              have q1 := Int32.lt_iff_toInt_lt.mp q
              have q2 := Int32.le_iff_toInt_le.mp c7
              have e1 : (-1 : Int32).toInt = -1 := by decide
              have e2 : (0 : Int32).toInt = 0 := by decide
              exact Int32.toInt_inj.mp (by omega)))
          obtain ⟨i, hi, rfl⟩ := nI_ge0 hk0
          have hi2 := lt_n (by omega) (by omega) c36
          refine g_aload_n h dX10_ring_50 rfl rfl ?_
          refine g_getR h fl_X10_70_9 sh_0 (by decide) rfl dX10_ring_51 ?_
          refine g_iload_n h dX10_ring_54 rfl rfl ?_
          refine g_V h lv_X10_315_X0 sh_164 (by decide) rfl (c_X0_pointedBy i (by omega) _) (fitR hR (by decide) (by decide) (by omega)) rfl rfl (Nat.le_of_ble_eq_true rfl) dX10_ring_55 ?_
          exact g_iretP h hrt dX10_ring_58 (by omega) (by first | exact psp (by rw [rinR, if_pos hc2, ea, if_pos hk, rinV, if_neg hz, if_pos c43]) hs9 | exact psp (by rw [rinR, if_pos hc2, ea, if_pos hk, rinV, if_neg hz, if_neg c43, ix_nI hi]; rw [(hrow i hi2).2.1]) hs9)
        · refine g_iload_n h dX10_ring_46 rfl rfl ?_
          refine g_goto (tgt := 58) h dX10_ring_47 (by decide) ?_
          exact g_iretP h hrt dX10_ring_58 (by omega) (by first | exact psp (by rw [rinR, if_pos hc2, ea, if_pos hk, rinV, if_neg hz, if_pos c43]) hs9 | exact psp (by rw [rinR, if_pos hc2, ea, if_pos hk, rinV, if_neg hz, if_neg c43, ix_nI hi]; rw [(hrow i hi2).2.1]) hs9)
      · have hz : rgN u a 10 0 = 0 ∨ nI (rgN u a 10 0) ≤ k := Or.inr (Int32.not_lt.mp c36)
        refine g_iconst (v := -1) h dX10_ring_39 (by decide) ?_
        exact g_iretP h hrt dX10_ring_40 (by omega) (psp (by rw [rinR, if_pos hc2, ea, if_pos hk, rinV, if_pos hz]) hs9)
  · have hk : ¬ ¬ k < -1 := fun q => q (Int32.not_le.mp c7)
    exact g_throwWP h th_X10_310_118 dX10_ring_10 dX10_ring_13 dX10_ring_14 dX10_ring_17 dX10_ring_20 htab (by rw [hR]; decide) (by rw [hR]; decide) (by rw [hR]; decide) (by rw [hR]; decide) (by omega) (psp (by rw [rinR, if_pos hc2, ea, if_neg hk]; rfl) (sim.refl _))
set_option maxHeartbeats 1000000 in
theorem c_X10_turn {E : EE} (T : Nat) (hT9 : T ≤ 10) (pf pc : Nat) (x : Int32) (u : Sto) (hw : WI u) (hT : u 10 8 = nI T) (hp : PI u pf pc) : CtP E 9 1 yX10_turn cX10_turn 3 (some .int) [.ref (E.ad 0), .int x] u (PSp (turR u pf pc x)) := by
  refine ctp_of (by decide) (Nat.le_of_ble_eq_true rfl) (fun X h hR hrt htab hargs => ?_)
  refine g_aload_n h dX10_turn_0 rfl rfl ?_
  refine g_iload_n h dX10_turn_1 rfl rfl ?_
  refine g_nT h dX10_turn_2 hR (by decide) (by omega) ⟨hT9, hT⟩ (fun hc2 => ?_) (fun hc2 => ?_)
  · exact psp (by rw [turR, if_neg hc2]) (sim.refl _)
  obtain ⟨a, haT, ha, ea, rfl⟩ := okT_n hT9 hT hc2
  refine g_aload_n h dX10_turn_5 rfl rfl ?_
  refine g_getR h fl_X10_70_9 sh_0 (by decide) rfl dX10_turn_6 ?_
  refine g_iload_n h dX10_turn_9 rfl rfl ?_
  refine g_VP h lv_X10_312_X0 sh_164 (by decide) rfl (c_X0_findRing a ha _ hw.1 hw.2.1) rg_nx (fitR hR (by decide) (by decide) (by omega)) rfl rfl (Nat.le_of_ble_eq_true rfl) dX10_turn_10 (fun v10 u10 hs10 => ?_)
  obtain ⟨hv10, hs10⟩ := hs10
  cases hv10
  have hg := rg_le u a 10 0
  obtain ⟨hs9, hrow⟩ := hs10
  refine g_istore_n (ls' := [(0, _), (1, _), (2, _)]) h dX10_turn_13 rfl (by decide) rfl rfl ?_
  refine g_iload_n h dX10_turn_14 rfl rfl ?_
  refine g_j1 23 (x := b2 (0 < rgN u a 10 0)) ?_ (fun J23 => ?_)
  · refine g_nA h dX10_turn_23 hR (by decide) (by omega) (fun hc23 => ?_) (fun hc23 => ?_)
    · exact psp (by rw [turR, if_pos hc2, ea, if_neg hc23]) hs9
    refine g_aload_n h dX10_turn_26 rfl rfl ?_
    refine g_V h lv_X10_222_X10 sh_0 (by decide) rfl (c_X10_remember pf pc _ (PI_sim hs9 hp)) (fitR hR (by decide) (by decide) (by omega)) rfl rfl (Nat.le_of_ble_eq_true rfl) dX10_turn_27 ?_
    refine g_aload_n h dX10_turn_30 rfl rfl ?_
    refine g_getR h fl_X10_70_9 sh_0 (by decide) rfl dX10_turn_31 ?_
    refine g_iload_n h dX10_turn_34 rfl rfl ?_
    refine g_V h lv_X10_318_X0 sh_164 (by decide) rfl (c_X0_turnRing (atF u a) (fun i => ix (ptI u (atF u a i))) _ (by omega) _ (WI_rm (WI_sim hs9 hw) pf pc) (fun i hi => by
    obtain ⟨q1, q2, q3, q4⟩ := hrow i hi
    have q5 := tn_ix (by decide) (pt_tn u (atF u a i)) q3
    exact ⟨by rw [rmS_c (by decide) (by omega)]; exact q1, by rw [rmS_c (by decide) (by omega), q2]; exact q5.1, q4, q5.2⟩)) (fitR hR (by decide) (by decide) (by omega)) rfl rfl (Nat.le_of_ble_eq_true rfl) dX10_turn_35 ?_
    refine g_iload_n h dX10_turn_38 rfl rfl ?_
    exact g_iretP h hrt dX10_turn_39 (by omega) (psp (by rw [turR, if_pos hc2, ea, if_pos hc23]) (trW_sim (rmS_sim hs9 pf pc) _ _ _))
  · refine g_if_le (tgt := 22) h dX10_turn_15 (by decide) (fun c15 => ?_) (fun c15 => ?_)
    · have n15 := le_n (by omega) (by omega) (show nI (rgN u a 10 0) ≤ nI (0) from c15)
      refine g_iconst (v := nI 0) h dX10_turn_22 (by decide) ?_
      exact g_top (by first | rw [b2_f (by omega)] | rw [b2_t (by omega)]) J23
    · have n15 := nle_n (by omega) (by omega) (show ¬ nI (rgN u a 10 0) ≤ nI (0) from c15)
      refine g_iconst (v := nI 1) h dX10_turn_18 (by decide) ?_
      refine g_goto (tgt := 23) h dX10_turn_19 (by decide) ?_
      exact g_top (by first | rw [b2_f (by omega)] | rw [b2_t (by omega)]) J23
theorem vaF_sim {w u : Sto} (h : sim w u) (d : Nat) (L : List Nat) : vaF w d L = vaF u d L := funext fun j => vlI_sim h _ _
theorem faB_sim {w u : Sto} (h : sim w u) (d : Nat) (L : List Nat) : faB w d L = faB u d L := funext fun k => by rw [faB, faB, vaF_sim h]
set_option maxHeartbeats 1000000 in
theorem c_X10_fair {E : EE} (T : Nat) (hT9 : T ≤ 10) (d s h9 : Int32) (u : Sto) (hw : WI u) (hT : u 10 8 = nI T) : CtP E 9 1 yX10_fair cX10_fair 5 (some .int) [.ref (E.ad 0), .int d, .int s, .int h9] u (PSp (faiR u T d s h9)) := by
  refine ctp_of (by decide) (Nat.le_of_ble_eq_true rfl) (fun X h hR hrt htab hargs => ?_)
  refine g_iload_n h dX10_fair_0 rfl rfl ?_
  refine g_iconst (v := nI 0) h dX10_fair_1 (by decide) ?_
  refine g_bipush (v := nI 6) h dX10_fair_2 (by decide) ?_
  refine g_nN h dX10_fair_4 hR (by decide) (by omega) (fun hc4 => ?_) (fun hc4 => ?_)
  · exact psp (by rw [faiR, if_neg hc4]) (sim.refl _)
  obtain ⟨d9, hd1, hd6, ed, rfl⟩ := okN_k (by decide) hc4
  refine g_iload_n h dX10_fair_7 rfl rfl ?_
  refine g_iconst (v := -1) h dX10_fair_8 (by decide) ?_
  refine g_icmp_eq (tgt := 20) h dX10_fair_9 (by decide) (fun c9 => ?_) (fun c9 => ?_)
  · have hz : h9 = -1 ∨ okN h9 (nI 12) (nI 17) := Or.inl c9
    refine g_aload_n h dX10_fair_20 rfl rfl ?_
    refine g_getR h fl_X10_70_9 sh_0 (by decide) rfl dX10_fair_21 ?_
    refine g_aload_n h dX10_fair_24 rfl rfl ?_
    refine g_getR h fl_X10_20_9 sh_0 (by decide) rfl dX10_fair_25 ?_
    refine g_iload_n h dX10_fair_28 rfl rfl ?_
    refine g_V h lv_X10_280_X9 sh_2 (by decide) rfl (c_X9_grownUps T hT9 _ _ hT) (fitR hR (by decide) (by decide) (by omega)) rfl rfl (Nat.le_of_ble_eq_true rfl) dX10_fair_29 ?_
    refine g_VP h lv_X10_301_X0 sh_164 (by decide) rfl (c_X0_seat _ _) se_nx (fitR hR (by decide) (by decide) (by omega)) rfl rfl (Nat.le_of_ble_eq_true rfl) dX10_fair_32 (fun v32 u32 hs32 => ?_)
    obtain ⟨hv32, hs32⟩ := hs32
    cases hv32
    obtain ⟨hs9, hrw⟩ := hs32
    refine g_if_ne (tgt := 41) h dX10_fair_35 (by decide) (fun c35 => ?_) (fun c35 => ?_)
    · have d35 := b2_n0.mp c35
      have hM := gu_23 hT9 d35
      obtain ⟨hr1, hr2⟩ := hrw d35
      refine g_aload_n h dX10_fair_41 rfl rfl ?_
      refine g_getR h fl_X10_70_9 sh_0 (by decide) rfl dX10_fair_42 ?_
      refine g_iload_n h dX10_fair_45 rfl rfl ?_
      refine g_VP h lv_X10_304_X0 sh_164 (by decide) rfl (c_X0_dealFairly d9 (by omega) (seL (guI u s T) 10) _ rfl hM (fun z hz9 => seL_lt _ 10 z hz9) _ (lawI_sim hs9 hw.1) hr1 hr2) df_nx (fitR hR (by decide) (by decide) (by omega)) rfl rfl (Nat.le_of_ble_eq_true rfl) dX10_fair_46 (fun v46 u46 hs46 => ?_)
      obtain ⟨hv46, hs46⟩ := hs46
      cases hv46
      obtain ⟨hs8, hr3, hr4⟩ := hs46
      have e46 : faB u32 d9 (seL (guI u s T) 10) = faB u d9 (seL (guI u s T) 10) := faB_sim hs9 _ _
      rw [e46] at hr4
      rw [e46]
      have hcl := cN_le (faB u d9 (seL (guI u s T) 10)) ((seL (guI u s T) 10).length ^ 6)
      have hp6 := pw6 hM
      refine g_istore (ls' := [(0, _), (1, _), (2, _), (3, _), (4, _)]) h dX10_fair_49 (by decide) rfl rfl ?_
      refine g_iload_n h dX10_fair_51 rfl rfl ?_
      refine g_iconst (v := -1) h dX10_fair_52 (by decide) ?_
      refine g_icmp_ne (tgt := 59) h dX10_fair_53 (by decide) (fun c53 => ?_) (fun c53 => ?_)
      · exact absurd c9 c53
      · have d53 := c53
        refine g_iload h dX10_fair_56 rfl ?_
        exact g_iretP h hrt dX10_fair_58 (by omega) (psp (by rw [faiR, if_pos hc4, ed, if_pos hz, if_pos d35, faV, if_pos c53]) (hs8.trans hs9))
    · have d35 := b2_0.mp c35
      refine g_bipush (v := -2) h dX10_fair_38 (by decide) ?_
      exact g_iretP h hrt dX10_fair_40 (by omega) (psp (by rw [faiR, if_pos hc4, ed, if_pos hz, if_neg d35]) hs9)
  · have hy : ¬ h9 = -1 := c9
    refine g_iload_n h dX10_fair_12 rfl rfl ?_
    refine g_bipush (v := nI 12) h dX10_fair_13 (by decide) ?_
    refine g_bipush (v := nI 17) h dX10_fair_15 (by decide) ?_
    refine g_nN h dX10_fair_17 hR (by decide) (by omega) (fun hc17 => ?_) (fun hc17 => ?_)
    · exact psp (by rw [faiR, if_pos hc4, ed, if_neg (fun q => by rcases q with q | q; exact hy q; exact hc17 q)]) (sim.refl _)
    have hz : h9 = -1 ∨ okN h9 (nI 12) (nI 17) := Or.inr hc17
    refine g_aload_n h dX10_fair_20 rfl rfl ?_
    refine g_getR h fl_X10_70_9 sh_0 (by decide) rfl dX10_fair_21 ?_
    refine g_aload_n h dX10_fair_24 rfl rfl ?_
    refine g_getR h fl_X10_20_9 sh_0 (by decide) rfl dX10_fair_25 ?_
    refine g_iload_n h dX10_fair_28 rfl rfl ?_
    refine g_V h lv_X10_280_X9 sh_2 (by decide) rfl (c_X9_grownUps T hT9 _ _ hT) (fitR hR (by decide) (by decide) (by omega)) rfl rfl (Nat.le_of_ble_eq_true rfl) dX10_fair_29 ?_
    refine g_VP h lv_X10_301_X0 sh_164 (by decide) rfl (c_X0_seat _ _) se_nx (fitR hR (by decide) (by decide) (by omega)) rfl rfl (Nat.le_of_ble_eq_true rfl) dX10_fair_32 (fun v32 u32 hs32 => ?_)
    obtain ⟨hv32, hs32⟩ := hs32
    cases hv32
    obtain ⟨hs9, hrw⟩ := hs32
    refine g_if_ne (tgt := 41) h dX10_fair_35 (by decide) (fun c35 => ?_) (fun c35 => ?_)
    · have d35 := b2_n0.mp c35
      have hM := gu_23 hT9 d35
      obtain ⟨hr1, hr2⟩ := hrw d35
      refine g_aload_n h dX10_fair_41 rfl rfl ?_
      refine g_getR h fl_X10_70_9 sh_0 (by decide) rfl dX10_fair_42 ?_
      refine g_iload_n h dX10_fair_45 rfl rfl ?_
      refine g_VP h lv_X10_304_X0 sh_164 (by decide) rfl (c_X0_dealFairly d9 (by omega) (seL (guI u s T) 10) _ rfl hM (fun z hz9 => seL_lt _ 10 z hz9) _ (lawI_sim hs9 hw.1) hr1 hr2) df_nx (fitR hR (by decide) (by decide) (by omega)) rfl rfl (Nat.le_of_ble_eq_true rfl) dX10_fair_46 (fun v46 u46 hs46 => ?_)
      obtain ⟨hv46, hs46⟩ := hs46
      cases hv46
      obtain ⟨hs8, hr3, hr4⟩ := hs46
      have e46 : faB u32 d9 (seL (guI u s T) 10) = faB u d9 (seL (guI u s T) 10) := faB_sim hs9 _ _
      rw [e46] at hr4
      rw [e46]
      have hcl := cN_le (faB u d9 (seL (guI u s T) 10)) ((seL (guI u s T) 10).length ^ 6)
      have hp6 := pw6 hM
      refine g_istore (ls' := [(0, _), (1, _), (2, _), (3, _), (4, _)]) h dX10_fair_49 (by decide) rfl rfl ?_
      refine g_iload_n h dX10_fair_51 rfl rfl ?_
      refine g_iconst (v := -1) h dX10_fair_52 (by decide) ?_
      refine g_icmp_ne (tgt := 59) h dX10_fair_53 (by decide) (fun c53 => ?_) (fun c53 => ?_)
      · have d53 := c53
        refine g_iload h dX10_fair_59 rfl ?_
        refine g_if_ne (tgt := 68) h dX10_fair_61 (by decide) (fun c61 => ?_) (fun c61 => ?_)
        · have n61 := ne_n (show ¬ nI (cN (faB u d9 (seL (guI u s T) 10)) ((seL (guI u s T) 10).length ^ 6)) = nI (0) from c61)
          obtain ⟨N9, hN1, hN2, eN, rfl⟩ := okN_k (by decide) hc17
          have hj9 : fsN (faB u d9 (seL (guI u s T) 10)) ((seL (guI u s T) 10).length ^ 6) / (seL (guI u s T) 10).length ^ (5 - (N9 - 12)) % (seL (guI u s T) 10).length < 3 := Nat.lt_of_lt_of_le (Nat.mod_lt _ (by omega)) (seL_len _ 10)
          have hj8 : fsN (faB u d9 (seL (guI u s T) 10)) ((seL (guI u s T) 10).length ^ 6) / (seL (guI u s T) 10).length ^ (5 - (N9 - 12)) % (seL (guI u s T) 10).length < (seL (guI u s T) 10).length := Nat.mod_lt _ (by omega)
          refine g_aload_n h dX10_fair_68 rfl rfl ?_
          refine g_getR h fl_X10_70_9 sh_0 (by decide) rfl dX10_fair_69 ?_
          refine g_iload_n h dX10_fair_72 rfl rfl ?_
          refine g_bipush (v := nI 12) h dX10_fair_73 (by decide) ?_
          refine g_isub h dX10_fair_75 ?_
          refine g_top (pk_sub (a := N9) (b := 12) (by omega)) ?_
          refine g_V h lv_X10_307_X0 sh_164 (by decide) rfl (c_X0_dealtTo (N9 - 12) (by omega) _ hj9 _ ((hr4 n61 _ (by omega)).trans rfl)) (fitR hR (by decide) (by decide) (by omega)) rfl rfl (Nat.le_of_ble_eq_true rfl) dX10_fair_76 ?_
          exact g_iretP h hrt dX10_fair_79 (by omega) (by first | exact psp (by rw [faiR, if_pos hc4, ed, if_pos hz, if_pos d35, faV, if_neg c53, if_pos n61]) (hs8.trans hs9) | exact psp (by rw [faiR, if_pos hc4, ed, if_pos hz, if_pos d35, faV, if_neg c53, if_neg n61, eN, hr3 _ hj8]; simp [List.getD, hj8]) (hs8.trans hs9))
        · have n61 := eq_n (by omega) (by omega) (show nI (cN (faB u d9 (seL (guI u s T) 10)) ((seL (guI u s T) 10).length ^ 6)) = nI (0) from c61)
          refine g_iconst (v := -1) h dX10_fair_64 (by decide) ?_
          refine g_goto (tgt := 79) h dX10_fair_65 (by decide) ?_
          exact g_iretP h hrt dX10_fair_79 (by omega) (by first | exact psp (by rw [faiR, if_pos hc4, ed, if_pos hz, if_pos d35, faV, if_neg c53, if_pos n61]) (hs8.trans hs9) | exact psp (by rw [faiR, if_pos hc4, ed, if_pos hz, if_pos d35, faV, if_neg c53, if_neg n61, eN, hr3 _ hj8]; simp [List.getD, hj8]) (hs8.trans hs9))
      · have d53 := c53
        refine g_iload h dX10_fair_56 rfl ?_
        exact g_iretP h hrt dX10_fair_58 (by omega) (psp (by rw [faiR, if_pos hc4, ed, if_pos hz, if_pos d35, faV, if_pos c53]) (hs8.trans hs9))
    · have d35 := b2_0.mp c35
      refine g_bipush (v := -2) h dX10_fair_38 (by decide) ?_
      exact g_iretP h hrt dX10_fair_40 (by omega) (psp (by rw [faiR, if_pos hc4, ed, if_pos hz, if_neg d35]) hs9)
