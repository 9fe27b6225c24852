def lawI (u : Sto) : Prop := u 19 5 = -1 ∨ ∃ n, lwB u n ∧ u 19 5 = nI n
def brP (u : Sto) (a r : Nat) : Bool := if u 19 5 = -1 then false else brB (fct u a r) u (ix (u 19 5))
def rtI (u : Sto) (a r : Nat) : Int32 := if u 19 5 = -1 then nI 5 else slI (fct u a r) u (nI 1) (ix (u 19 5))
def vlI (u : Sto) (a r : Nat) : Int32 := if u 19 5 = -1 then b2 (lkP u a r) else slI (fct u a r) u (nI 2) (ix (u 19 5))
theorem runL_cong {f g ws : Nat → Int32} {b : Nat} (h : ∀ i, i < 8 → f i = g i) : ∀ k, runL f ws b k = runL g ws b k
  | 0 => rfl
  | k + 1 => by
    rw [runL, runL, runL_cong h k]
    generalize ws (b + k) = w
    unfold stL
    by_cases h1 : w < -8
    · rw [if_pos h1, if_pos h1]
    · rw [if_neg h1, if_neg h1]
      by_cases h2 : w < 0
      · obtain ⟨j, hj, e⟩ := wi_fact h1 h2
        rw [if_pos h2, if_pos h2, e, ix_nI (by omega), h j hj]
      · rw [if_neg h2, if_neg h2]
theorem hldB_cong {f g : Nat → Int32} {u v : Sto} (l : Nat) (h : ∀ i, i < 8 → f i = g i) (h20 : u 20 = v 20) (h21 : u 21 = v 21) : hldB f u l = hldB g v l := by
  unfold hldB
  rw [h20, h21, runL_cong h]
theorem brB_cong {f g : Nat → Int32} {u v : Sto} (n : Nat) (h : ∀ i, i < 8 → f i = g i) (h20 : u 20 = v 20) (h21 : u 21 = v 21) (h22 : u 22 = v 22) : brB f u n = brB g v n := by
  unfold brB
  rw [h22]
  exact anyB_cong (fun k _ => by rw [hldB_cong k h h20 h21])
theorem slI_cong {f g : Nat → Int32} {u v : Sto} (kd : Int32) (n : Nat) (h : ∀ i, i < 8 → f i = g i) (h20 : u 20 = v 20) (h21 : u 21 = v 21) (h22 : u 22 = v 22) (h23 : u 23 = v 23) : slI f u kd n = slI g v kd n := by
  unfold slI
  rw [h22, h23]
  exact smI_cong (fun k _ => by rw [hldB_cong k h h20 h21])
theorem lwB_cong {u v : Sto} {n : Nat} (h : u 21 = v 21) (q : lwB u n) : lwB v n := by
  unfold lwB at q ⊢
  rw [← h]
  exact q
section SIM
variable {w u : Sto}
theorem sim.c (h : sim w u) (k : Nat) (hk : k < 24) : w k = u k := h.cell k (fun j => by
  unfold scrB
  have e1 : (k == 24) = false := by simp; omega
  have e2 : (k == 25) = false := by simp; omega
  have e3 : (k == 163) = false := by simp; omega
  have e4 : (k == 178) = false := by simp; omega
  have e5 : decide (164 ≤ k) = false := by simp; omega
  have e6 : decide (184 ≤ k) = false := by simp; omega
  rw [e1, e2, e3, e4, e5, e6]
  rfl)
theorem lvT_sim (h : sim w u) (r : Nat) : lvT w 3 r = lvT u 3 r := by
  unfold lvT
  rw [h.c 4 (by decide), h.c 5 (by decide)]
theorem b2_iff {p q : Prop} [Decidable p] [Decidable q] (h : p ↔ q) : b2 p = b2 q := by
  by_cases hp : p
  · rw [b2_t hp, b2_t (h.mp hp)]
  · rw [b2_f hp, b2_f (fun x => hp (h.mpr x))]
theorem lk_sim (h : sim w u) (a r : Nat) : b2 (lkP w a r) = b2 (lkP u a r) := b2_iff (by rw [lkP, lkP, h.c 11 (by decide), h.c 12 (by decide)])
theorem fct_sim (h : sim w u) (a r i : Nat) : fct w a r i = fct u a r i := by
  unfold fct
  simp only [lk_sim h, lvT_sim h, h.c 7 (by decide), h.c 8 (by decide), h.c 6 (by decide), h.c 3 (by decide), h.c 11 (by decide), h.c 12 (by decide)]
theorem fct_simF (h : sim w u) (a r : Nat) : fct w a r = fct u a r := funext (fct_sim h a r)
theorem lawI_sim (h : sim w u) (q : lawI u) : lawI w := by
  unfold lawI
  rw [h.c 19 (by decide)]
  rcases q with q | ⟨n, q1, q2⟩
  · exact Or.inl q
  · exact Or.inr ⟨n, lwB_cong (h.c 21 (by decide)).symm q1, q2⟩
theorem brP_sim (h : sim w u) (a r : Nat) : brP w a r = brP u a r := by
  unfold brP
  rw [h.c 19 (by decide), fct_simF h, brB_cong _ (fun _ _ => rfl) (h.c 20 (by decide)) (h.c 21 (by decide)) (h.c 22 (by decide))]
theorem rtI_sim (h : sim w u) (a r : Nat) : rtI w a r = rtI u a r := by
  unfold rtI
  rw [h.c 19 (by decide), fct_simF h, slI_cong _ _ (fun _ _ => rfl) (h.c 20 (by decide)) (h.c 21 (by decide)) (h.c 22 (by decide)) (h.c 23 (by decide))]
theorem vlI_sim (h : sim w u) (a r : Nat) : vlI w a r = vlI u a r := by
  unfold vlI
  rw [h.c 19 (by decide), fct_simF h, slI_cong _ _ (fun _ _ => rfl) (h.c 20 (by decide)) (h.c 21 (by decide)) (h.c 22 (by decide)) (h.c 23 (by decide)), lk_sim h]
end SIM
theorem sim_24_25 {u : Sto} {f g : Nat → Int32} : sim (sc (sc u 25 f) 24 g) u := (sim_sc (fun _ => rfl)).trans (sim_sc (fun j => by simp [scrB]))
theorem brP_le {u : Sto} {a r : Nat} (hl : lawI u) (h : u 19 5 ≤ 0) : brP u a r = false := by
  unfold brP
  rcases hl with e | ⟨n, hn, e⟩
  · rw [if_pos e]
  · have h12 := hn.1
    rw [e] at h ⊢
    have : n = 0 := by
      have := le_n (b := 0) (by omega) (by omega) h
      omega
    subst this
    rw [if_neg (by decide)]
    rfl
theorem law_n {u : Sto} (hl : lawI u) (h : ¬ u 19 5 = -1) : ∃ n, lwB u n ∧ u 19 5 = nI n ∧ ix (u 19 5) = n ∧ n ≤ 12 := by
  rcases hl with e | ⟨n, hn, e⟩
  · exact absurd e h
  · exact ⟨n, hn, e, by rw [e]; exact ix_nI (by have := hn.1; omega), hn.1⟩
def tim (a b : Sto) : Prop := ∀ k, k ≠ 24 → k ≠ 25 → a k = b k
theorem tim.refl (a : Sto) : tim a a := fun _ _ _ => rfl
theorem tim.trans {a b c : Sto} (h : tim a b) (g : tim b c) : tim a c := fun k h1 h2 => (h k h1 h2).trans (g k h1 h2)
theorem tim.sim {a b : Sto} (h : tim a b) : sim a b := fun k j q => by
  rw [h k (fun e => by subst e; simp [scrB] at q) (fun e => by subst e; simp [scrB] at q)]
theorem tim_24_25 {u : Sto} {f g : Nat → Int32} : tim (sc (sc u 25 f) 24 g) u := fun k h1 h2 => by rw [sc_ne _ _ h1, sc_ne _ _ h2]
abbrev PT (o : Res) (U : Sto) : Res → Sto → Prop := fun o' u' => o' = o ∧ tim u' U
theorem pt_nx {v : Option Value} {U : Sto} : ∀ Ex u', ¬ PT (.inl v) U (.inr Ex) u' := fun _ _ h => nomatch h.1
theorem pt_ps {E : EE} {L mc : Nat} {y : MethodName} {cc : ByteArray} {nL : Nat} {ret : Option FieldType} {as : List Value} {u : Sto} {o : Res} {U : Sto} (hc : CtP E L mc y cc nL ret as u (PT o U)) : CtP E L mc y cc nL ret as u (PS o U) := ctp_mono hc (fun _ _ h => ⟨h.1, h.2.sim⟩)
set_option maxHeartbeats 1000000 in
theorem c_X9_isBarredT {E : EE} (a : Nat) (ha : a < 10) (r : Nat) (hr : r < 168) (u : Sto) (hl : lawI u) : CtP E 4 0 yX9_isBarred cX9_isBarred 3 (some .boolean) [.ref (E.ad 2), .int (nI a), .int (nI r)] u (PT (.inl (some (.int (b2 (brP u a r = true))))) u) := by
  refine ctp_of (by decide) (Nat.le_of_ble_eq_true rfl) (fun X h hR hrt htab hargs => ?_)
  refine g_aload_n h dX9_isBarred_0 rfl rfl ?_
  refine g_getR h fl_X9_28_8 sh_2 (by decide) rfl dX9_isBarred_1 ?_
  refine g_getI h fl_X9_93_2 sh_19 (by decide) rfl dX9_isBarred_4 ?_
  refine g_if_le (tgt := 30) h dX9_isBarred_7 (by decide) (fun c7 => ?_) (fun c7 => ?_)
  · refine g_iconst (v := nI 0) h dX9_isBarred_30 (by decide) ?_
    exact g_zretP h hrt dX9_isBarred_31 (by omega) (by first | exact Or.inl rfl | exact Or.inr rfl | simp) ⟨by rw [b2_f (by rw [brP_le hl c7]; exact Bool.false_ne_true)], tim.refl _⟩
  · have hne : ¬ u 19 5 = -1 := fun q => c7 (by rw [q]; decide)
    obtain ⟨n, hn, hx, hi, hn12⟩ := law_n hl hne
    refine g_aload_n h dX9_isBarred_10 rfl rfl ?_
    refine g_getR h fl_X9_28_8 sh_2 (by decide) rfl dX9_isBarred_11 ?_
    refine g_aload_n h dX9_isBarred_14 rfl rfl ?_
    refine g_iload_n h dX9_isBarred_15 rfl rfl ?_
    refine g_iload_n h dX9_isBarred_16 rfl rfl ?_
    refine g_VP h lv_X9_96_X9 sh_2 (by decide) rfl (c_X9_lookAt a ha r hr _) pl_nx (fitR hR (by decide) (by decide) (by omega)) rfl rfl (Nat.le_of_ble_eq_true rfl) dX9_isBarred_17 (fun v17 u17 hs17 => ?_)
    obtain ⟨hv17, hs17⟩ := hs17
    cases hv17
    obtain ⟨f, rfl, hf⟩ := hs17
    refine g_VP h lv_X9_100_X2 sh_19 (by decide) rfl (c_X2_bars n _ (lwB_cong (sc_ne _ _ (by decide)).symm hn) (by rw [sc_ne _ _ (by decide)]; exact hx)) p24_nx (fitR hR (by decide) (by decide) (by omega)) rfl rfl (Nat.le_of_ble_eq_true rfl) dX9_isBarred_20 (fun v20 u20 hs20 => ?_)
    obtain ⟨hv20, hs20⟩ := hs20
    cases hv20
    obtain ⟨g, rfl⟩ := hs20
    refine g_top (y := b2 (brP u a r = true)) (by rw [brP, if_neg hne, hi]; exact congrArg (fun b => b2 (b = true)) (brB_cong _ (fun i hi => by rw [sc_at]; exact hf i hi) (sc_ne _ _ (by decide)) (sc_ne _ _ (by decide)) (sc_ne _ _ (by decide)))) ?_
    refine g_if_eq (tgt := 30) h dX9_isBarred_23 (by decide) (fun c23 => ?_) (fun c23 => ?_)
    · have d23 := b2_0.mp c23
      refine g_iconst (v := nI 0) h dX9_isBarred_30 (by decide) ?_
      exact g_zretP h hrt dX9_isBarred_31 (by omega) (by first | exact Or.inl rfl | exact Or.inr rfl | simp) ⟨by first | rw [b2_f d23] | rw [b2_t d23], tim_24_25⟩
    · have d23 := b2_n0.mp c23
      refine g_iconst (v := nI 1) h dX9_isBarred_26 (by decide) ?_
      refine g_goto (tgt := 31) h dX9_isBarred_27 (by decide) ?_
      exact g_zretP h hrt dX9_isBarred_31 (by omega) (by first | exact Or.inl rfl | exact Or.inr rfl | simp) ⟨by first | rw [b2_f d23] | rw [b2_t d23], tim_24_25⟩
set_option maxHeartbeats 1000000 in
theorem c_X9_rentOfT {E : EE} (a : Nat) (ha : a < 10) (r : Nat) (hr : r < 168) (u : Sto) (hl : lawI u) : CtP E 4 0 yX9_rentOf cX9_rentOf 3 (some .int) [.ref (E.ad 2), .int (nI a), .int (nI r)] u (PT (.inl (some (.int (rtI u a r)))) u) := by
  refine ctp_of (by decide) (Nat.le_of_ble_eq_true rfl) (fun X h hR hrt htab hargs => ?_)
  refine g_aload_n h dX9_rentOf_0 rfl rfl ?_
  refine g_getR h fl_X9_28_8 sh_2 (by decide) rfl dX9_rentOf_1 ?_
  refine g_getI h fl_X9_93_2 sh_19 (by decide) rfl dX9_rentOf_4 ?_
  refine g_iconst (v := -1) h dX9_rentOf_7 (by decide) ?_
  refine g_icmp_ne (tgt := 15) h dX9_rentOf_8 (by decide) (fun c8 => ?_) (fun c8 => ?_)
  · obtain ⟨n, hn, hx, hi, hn12⟩ := law_n hl c8
    refine g_aload_n h dX9_rentOf_15 rfl rfl ?_
    refine g_getR h fl_X9_28_8 sh_2 (by decide) rfl dX9_rentOf_16 ?_
    refine g_iconst (v := nI 1) h dX9_rentOf_19 (by decide) ?_
    refine g_aload_n h dX9_rentOf_20 rfl rfl ?_
    refine g_iload_n h dX9_rentOf_21 rfl rfl ?_
    refine g_iload_n h dX9_rentOf_22 rfl rfl ?_
    refine g_VP h lv_X9_96_X9 sh_2 (by decide) rfl (c_X9_lookAt a ha r hr _) pl_nx (fitR hR (by decide) (by decide) (by omega)) rfl rfl (Nat.le_of_ble_eq_true rfl) dX9_rentOf_23 (fun v23 u23 hs23 => ?_)
    obtain ⟨hv23, hs23⟩ := hs23
    cases hv23
    obtain ⟨f, rfl, hf⟩ := hs23
    refine g_VP h lv_X9_104_X2 sh_19 (by decide) rfl (c_X2_sumOfLines n _ _ (lwB_cong (sc_ne _ _ (by decide)).symm hn) (by rw [sc_ne _ _ (by decide)]; exact hx)) p24_nx (fitR hR (by decide) (by decide) (by omega)) rfl rfl (Nat.le_of_ble_eq_true rfl) dX9_rentOf_26 (fun v26 u26 hs26 => ?_)
    obtain ⟨hv26, hs26⟩ := hs26
    cases hv26
    obtain ⟨g, rfl⟩ := hs26
    refine g_top (y := rtI u a r) (by rw [rtI, if_neg c8, hi]; exact slI_cong _ _ (fun i hi => by rw [sc_at]; exact hf i hi) (sc_ne _ _ (by decide)) (sc_ne _ _ (by decide)) (sc_ne _ _ (by decide)) (sc_ne _ _ (by decide))) ?_
    exact g_iretP h hrt dX9_rentOf_29 (by omega) ⟨by first | rfl | rw [rtI, if_pos c8], by first | exact tim_24_25 | exact tim.refl _⟩
  · refine g_iconst (v := nI 5) h dX9_rentOf_11 (by decide) ?_
    refine g_goto (tgt := 29) h dX9_rentOf_12 (by decide) ?_
    exact g_iretP h hrt dX9_rentOf_29 (by omega) ⟨by first | rfl | rw [rtI, if_pos c8], by first | exact tim_24_25 | exact tim.refl _⟩
set_option maxHeartbeats 1000000 in
theorem c_X9_valueOfT {E : EE} (a : Nat) (ha : a < 10) (r : Nat) (hr : r < 168) (u : Sto) (hl : lawI u) : CtP E 4 0 yX9_valueOf cX9_valueOf 3 (some .int) [.ref (E.ad 2), .int (nI a), .int (nI r)] u (PT (.inl (some (.int (vlI u a r)))) u) := by
  refine ctp_of (by decide) (Nat.le_of_ble_eq_true rfl) (fun X h hR hrt htab hargs => ?_)
  refine g_aload_n h dX9_valueOf_0 rfl rfl ?_
  refine g_getR h fl_X9_28_8 sh_2 (by decide) rfl dX9_valueOf_1 ?_
  refine g_getI h fl_X9_93_2 sh_19 (by decide) rfl dX9_valueOf_4 ?_
  refine g_iconst (v := -1) h dX9_valueOf_7 (by decide) ?_
  refine g_icmp_ne (tgt := 32) h dX9_valueOf_8 (by decide) (fun c8 => ?_) (fun c8 => ?_)
  · obtain ⟨n, hn, hx, hi, hn12⟩ := law_n hl c8
    refine g_aload_n h dX9_valueOf_32 rfl rfl ?_
    refine g_getR h fl_X9_28_8 sh_2 (by decide) rfl dX9_valueOf_33 ?_
    refine g_iconst (v := nI 2) h dX9_valueOf_36 (by decide) ?_
    refine g_aload_n h dX9_valueOf_37 rfl rfl ?_
    refine g_iload_n h dX9_valueOf_38 rfl rfl ?_
    refine g_iload_n h dX9_valueOf_39 rfl rfl ?_
    refine g_VP h lv_X9_96_X9 sh_2 (by decide) rfl (c_X9_lookAt a ha r hr _) pl_nx (fitR hR (by decide) (by decide) (by omega)) rfl rfl (Nat.le_of_ble_eq_true rfl) dX9_valueOf_40 (fun v40 u40 hs40 => ?_)
    obtain ⟨hv40, hs40⟩ := hs40
    cases hv40
    obtain ⟨f, rfl, hf⟩ := hs40
    refine g_VP h lv_X9_104_X2 sh_19 (by decide) rfl (c_X2_sumOfLines n _ _ (lwB_cong (sc_ne _ _ (by decide)).symm hn) (by rw [sc_ne _ _ (by decide)]; exact hx)) p24_nx (fitR hR (by decide) (by decide) (by omega)) rfl rfl (Nat.le_of_ble_eq_true rfl) dX9_valueOf_43 (fun v43 u43 hs43 => ?_)
    obtain ⟨hv43, hs43⟩ := hs43
    cases hv43
    obtain ⟨g, rfl⟩ := hs43
    refine g_top (y := vlI u a r) (by rw [vlI, if_neg c8, hi]; exact slI_cong _ _ (fun i hi => by rw [sc_at]; exact hf i hi) (sc_ne _ _ (by decide)) (sc_ne _ _ (by decide)) (sc_ne _ _ (by decide)) (sc_ne _ _ (by decide))) ?_
    exact g_iretP h hrt dX9_valueOf_46 (by omega) ⟨rfl, tim_24_25⟩
  · refine g_aload_n h dX9_valueOf_11 rfl rfl ?_
    refine g_getR h fl_X9_21_8 sh_2 (by decide) rfl dX9_valueOf_12 ?_
    refine g_iload_n h dX9_valueOf_15 rfl rfl ?_
    refine g_iload_n h dX9_valueOf_16 rfl rfl ?_
    refine g_bipush (v := nI 24) h dX9_valueOf_17 (by decide) ?_
    refine g_irem h dX9_valueOf_19 (by decide) ?_
    refine g_top (pk_rem (a := r) (d := 24) (by omega) (by omega) (by omega)) ?_
    refine g_V h lv_X9_83_X4 sh_10 (by decide) rfl (c_X4_likesHour _ (by omega) _ _) (fitR hR (by decide) (by decide) (by omega)) rfl rfl (Nat.le_of_ble_eq_true rfl) dX9_valueOf_20 ?_
    refine g_j1 31 (x := vlI u a r) ?_ (fun J31 => ?_)
    · exact g_iretP h hrt dX9_valueOf_31 (by omega) ⟨rfl, tim.refl _⟩
    · refine g_if_eq (tgt := 30) h dX9_valueOf_23 (by decide) (fun c23 => ?_) (fun c23 => ?_)
      · refine g_iconst (v := nI 0) h dX9_valueOf_30 (by decide) ?_
        exact g_top (by rw [vlI, if_pos c8]; first | exact (b2_f (b2_0.mp c23)).symm | exact (b2_t (b2_n0.mp c23)).symm) J31
      · refine g_iconst (v := nI 1) h dX9_valueOf_26 (by decide) ?_
        refine g_goto (tgt := 31) h dX9_valueOf_27 (by decide) ?_
        exact g_top (by rw [vlI, if_pos c8]; first | exact (b2_f (b2_0.mp c23)).symm | exact (b2_t (b2_n0.mp c23)).symm) J31
theorem c_X9_isBarred {E : EE} (a : Nat) (ha : a < 10) (r : Nat) (hr : r < 168) (u : Sto) (hl : lawI u) : CtP E 4 0 yX9_isBarred cX9_isBarred 3 (some .boolean) [.ref (E.ad 2), .int (nI a), .int (nI r)] u (PS (.inl (some (.int (b2 (brP u a r = true))))) u) := pt_ps (c_X9_isBarredT a ha r hr u hl)
theorem c_X9_rentOf {E : EE} (a : Nat) (ha : a < 10) (r : Nat) (hr : r < 168) (u : Sto) (hl : lawI u) : CtP E 4 0 yX9_rentOf cX9_rentOf 3 (some .int) [.ref (E.ad 2), .int (nI a), .int (nI r)] u (PS (.inl (some (.int (rtI u a r)))) u) := pt_ps (c_X9_rentOfT a ha r hr u hl)
theorem c_X9_valueOf {E : EE} (a : Nat) (ha : a < 10) (r : Nat) (hr : r < 168) (u : Sto) (hl : lawI u) : CtP E 4 0 yX9_valueOf cX9_valueOf 3 (some .int) [.ref (E.ad 2), .int (nI a), .int (nI r)] u (PS (.inl (some (.int (vlI u a r)))) u) := pt_ps (c_X9_valueOfT a ha r hr u hl)
abbrev mtP (u : Sto) (a r : Nat) (x : Int32) : Prop := u 13 a = -1 ∧ u 4 r = -1 ∧ u 14 r = 0 ∧ brP u a r = false ∧ ¬ x < rtI u a r
set_option maxHeartbeats 1000000 in
theorem c_X9_mayTakeT {E : EE} (a : Nat) (ha : a < 10) (r : Nat) (hr : r < 168) (x : Int32) (u : Sto) (hl : lawI u) : CtP E 5 0 yX9_mayTake cX9_mayTake 4 (some .boolean) [.ref (E.ad 2), .int (nI a), .int (nI r), .int x] u (PT (.inl (some (.int (b2 (mtP u a r x))))) u) := by
  refine ctp_of (by decide) (Nat.le_of_ble_eq_true rfl) (fun X h hR hrt htab hargs => ?_)
  refine g_aload_n h dX9_mayTake_0 rfl rfl ?_
  refine g_iload_n h dX9_mayTake_1 rfl rfl ?_
  refine g_V h lv_X9_49_X9 sh_2 (by decide) rfl (c_X9_isChild _ (by omega) _) (fitR hR (by decide) (by decide) (by omega)) rfl rfl (Nat.le_of_ble_eq_true rfl) dX9_mayTake_2 ?_
  refine g_if_ne (tgt := 39) h dX9_mayTake_5 (by decide) (fun c5 => ?_) (fun c5 => ?_)
  · have d5 := b2_n0.mp c5
    refine g_iconst (v := nI 0) h dX9_mayTake_39 (by decide) ?_
    exact g_zretP h hrt dX9_mayTake_40 (by omega) (by first | exact Or.inl rfl | exact Or.inr rfl | simp) ⟨by first | (rw [b2_t (show mtP u a r x from ⟨d5, d13.1, d13.2, d22, c32⟩)]; done) | (rw [b2_f (fun q => by first | exact d5 q.1 | exact d13 ⟨q.2.1, q.2.2.1⟩ | exact q.2.2.2.2 c32 | exact absurd d22 (by rw [q.2.2.2.1]; exact Bool.false_ne_true))]; done), by first | exact tim.refl _ | exact hs19 | exact hs29.trans hs19⟩
  · have d5 := Decidable.not_not.mp (b2_0.mp c5)
    refine g_aload_n h dX9_mayTake_8 rfl rfl ?_
    refine g_iload_n h dX9_mayTake_9 rfl rfl ?_
    refine g_V h lv_X9_111_X9 sh_2 (by decide) rfl (c_X9_isFree _ (by omega) _) (fitR hR (by decide) (by decide) (by omega)) rfl rfl (Nat.le_of_ble_eq_true rfl) dX9_mayTake_10 ?_
    refine g_if_eq (tgt := 39) h dX9_mayTake_13 (by decide) (fun c13 => ?_) (fun c13 => ?_)
    · have d13 := b2_0.mp c13
      refine g_iconst (v := nI 0) h dX9_mayTake_39 (by decide) ?_
      exact g_zretP h hrt dX9_mayTake_40 (by omega) (by first | exact Or.inl rfl | exact Or.inr rfl | simp) ⟨by first | (rw [b2_t (show mtP u a r x from ⟨d5, d13.1, d13.2, d22, c32⟩)]; done) | (rw [b2_f (fun q => by first | exact d5 q.1 | exact d13 ⟨q.2.1, q.2.2.1⟩ | exact q.2.2.2.2 c32 | exact absurd d22 (by rw [q.2.2.2.1]; exact Bool.false_ne_true))]; done), by first | exact tim.refl _ | exact hs19 | exact hs29.trans hs19⟩
    · have d13 := b2_n0.mp c13
      refine g_aload_n h dX9_mayTake_16 rfl rfl ?_
      refine g_iload_n h dX9_mayTake_17 rfl rfl ?_
      refine g_iload_n h dX9_mayTake_18 rfl rfl ?_
      refine g_VP h lv_X9_114_X9 sh_2 (by decide) rfl (c_X9_isBarredT _ (by omega) _ (by omega) _ hl) pt_nx (fitR hR (by decide) (by decide) (by omega)) rfl rfl (Nat.le_of_ble_eq_true rfl) dX9_mayTake_19 (fun v19 u19 hs19 => ?_)
      obtain ⟨hv19, hs19⟩ := hs19
      cases hv19
      refine g_if_ne (tgt := 39) h dX9_mayTake_22 (by decide) (fun c22 => ?_) (fun c22 => ?_)
      · have d22 := b2_n0.mp c22
        refine g_iconst (v := nI 0) h dX9_mayTake_39 (by decide) ?_
        exact g_zretP h hrt dX9_mayTake_40 (by omega) (by first | exact Or.inl rfl | exact Or.inr rfl | simp) ⟨by first | (rw [b2_t (show mtP u a r x from ⟨d5, d13.1, d13.2, d22, c32⟩)]; done) | (rw [b2_f (fun q => by first | exact d5 q.1 | exact d13 ⟨q.2.1, q.2.2.1⟩ | exact q.2.2.2.2 c32 | exact absurd d22 (by rw [q.2.2.2.1]; exact Bool.false_ne_true))]; done), by first | exact tim.refl _ | exact hs19 | exact hs29.trans hs19⟩
      · have d22 := Bool.eq_false_iff.mpr (b2_0.mp c22)
        refine g_iload_n h dX9_mayTake_25 rfl rfl ?_
        refine g_aload_n h dX9_mayTake_26 rfl rfl ?_
        refine g_iload_n h dX9_mayTake_27 rfl rfl ?_
        refine g_iload_n h dX9_mayTake_28 rfl rfl ?_
        refine g_VP h lv_X9_67_X9 sh_2 (by decide) rfl (c_X9_rentOfT _ (by omega) _ (by omega) _ (lawI_sim hs19.sim hl)) pt_nx (fitR hR (by decide) (by decide) (by omega)) rfl rfl (Nat.le_of_ble_eq_true rfl) dX9_mayTake_29 (fun v29 u29 hs29 => ?_)
        obtain ⟨hv29, hs29⟩ := hs29
        cases hv29
        refine g_top (rtI_sim hs19.sim a r) ?_
        refine g_icmp_lt (tgt := 39) h dX9_mayTake_32 (by decide) (fun c32 => ?_) (fun c32 => ?_)
        · refine g_iconst (v := nI 0) h dX9_mayTake_39 (by decide) ?_
          exact g_zretP h hrt dX9_mayTake_40 (by omega) (by first | exact Or.inl rfl | exact Or.inr rfl | simp) ⟨by first | (rw [b2_t (show mtP u a r x from ⟨d5, d13.1, d13.2, d22, c32⟩)]; done) | (rw [b2_f (fun q => by first | exact d5 q.1 | exact d13 ⟨q.2.1, q.2.2.1⟩ | exact q.2.2.2.2 c32 | exact absurd d22 (by rw [q.2.2.2.1]; exact Bool.false_ne_true))]; done), by first | exact tim.refl _ | exact hs19 | exact hs29.trans hs19⟩
        · refine g_iconst (v := nI 1) h dX9_mayTake_35 (by decide) ?_
          refine g_goto (tgt := 40) h dX9_mayTake_36 (by decide) ?_
          exact g_zretP h hrt dX9_mayTake_40 (by omega) (by first | exact Or.inl rfl | exact Or.inr rfl | simp) ⟨by first | (rw [b2_t (show mtP u a r x from ⟨d5, d13.1, d13.2, d22, c32⟩)]; done) | (rw [b2_f (fun q => by first | exact d5 q.1 | exact d13 ⟨q.2.1, q.2.2.1⟩ | exact q.2.2.2.2 c32 | exact absurd d22 (by rw [q.2.2.2.1]; exact Bool.false_ne_true))]; done), by first | exact tim.refl _ | exact hs19 | exact hs29.trans hs19⟩
theorem c_X9_mayTake {E : EE} (a : Nat) (ha : a < 10) (r : Nat) (hr : r < 168) (x : Int32) (u : Sto) (hl : lawI u) : CtP E 5 0 yX9_mayTake cX9_mayTake 4 (some .boolean) [.ref (E.ad 2), .int (nI a), .int (nI r), .int x] u (PS (.inl (some (.int (b2 (mtP u a r x))))) u) := pt_ps (c_X9_mayTakeT a ha r hr x u hl)
