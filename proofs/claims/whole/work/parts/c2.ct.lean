-- after: c1.gn
theorem fitN {E : EE} {X : XX} {L mc ms m0 m n N : Nat} (hRC : RC E X L mc ms m0) (h1 : m + 1 ≤ mc + m0) (h2 : n + N ≤ ms) : m + 1 ≤ X.R.cells + m0 ∧ n + N ≤ X.R.slots := by rw [hRC.1]; exact ⟨h1, h2⟩
theorem fitC {E : EE} {X : XX} {Lx mx sx m0 L nc n ms m' : Nat} (hRC : RC E X Lx mx sx m0) (h1 : L + 1 ≤ Lx) (h2 : nc ≤ 21) (h3 : m' ≤ mx + m0) (h4 : n + ms ≤ sx) : FitC E X L nc n ms m0 m' := by
  refine ⟨?_, ?_, ?_, ?_⟩ <;> rw [hRC.1]
  · exact h1
  · show 8 + (nc + 11) + 40 * L ≤ 40 * Lx
    omega
  · exact h3
  · exact h4
theorem oR {E : EE} {X : XX} {L mc ms m0 : Nat} (hRC : RC E X L mc ms m0) (h : 1 ≤ L) : 1 ≤ X.R.frames ∧ 20 ≤ X.R.locals := by
  rw [hRC.1]
  refine ⟨h, ?_⟩
  show 20 ≤ 40 * L
  omega
/-- the store as the making begins: rows of nothing, the objects' own numbers -/
def uZ : Sto := fun k j => if k ∈ townL then (if j = 11 then 1 else 0) else if k = 0 ∧ j = 2 ∨ (k = 19 ∨ k = 43 ∨ k = 67) ∧ j = 5 ∨ k = 178 ∧ j = 12 then -1 else 0
theorem uZ_z {k : Nat} (h : k ∉ townL) (h2 : k ≠ 0 ∧ k ≠ 19 ∧ k ≠ 43 ∧ k ≠ 67 ∧ k ≠ 178) : uZ k = fun _ => 0 := by
  funext j
  rw [uZ, if_neg h, if_neg (by omega)]
theorem uZ_t {t : Nat} (h : t ∈ townL) : uZ t = fun j => if j = 11 then 1 else 0 := by
  funext j
  rw [uZ, if_pos h]
theorem tj_ok : ∀ t ∈ townL, ∀ j, j < 7 → 1 ≤ j → t + j ∉ townL ∧ t + j ≠ 0 ∧ t + j ≠ 19 ∧ t + j ≠ 43 ∧ t + j ≠ 67 ∧ t + j ≠ 178 := by decide +kernel
theorem uZ_tj {t j : Nat} (h : t ∈ townL) (h1 : 1 ≤ j) (h6 : j ≤ 6) : uZ (t + j) = fun _ => 0 := uZ_z (tj_ok t h j (by omega) h1).1 (tj_ok t h j (by omega) h1).2
/-- the town t as its maker leaves it -/
def twF (u : Sto) (t : Nat) : Sto := sc (sc u (t + 1) (flF (u (t + 1)) (-1) 168)) (t + 2) (flF (sc u (t + 1) (flF (u (t + 1)) (-1) 168) (t + 2)) (-1) 168)
theorem twF_c {u : Sto} {t k : Nat} (h1 : k ≠ t + 1) (h2 : k ≠ t + 2) : twF u t k = u k := by rw [twF, sc_ne _ _ h2, sc_ne _ _ h1]
set_option maxHeartbeats 1000000 in
theorem cc_fill {E : EE} (hA : AdC E) (c N m : Nat) (O : OpC) (hs : shp c = .inr (.inl (0, N))) (ho : opL O c = none) (hk : ordC c < m) (hN : N < 2 ^ 30) (x : Int32) (u : Sto) : CtC E 1 0 yJ7_fill_53178 cJ7_fill_53178 4 [.ref (E.ad c), .int x] (m, O, u) (m, O, sc u c (flF (u c) x N)) := by
  have hN1 : N < 2 ^ 31 := by omega
  refine ctc_ofF (by decide +kernel) (Nat.le_of_ble_eq_true rfl) (fun X h hRC hrt _ => ?_)
  have LP : ∀ j k : Nat, N < k + j → k ≤ N → GC E X (QMC E X (m, O, sc u c (flF (u c) x N)) (m - m) 0) 4 0 5 [(0, .ref (E.ad c)), (1, .int x), (2, .int (nI k)), (3, .int (nI N))] [] (m, O, sc u c (flF (u c) x k)) := by
    intro j
    induction j with
    | zero => intro k h1 h2; omega
    | succ j ih =>
      intro k h1 h2
      refine gc_iload_n h dJ7_fill_53178_5 rfl rfl ?_
      refine gc_iload_n h dJ7_fill_53178_6 rfl rfl ?_
      refine gc_icmp_ge (tgt := 20) h dJ7_fill_53178_7 (by decide) (fun c7 => ?_) (fun c7 => ?_)
      · have n7 := le_n (by omega) (by omega) (show nI (N) ≤ nI (k) from c7)
        obtain rfl : k = N := by omega
        exact gc_vret h hRC (by show m + (m - m) = m; omega) hrt dJ7_fill_53178_20 (Nat.le_refl _)
      · have n7 := nle_n (by omega) (by omega) (show ¬ nI (N) ≤ nI (k) from c7)
        refine gc_aload_n h dJ7_fill_53178_10 rfl rfl ?_
        refine gc_iload_n h dJ7_fill_53178_11 rfl rfl ?_
        refine gc_iload_n h dJ7_fill_53178_12 rfl rfl ?_
        refine gc_iast h hA c k N hs ho hk (by omega) rfl (by omega) dJ7_fill_53178_13 ?_
        refine gc_iinc (v := nI (k + 1)) (ls' := [(0, _), (1, _), (2, _), (3, _)]) h dJ7_fill_53178_14 rfl (nI_1 k) (by decide) rfl rfl ?_
        refine gc_goto (tgt := 5) h dJ7_fill_53178_17 (by decide) ?_
        exact gc_w (by rw [su_sc, fl_s]) (ih (k + 1) (by omega) (by omega))
  refine gc_iconst (v := nI 0) h dJ7_fill_53178_0 (by decide) ?_
  refine gc_istore_n (ls' := [(0, _), (1, _), (2, _)]) h dJ7_fill_53178_1 rfl (by decide) rfl rfl ?_
  refine gc_aload_n h dJ7_fill_53178_2 rfl rfl ?_
  refine gc_alen h hA c N hs ho hk dJ7_fill_53178_3 ?_
  refine gc_istore_n (ls' := [(0, _), (1, _), (2, _), (3, _)]) h dJ7_fill_53178_4 rfl (by decide) rfl rfl ?_
  exact gc_w (by rw [fl_0, sc_self]) (LP (N + 1) 0 (by omega) (by omega))
theorem pk_X7_9_6 : PFk RX7 9 6 0 (.array .int) := ⟨(RX7, TX7, 12), rfl, by decide, uw_X7, tw_1_52, rfl, by decide +kernel, ⟨tyX7, tyX7_ok⟩, nmX7⟩
theorem pk_X7_15_6 : PFk RX7 15 6 1 (.array .int) := ⟨(RX7, TX7, 12), rfl, by decide, uw_X7, tw_1_58, rfl, by decide +kernel, ⟨tyX7, tyX7_ok⟩, nmX7⟩
theorem pk_X7_18_6 : PFk RX7 18 6 2 (.array .int) := ⟨(RX7, TX7, 12), rfl, by decide, uw_X7, tw_1_63, rfl, by decide +kernel, ⟨tyX7, tyX7_ok⟩, nmX7⟩
theorem pk_X7_21_6 : PFk RX7 21 6 3 (.array .int) := ⟨(RX7, TX7, 12), rfl, by decide, uw_X7, tw_1_67, rfl, by decide +kernel, ⟨tyX7, tyX7_ok⟩, nmX7⟩
theorem pk_X7_24_6 : PFk RX7 24 6 4 (.array .int) := ⟨(RX7, TX7, 12), rfl, by decide, uw_X7, tw_1_71, rfl, by decide +kernel, ⟨tyX7, tyX7_ok⟩, nmX7⟩
theorem pk_X7_27_6 : PFk RX7 27 6 5 (.array .int) := ⟨(RX7, TX7, 12), rfl, by decide, uw_X7, tw_1_75, rfl, by decide +kernel, ⟨tyX7, tyX7_ok⟩, nmX7⟩
theorem pk_X7_30_6 : PFk RX7 30 6 11 (.int) := ⟨(RX7, TX7, 12), rfl, by decide, uw_X7, tw_1_89, rfl, by decide +kernel, ⟨tyX7, tyX7_ok⟩, nmX7⟩
def rollS (r : Nat) : Prop := shp r = .inl (4, [some (r + 1), some (r + 2), some (r + 3), some (r + 4), some (r + 5), some (r + 6), some (r + 7), some (r + 8), none, none, none, none, none]) ∧ shp (r + 1) = .inr (.inl (0, 10)) ∧ shp (r + 2) = .inr (.inl (0, 10)) ∧ shp (r + 3) = .inr (.inl (0, 10)) ∧ shp (r + 4) = .inr (.inl (0, 168)) ∧ shp (r + 5) = .inr (.inl (0, 8)) ∧ shp (r + 6) = .inr (.inl (0, 8)) ∧ shp (r + 7) = .inr (.inl (0, 8)) ∧ shp (r + 8) = .inr (.inl (0, 8))
def lawS (r : Nat) : Prop := shp r = .inl (2, [some (r + 1), some (r + 2), some (r + 3), some (r + 4), some (r + 5), none]) ∧ shp (r + 1) = .inr (.inl (0, 400)) ∧ shp (r + 2) = .inr (.inl (0, 13)) ∧ shp (r + 3) = .inr (.inl (0, 12)) ∧ shp (r + 4) = .inr (.inl (0, 12)) ∧ shp (r + 5) = .inr (.inl (0, 40))
theorem pk_X4_9_4 : PFk RX4 9 4 0 (.array .int) := ⟨(RX4, TX4, 13), rfl, by decide, uw_X4, tw_1_123, rfl, by decide +kernel, ⟨tyX4, tyX4_ok⟩, nmX4⟩
theorem pk_X4_15_4 : PFk RX4 15 4 1 (.array .int) := ⟨(RX4, TX4, 13), rfl, by decide, uw_X4, tw_1_125, rfl, by decide +kernel, ⟨tyX4, tyX4_ok⟩, nmX4⟩
theorem pk_X4_18_4 : PFk RX4 18 4 2 (.array .int) := ⟨(RX4, TX4, 13), rfl, by decide, uw_X4, tw_1_127, rfl, by decide +kernel, ⟨tyX4, tyX4_ok⟩, nmX4⟩
theorem pk_X4_21_4 : PFk RX4 21 4 3 (.array .int) := ⟨(RX4, TX4, 13), rfl, by decide, uw_X4, tw_1_131, rfl, by decide +kernel, ⟨tyX4, tyX4_ok⟩, nmX4⟩
theorem pk_X4_24_4 : PFk RX4 24 4 4 (.array .int) := ⟨(RX4, TX4, 13), rfl, by decide, uw_X4, tw_1_136, rfl, by decide +kernel, ⟨tyX4, tyX4_ok⟩, nmX4⟩
theorem pk_X4_27_4 : PFk RX4 27 4 5 (.array .int) := ⟨(RX4, TX4, 13), rfl, by decide, uw_X4, tw_1_138, rfl, by decide +kernel, ⟨tyX4, tyX4_ok⟩, nmX4⟩
theorem pk_X4_30_4 : PFk RX4 30 4 6 (.array .int) := ⟨(RX4, TX4, 13), rfl, by decide, uw_X4, tw_1_140, rfl, by decide +kernel, ⟨tyX4, tyX4_ok⟩, nmX4⟩
theorem pk_X4_33_4 : PFk RX4 33 4 7 (.array .int) := ⟨(RX4, TX4, 13), rfl, by decide, uw_X4, tw_1_142, rfl, by decide +kernel, ⟨tyX4, tyX4_ok⟩, nmX4⟩
theorem pk_X2_9_2 : PFk RX2 9 2 0 (.array .int) := ⟨(RX2, TX2, 6), rfl, by decide, uw_X2, tw_1_195, rfl, by decide +kernel, ⟨tyX2, tyX2_ok⟩, nmX2⟩
theorem pk_X2_15_2 : PFk RX2 15 2 1 (.array .int) := ⟨(RX2, TX2, 6), rfl, by decide, uw_X2, tw_1_196, rfl, by decide +kernel, ⟨tyX2, tyX2_ok⟩, nmX2⟩
theorem pk_X2_18_2 : PFk RX2 18 2 2 (.array .int) := ⟨(RX2, TX2, 6), rfl, by decide, uw_X2, tw_1_197, rfl, by decide +kernel, ⟨tyX2, tyX2_ok⟩, nmX2⟩
theorem pk_X2_21_2 : PFk RX2 21 2 3 (.array .int) := ⟨(RX2, TX2, 6), rfl, by decide, uw_X2, tw_1_198, rfl, by decide +kernel, ⟨tyX2, tyX2_ok⟩, nmX2⟩
theorem pk_X2_24_2 : PFk RX2 24 2 4 (.array .int) := ⟨(RX2, TX2, 6), rfl, by decide, uw_X2, tw_1_199, rfl, by decide +kernel, ⟨tyX2, tyX2_ok⟩, nmX2⟩
theorem pk_X2_27_2 : PFk RX2 27 2 5 (.int) := ⟨(RX2, TX2, 6), rfl, by decide, uw_X2, tw_1_200, rfl, by decide +kernel, ⟨tyX2, tyX2_ok⟩, nmX2⟩
set_option maxHeartbeats 1000000 in
theorem cc_X7 {E : EE} (hA : AdC E) (t m : Nat) (O : OpC) (u : Sto) (ht : t ∈ townL) (hk : ordC t < m) (hinv : ∀ j, j < 6 → invC (m + j) = t + 1 + j) (hO : ∀ j, j ≤ 6 → opL O (t + j) = none) (hu : ∀ j, j ≤ 6 → u (t + j) = uZ (t + j)) : CtC E 3 604 yX7_init cX7_init 1 [.ref (E.ad t)] (m, (t, .inr (6, [.null, .null, .null, .null, .null, .null, .int 0, .int 0, .int 0, .int 0, .int 0, .int 0])) :: O, u) (m + 6, O, twF u t) := by
  obtain ⟨s0, s1, s2, s3, s4, s5, s6, -⟩ := sh_town t ht
  have hz : ∀ j, 1 ≤ j → j ≤ 6 → u (t + j) = fun _ => 0 := fun j h1 h6 => (hu j h6).trans (uZ_tj ht h1 h6)
  have ho : ∀ (e : va_E) j, 1 ≤ j → j ≤ 6 → opL ((t, e) :: O) (t + j) = none := fun e j h1 h6 => (opL_tl (by omega)).trans (hO j h6)
  have hord : ∀ j, 1 ≤ j → j ≤ 6 → ordC (t + j) = m + j - 1 := fun j h1 h6 => by
    have := hinv (j - 1) (by omega)
    rw [show t + j = invC (m + (j - 1)) by rw [this]; omega, ord_inv]
    omega
  refine ctc_of (by decide) (Nat.le_of_ble_eq_true rfl) (fun X h hRC hrt hnm => ?_)
  refine gc_aload_n h dX7_init_0 rfl rfl ?_
  refine gc_oinit h tw_1_48 (Nat.le_of_ble_eq_true rfl) (oR hRC (by decide)) dX7_init_1 ?_
  refine gc_aload_n h dX7_init_4 rfl rfl ?_
  refine gc_sipush (v := nI 168) h dX7_init_5 (by decide) ?_
  refine gc_newa (k := t + 1) (N := 168) h hA hRC.2 (by omega) (hinv 0 (by decide)) tw_1_116 s1 (ho _ 1 (by decide) (by decide)) (hz 1 (by decide) (by decide)) rfl (by decide) (fitN hRC (by omega) (by decide)) dX7_init_8 ?_
  refine gc_put (fs' := [.ref (E.ad (t + 1)), .null, .null, .null, .null, .null, .int 0, .int 0, .int 0, .int 0, .int 0, .int 0]) h hA hnm pk_X7_9_6 (by omega) rfl rfl (Nat.le_of_ble_eq_true rfl) dX7_init_10 rfl ?_
  refine gc_aload_n h dX7_init_13 rfl rfl ?_
  refine gc_sipush (v := nI 168) h dX7_init_14 (by decide) ?_
  refine gc_newa (k := t + 2) (N := 168) h hA hRC.2 (by omega) (hinv 1 (by decide)) tw_1_116 s2 (ho _ 2 (by decide) (by decide)) (hz 2 (by decide) (by decide)) rfl (by decide) (fitN hRC (by omega) (by decide)) dX7_init_17 ?_
  refine gc_put (fs' := [.ref (E.ad (t + 1)), .ref (E.ad (t + 2)), .null, .null, .null, .null, .int 0, .int 0, .int 0, .int 0, .int 0, .int 0]) h hA hnm pk_X7_15_6 (by omega) rfl rfl (Nat.le_of_ble_eq_true rfl) dX7_init_19 rfl ?_
  refine gc_aload_n h dX7_init_22 rfl rfl ?_
  refine gc_sipush (v := nI 168) h dX7_init_23 (by decide) ?_
  refine gc_newa (k := t + 3) (N := 168) h hA hRC.2 (by omega) (hinv 2 (by decide)) tw_1_116 s3 (ho _ 3 (by decide) (by decide)) (hz 3 (by decide) (by decide)) rfl (by decide) (fitN hRC (by omega) (by decide)) dX7_init_26 ?_
  refine gc_put (fs' := [.ref (E.ad (t + 1)), .ref (E.ad (t + 2)), .ref (E.ad (t + 3)), .null, .null, .null, .int 0, .int 0, .int 0, .int 0, .int 0, .int 0]) h hA hnm pk_X7_18_6 (by omega) rfl rfl (Nat.le_of_ble_eq_true rfl) dX7_init_28 rfl ?_
  refine gc_aload_n h dX7_init_31 rfl rfl ?_
  refine gc_bipush (v := nI 10) h dX7_init_32 (by decide) ?_
  refine gc_newa (k := t + 4) (N := 10) h hA hRC.2 (by omega) (hinv 3 (by decide)) tw_1_116 s4 (ho _ 4 (by decide) (by decide)) (hz 4 (by decide) (by decide)) rfl (by decide) (fitN hRC (by omega) (by decide)) dX7_init_34 ?_
  refine gc_put (fs' := [.ref (E.ad (t + 1)), .ref (E.ad (t + 2)), .ref (E.ad (t + 3)), .ref (E.ad (t + 4)), .null, .null, .int 0, .int 0, .int 0, .int 0, .int 0, .int 0]) h hA hnm pk_X7_21_6 (by omega) rfl rfl (Nat.le_of_ble_eq_true rfl) dX7_init_36 rfl ?_
  refine gc_aload_n h dX7_init_39 rfl rfl ?_
  refine gc_bipush (v := nI 10) h dX7_init_40 (by decide) ?_
  refine gc_newa (k := t + 5) (N := 10) h hA hRC.2 (by omega) (hinv 4 (by decide)) tw_1_116 s5 (ho _ 5 (by decide) (by decide)) (hz 5 (by decide) (by decide)) rfl (by decide) (fitN hRC (by omega) (by decide)) dX7_init_42 ?_
  refine gc_put (fs' := [.ref (E.ad (t + 1)), .ref (E.ad (t + 2)), .ref (E.ad (t + 3)), .ref (E.ad (t + 4)), .ref (E.ad (t + 5)), .null, .int 0, .int 0, .int 0, .int 0, .int 0, .int 0]) h hA hnm pk_X7_24_6 (by omega) rfl rfl (Nat.le_of_ble_eq_true rfl) dX7_init_44 rfl ?_
  refine gc_aload_n h dX7_init_47 rfl rfl ?_
  refine gc_bipush (v := nI 80) h dX7_init_48 (by decide) ?_
  refine gc_newa (k := t + 6) (N := 80) h hA hRC.2 (by omega) (hinv 5 (by decide)) tw_1_116 s6 (ho _ 6 (by decide) (by decide)) (hz 6 (by decide) (by decide)) rfl (by decide) (fitN hRC (by omega) (by decide)) dX7_init_50 ?_
  refine gc_put (fs' := [.ref (E.ad (t + 1)), .ref (E.ad (t + 2)), .ref (E.ad (t + 3)), .ref (E.ad (t + 4)), .ref (E.ad (t + 5)), .ref (E.ad (t + 6)), .int 0, .int 0, .int 0, .int 0, .int 0, .int 0]) h hA hnm pk_X7_27_6 (by omega) rfl rfl (Nat.le_of_ble_eq_true rfl) dX7_init_52 rfl ?_
  refine gc_aload_n h dX7_init_55 rfl rfl ?_
  refine gc_iconst (v := 1) h dX7_init_56 (by decide) ?_
  refine gc_put (fs' := [.ref (E.ad (t + 1)), .ref (E.ad (t + 2)), .ref (E.ad (t + 3)), .ref (E.ad (t + 4)), .ref (E.ad (t + 5)), .ref (E.ad (t + 6)), .int 0, .int 0, .int 0, .int 0, .int 0, .int 1]) h hA hnm pk_X7_30_6 (by omega) rfl rfl (Nat.le_of_ble_eq_true rfl) dX7_init_57 rfl ?_
  refine gc_aload_n h dX7_init_60 rfl rfl ?_
  refine gc_get (k := t) (fs := [.ref (E.ad (t + 1)), .ref (E.ad (t + 2)), .ref (E.ad (t + 3)), .ref (E.ad (t + 4)), .ref (E.ad (t + 5)), .ref (E.ad (t + 6)), .int 0, .int 0, .int 0, .int 0, .int 0, .int 1]) h hA fl_X7_9_6 (by show ordC t < m + 6; omega) ct_h rfl dX7_init_61 ?_
  refine gc_iconst (v := -1) h dX7_init_64 (by decide) ?_
  refine gc_S (L := 1) (ms := 0) (As := [.ref (E.ad (t + 1)), .int (-1)]) (rest := []) (w' := (m + 6, (t, .inr (6, [.ref (E.ad (t + 1)), .ref (E.ad (t + 2)), .ref (E.ad (t + 3)), .ref (E.ad (t + 4)), .ref (E.ad (t + 5)), .ref (E.ad (t + 6)), .int 0, .int 0, .int 0, .int 0, .int 0, .int 1])) :: O, sc u (t + 1) (flF (u (t + 1)) (-1) 168))) h hRC.2 (by show m ≤ m + 6; omega) (Nat.le_refl (m + 6)) ls_X7_34 (cc_fill hA (t + 1) 168 (m + 6) _ s1 (ho _ 1 (by decide) (by decide)) (by rw [hord 1 (by decide) (by decide)]; omega) (by decide) (-1) _) (fitC hRC (by decide) (by decide) (by show m + 6 ≤ m + 6 - m + m; omega) (by decide)) rfl rfl (Nat.le_of_ble_eq_true rfl) dX7_init_65 ?_
  refine gc_aload_n h dX7_init_68 rfl rfl ?_
  refine gc_get (k := t) (fs := [.ref (E.ad (t + 1)), .ref (E.ad (t + 2)), .ref (E.ad (t + 3)), .ref (E.ad (t + 4)), .ref (E.ad (t + 5)), .ref (E.ad (t + 6)), .int 0, .int 0, .int 0, .int 0, .int 0, .int 1]) h hA fl_X7_15_6 (by show ordC t < m + 6; omega) ct_h rfl dX7_init_69 ?_
  refine gc_iconst (v := -1) h dX7_init_72 (by decide) ?_
  refine gc_S (L := 1) (ms := 0) (As := [.ref (E.ad (t + 2)), .int (-1)]) (rest := []) (w' := (m + 6, (t, .inr (6, [.ref (E.ad (t + 1)), .ref (E.ad (t + 2)), .ref (E.ad (t + 3)), .ref (E.ad (t + 4)), .ref (E.ad (t + 5)), .ref (E.ad (t + 6)), .int 0, .int 0, .int 0, .int 0, .int 0, .int 1])) :: O, twF u t)) h hRC.2 (by show m ≤ m + 6; omega) (Nat.le_refl (m + 6)) ls_X7_34 (cc_fill hA (t + 2) 168 (m + 6) _ s2 (ho _ 2 (by decide) (by decide)) (by rw [hord 2 (by decide) (by decide)]; omega) (by decide) (-1) _) (fitC hRC (by decide) (by decide) (by show m + 6 ≤ m + 6 - m + m; omega) (by decide)) rfl rfl (Nat.le_of_ble_eq_true rfl) dX7_init_73 ?_
  refine gc_close (hO 0 (by decide)) ?_ ?_
  · have e : twF u t t = fun j => if j = 11 then 1 else 0 := (twF_c (by omega) (by omega)).trans ((hu 0 (by decide)).trans (uZ_t ht))
    show _ = cellE E.cy E.ad (shp t) (twF u t t)
    rw [e, s0]
    rfl
  · exact gc_vret h hRC (by show m + (m + 6 - m) = m + 6; omega) hrt dX7_init_76 (by decide)
set_option maxHeartbeats 1000000 in
theorem cc_X4 {E : EE} (hA : AdC E) (r : Nat) (O : OpC) (u : Sto) (hr : r + 8 ≤ 74) (hs : rollS r) (hO : ∀ j, j ≤ 8 → opL O (r + j) = none) (hz : ∀ j, 1 ≤ j → j ≤ 8 → u (r + j) = fun _ => 0) (h0u : u r = fun _ => 0) : CtC E 3 230 yX4_init cX4_init 1 [.ref (E.ad r)] (r + 1, (r, .inr (4, [.null, .null, .null, .null, .null, .null, .null, .null, .int 0, .int 0, .int 0, .int 0, .int 0])) :: O, u) (r + 1 + 8, O, u) := by
  obtain ⟨s0, s1, s2, s3, s4, s5, s6, s7, s8⟩ := hs
  have ho : ∀ (e : va_E) j, 1 ≤ j → j ≤ 8 → opL ((r, e) :: O) (r + j) = none := fun e j h1 h6 => (opL_tl (by omega)).trans (hO j h6)
  have hord : ∀ j, j ≤ 8 → ordC (r + j) = r + j := fun j hj => by rw [ordC, if_pos (by omega)]
  have hinv : ∀ j, j < 8 → invC (r + 1 + j) = r + 1 + j := fun j hj => by rw [invC, if_pos (by omega)]
  have h0 := hord 0 (by decide)
  refine ctc_of (by decide) (Nat.le_of_ble_eq_true rfl) (fun X h hRC hrt hnm => ?_)
  refine gc_aload_n h dX4_init_0 rfl rfl ?_
  refine gc_oinit h tw_1_122 (Nat.le_of_ble_eq_true rfl) (oR hRC (by decide)) dX4_init_1 ?_
  refine gc_aload_n h dX4_init_4 rfl rfl ?_
  refine gc_bipush (v := nI 10) h dX4_init_5 (by decide) ?_
  refine gc_newa (k := r + 1) (N := 10) h hA hRC.2 (by omega) (hinv 0 (by decide)) tw_1_116 s1 (ho _ 1 (by decide) (by decide)) (hz 1 (by decide) (by decide)) rfl (by decide) (fitN hRC (by omega) (by decide)) dX4_init_7 ?_
  refine gc_put (fs' := [.ref (E.ad (r + 1)), .null, .null, .null, .null, .null, .null, .null, .int 0, .int 0, .int 0, .int 0, .int 0]) h hA hnm pk_X4_9_4 (by rw [show ordC r = r from h0]; omega) rfl rfl (Nat.le_of_ble_eq_true rfl) dX4_init_9 rfl ?_
  refine gc_aload_n h dX4_init_12 rfl rfl ?_
  refine gc_bipush (v := nI 10) h dX4_init_13 (by decide) ?_
  refine gc_newa (k := r + 2) (N := 10) h hA hRC.2 (by omega) (hinv 1 (by decide)) tw_1_116 s2 (ho _ 2 (by decide) (by decide)) (hz 2 (by decide) (by decide)) rfl (by decide) (fitN hRC (by omega) (by decide)) dX4_init_15 ?_
  refine gc_put (fs' := [.ref (E.ad (r + 1)), .ref (E.ad (r + 2)), .null, .null, .null, .null, .null, .null, .int 0, .int 0, .int 0, .int 0, .int 0]) h hA hnm pk_X4_15_4 (by rw [show ordC r = r from h0]; omega) rfl rfl (Nat.le_of_ble_eq_true rfl) dX4_init_17 rfl ?_
  refine gc_aload_n h dX4_init_20 rfl rfl ?_
  refine gc_bipush (v := nI 10) h dX4_init_21 (by decide) ?_
  refine gc_newa (k := r + 3) (N := 10) h hA hRC.2 (by omega) (hinv 2 (by decide)) tw_1_116 s3 (ho _ 3 (by decide) (by decide)) (hz 3 (by decide) (by decide)) rfl (by decide) (fitN hRC (by omega) (by decide)) dX4_init_23 ?_
  refine gc_put (fs' := [.ref (E.ad (r + 1)), .ref (E.ad (r + 2)), .ref (E.ad (r + 3)), .null, .null, .null, .null, .null, .int 0, .int 0, .int 0, .int 0, .int 0]) h hA hnm pk_X4_18_4 (by rw [show ordC r = r from h0]; omega) rfl rfl (Nat.le_of_ble_eq_true rfl) dX4_init_25 rfl ?_
  refine gc_aload_n h dX4_init_28 rfl rfl ?_
  refine gc_sipush (v := nI 168) h dX4_init_29 (by decide) ?_
  refine gc_newa (k := r + 4) (N := 168) h hA hRC.2 (by omega) (hinv 3 (by decide)) tw_1_116 s4 (ho _ 4 (by decide) (by decide)) (hz 4 (by decide) (by decide)) rfl (by decide) (fitN hRC (by omega) (by decide)) dX4_init_32 ?_
  refine gc_put (fs' := [.ref (E.ad (r + 1)), .ref (E.ad (r + 2)), .ref (E.ad (r + 3)), .ref (E.ad (r + 4)), .null, .null, .null, .null, .int 0, .int 0, .int 0, .int 0, .int 0]) h hA hnm pk_X4_21_4 (by rw [show ordC r = r from h0]; omega) rfl rfl (Nat.le_of_ble_eq_true rfl) dX4_init_34 rfl ?_
  refine gc_aload_n h dX4_init_37 rfl rfl ?_
  refine gc_bipush (v := nI 8) h dX4_init_38 (by decide) ?_
  refine gc_newa (k := r + 5) (N := 8) h hA hRC.2 (by omega) (hinv 4 (by decide)) tw_1_116 s5 (ho _ 5 (by decide) (by decide)) (hz 5 (by decide) (by decide)) rfl (by decide) (fitN hRC (by omega) (by decide)) dX4_init_40 ?_
  refine gc_put (fs' := [.ref (E.ad (r + 1)), .ref (E.ad (r + 2)), .ref (E.ad (r + 3)), .ref (E.ad (r + 4)), .ref (E.ad (r + 5)), .null, .null, .null, .int 0, .int 0, .int 0, .int 0, .int 0]) h hA hnm pk_X4_24_4 (by rw [show ordC r = r from h0]; omega) rfl rfl (Nat.le_of_ble_eq_true rfl) dX4_init_42 rfl ?_
  refine gc_aload_n h dX4_init_45 rfl rfl ?_
  refine gc_bipush (v := nI 8) h dX4_init_46 (by decide) ?_
  refine gc_newa (k := r + 6) (N := 8) h hA hRC.2 (by omega) (hinv 5 (by decide)) tw_1_116 s6 (ho _ 6 (by decide) (by decide)) (hz 6 (by decide) (by decide)) rfl (by decide) (fitN hRC (by omega) (by decide)) dX4_init_48 ?_
  refine gc_put (fs' := [.ref (E.ad (r + 1)), .ref (E.ad (r + 2)), .ref (E.ad (r + 3)), .ref (E.ad (r + 4)), .ref (E.ad (r + 5)), .ref (E.ad (r + 6)), .null, .null, .int 0, .int 0, .int 0, .int 0, .int 0]) h hA hnm pk_X4_27_4 (by rw [show ordC r = r from h0]; omega) rfl rfl (Nat.le_of_ble_eq_true rfl) dX4_init_50 rfl ?_
  refine gc_aload_n h dX4_init_53 rfl rfl ?_
  refine gc_bipush (v := nI 8) h dX4_init_54 (by decide) ?_
  refine gc_newa (k := r + 7) (N := 8) h hA hRC.2 (by omega) (hinv 6 (by decide)) tw_1_116 s7 (ho _ 7 (by decide) (by decide)) (hz 7 (by decide) (by decide)) rfl (by decide) (fitN hRC (by omega) (by decide)) dX4_init_56 ?_
  refine gc_put (fs' := [.ref (E.ad (r + 1)), .ref (E.ad (r + 2)), .ref (E.ad (r + 3)), .ref (E.ad (r + 4)), .ref (E.ad (r + 5)), .ref (E.ad (r + 6)), .ref (E.ad (r + 7)), .null, .int 0, .int 0, .int 0, .int 0, .int 0]) h hA hnm pk_X4_30_4 (by rw [show ordC r = r from h0]; omega) rfl rfl (Nat.le_of_ble_eq_true rfl) dX4_init_58 rfl ?_
  refine gc_aload_n h dX4_init_61 rfl rfl ?_
  refine gc_bipush (v := nI 8) h dX4_init_62 (by decide) ?_
  refine gc_newa (k := r + 8) (N := 8) h hA hRC.2 (by omega) (hinv 7 (by decide)) tw_1_116 s8 (ho _ 8 (by decide) (by decide)) (hz 8 (by decide) (by decide)) rfl (by decide) (fitN hRC (by omega) (by decide)) dX4_init_64 ?_
  refine gc_put (fs' := [.ref (E.ad (r + 1)), .ref (E.ad (r + 2)), .ref (E.ad (r + 3)), .ref (E.ad (r + 4)), .ref (E.ad (r + 5)), .ref (E.ad (r + 6)), .ref (E.ad (r + 7)), .ref (E.ad (r + 8)), .int 0, .int 0, .int 0, .int 0, .int 0]) h hA hnm pk_X4_33_4 (by rw [show ordC r = r from h0]; omega) rfl rfl (Nat.le_of_ble_eq_true rfl) dX4_init_66 rfl ?_
  refine gc_close (hO 0 (by decide)) ?_ ?_
  · rw [s0, h0u]
    rfl
  · exact gc_vret h hRC (by show r + 1 + (r + 1 + 8 - (r + 1)) = r + 1 + 8; omega) hrt dX4_init_69 (by decide)
set_option maxHeartbeats 1000000 in
theorem cc_X2 {E : EE} (hA : AdC E) (r : Nat) (O : OpC) (u : Sto) (hr : r + 5 ≤ 74) (hs : lawS r) (hO : ∀ j, j ≤ 5 → opL O (r + j) = none) (hz : ∀ j, 1 ≤ j → j ≤ 5 → u (r + j) = fun _ => 0) (h0u : u r = fun j => if j = 5 then -1 else 0) : CtC E 3 477 yX2_init cX2_init 1 [.ref (E.ad r)] (r + 1, (r, .inr (2, [.null, .null, .null, .null, .null, .int 0])) :: O, u) (r + 1 + 5, O, u) := by
  obtain ⟨s0, s1, s2, s3, s4, s5⟩ := hs
  have ho : ∀ (e : va_E) j, 1 ≤ j → j ≤ 5 → opL ((r, e) :: O) (r + j) = none := fun e j h1 h6 => (opL_tl (by omega)).trans (hO j h6)
  have hord : ∀ j, j ≤ 5 → ordC (r + j) = r + j := fun j hj => by rw [ordC, if_pos (by omega)]
  have hinv : ∀ j, j < 5 → invC (r + 1 + j) = r + 1 + j := fun j hj => by rw [invC, if_pos (by omega)]
  have h0 := hord 0 (by decide)
  refine ctc_of (by decide) (Nat.le_of_ble_eq_true rfl) (fun X h hRC hrt hnm => ?_)
  refine gc_aload_n h dX2_init_0 rfl rfl ?_
  refine gc_oinit h tw_1_194 (Nat.le_of_ble_eq_true rfl) (oR hRC (by decide)) dX2_init_1 ?_
  refine gc_aload_n h dX2_init_4 rfl rfl ?_
  refine gc_sipush (v := nI 400) h dX2_init_5 (by decide) ?_
  refine gc_newa (k := r + 1) (N := 400) h hA hRC.2 (by omega) (hinv 0 (by decide)) tw_1_116 s1 (ho _ 1 (by decide) (by decide)) (hz 1 (by decide) (by decide)) rfl (by decide) (fitN hRC (by omega) (by decide)) dX2_init_8 ?_
  refine gc_put (fs' := [.ref (E.ad (r + 1)), .null, .null, .null, .null, .int 0]) h hA hnm pk_X2_9_2 (by rw [show ordC r = r from h0]; omega) rfl rfl (Nat.le_of_ble_eq_true rfl) dX2_init_10 rfl ?_
  refine gc_aload_n h dX2_init_13 rfl rfl ?_
  refine gc_bipush (v := nI 13) h dX2_init_14 (by decide) ?_
  refine gc_newa (k := r + 2) (N := 13) h hA hRC.2 (by omega) (hinv 1 (by decide)) tw_1_116 s2 (ho _ 2 (by decide) (by decide)) (hz 2 (by decide) (by decide)) rfl (by decide) (fitN hRC (by omega) (by decide)) dX2_init_16 ?_
  refine gc_put (fs' := [.ref (E.ad (r + 1)), .ref (E.ad (r + 2)), .null, .null, .null, .int 0]) h hA hnm pk_X2_15_2 (by rw [show ordC r = r from h0]; omega) rfl rfl (Nat.le_of_ble_eq_true rfl) dX2_init_18 rfl ?_
  refine gc_aload_n h dX2_init_21 rfl rfl ?_
  refine gc_bipush (v := nI 12) h dX2_init_22 (by decide) ?_
  refine gc_newa (k := r + 3) (N := 12) h hA hRC.2 (by omega) (hinv 2 (by decide)) tw_1_116 s3 (ho _ 3 (by decide) (by decide)) (hz 3 (by decide) (by decide)) rfl (by decide) (fitN hRC (by omega) (by decide)) dX2_init_24 ?_
  refine gc_put (fs' := [.ref (E.ad (r + 1)), .ref (E.ad (r + 2)), .ref (E.ad (r + 3)), .null, .null, .int 0]) h hA hnm pk_X2_18_2 (by rw [show ordC r = r from h0]; omega) rfl rfl (Nat.le_of_ble_eq_true rfl) dX2_init_26 rfl ?_
  refine gc_aload_n h dX2_init_29 rfl rfl ?_
  refine gc_bipush (v := nI 12) h dX2_init_30 (by decide) ?_
  refine gc_newa (k := r + 4) (N := 12) h hA hRC.2 (by omega) (hinv 3 (by decide)) tw_1_116 s4 (ho _ 4 (by decide) (by decide)) (hz 4 (by decide) (by decide)) rfl (by decide) (fitN hRC (by omega) (by decide)) dX2_init_32 ?_
  refine gc_put (fs' := [.ref (E.ad (r + 1)), .ref (E.ad (r + 2)), .ref (E.ad (r + 3)), .ref (E.ad (r + 4)), .null, .int 0]) h hA hnm pk_X2_21_2 (by rw [show ordC r = r from h0]; omega) rfl rfl (Nat.le_of_ble_eq_true rfl) dX2_init_34 rfl ?_
  refine gc_aload_n h dX2_init_37 rfl rfl ?_
  refine gc_bipush (v := nI 40) h dX2_init_38 (by decide) ?_
  refine gc_newa (k := r + 5) (N := 40) h hA hRC.2 (by omega) (hinv 4 (by decide)) tw_1_116 s5 (ho _ 5 (by decide) (by decide)) (hz 5 (by decide) (by decide)) rfl (by decide) (fitN hRC (by omega) (by decide)) dX2_init_40 ?_
  refine gc_put (fs' := [.ref (E.ad (r + 1)), .ref (E.ad (r + 2)), .ref (E.ad (r + 3)), .ref (E.ad (r + 4)), .ref (E.ad (r + 5)), .int 0]) h hA hnm pk_X2_24_2 (by rw [show ordC r = r from h0]; omega) rfl rfl (Nat.le_of_ble_eq_true rfl) dX2_init_42 rfl ?_
  refine gc_aload_n h dX2_init_45 rfl rfl ?_
  refine gc_iconst (v := -1) h dX2_init_46 (by decide) ?_
  refine gc_put (fs' := [.ref (E.ad (r + 1)), .ref (E.ad (r + 2)), .ref (E.ad (r + 3)), .ref (E.ad (r + 4)), .ref (E.ad (r + 5)), .int (-1)]) h hA hnm pk_X2_27_2 (by rw [show ordC r = r from h0]; omega) rfl rfl (Nat.le_of_ble_eq_true rfl) dX2_init_47 rfl ?_
  refine gc_close (hO 0 (by decide)) ?_ ?_
  · rw [s0, h0u]
    rfl
  · exact gc_vret h hRC (by show r + 1 + (r + 1 + 5 - (r + 1)) = r + 1 + 5; omega) hrt dX2_init_50 (by decide)
