-- after: c2.ct
def worldS (b : Nat) : Prop := shp b = .inl (8, [some (b + 1), some (b + 8), some (b + 17), some (b + 23)]) ∧ shp (b + 23) = .inr (.inl (0, 8)) ∧ rollS (b + 8) ∧ lawS (b + 17) ∧ b + 1 ∈ townL ∧ b + 23 ≤ 74 ∧ (∀ k, b ≤ k → k ≤ b + 23 → k ≠ b + 1 → k ≠ b + 17 → uZ k = fun _ => 0) ∧ uZ (b + 17) = fun j => if j = 5 then -1 else 0
theorem uZ_l {l : Nat} (h : l = 19 ∨ l = 43 ∨ l = 67) : uZ l = fun j => if j = 5 then -1 else 0 := by
  funext j
  rw [uZ, if_neg (by rcases h with rfl | rfl | rfl <;> decide)]
  by_cases hj : j = 5
  · rw [if_pos (by omega), if_pos hj]
  · rw [if_neg (by omega), if_neg hj]
theorem tl_lo {k : Nat} (h : k ≤ 74) (h1 : k ≠ 3) (h2 : k ≠ 27) (h3 : k ≠ 51) : k ∉ townL := by
  simp only [townL, List.mem_cons, List.not_mem_nil, or_false]
  omega
theorem world_ok {b : Nat} (h : b = 2 ∨ b = 26 ∨ b = 50) : worldS b := by
  refine ⟨?_, ?_, ?_, ?_, ?_, by omega, fun k h1 h2 h3 h4 => uZ_z (tl_lo (by omega) (by omega) (by omega) (by omega)) (by omega), uZ_l (by omega)⟩
  · rcases h with rfl | rfl | rfl <;> decide +kernel
  · rcases h with rfl | rfl | rfl <;> decide +kernel
  · unfold rollS
    rcases h with rfl | rfl | rfl <;> refine ⟨?_, ?_, ?_, ?_, ?_, ?_, ?_, ?_, ?_⟩ <;> decide +kernel
  · unfold lawS
    rcases h with rfl | rfl | rfl <;> refine ⟨?_, ?_, ?_, ?_, ?_, ?_⟩ <;> decide +kernel
  · rcases h with rfl | rfl | rfl <;> decide +kernel
theorem nk_X9_9 : NLk RX9 9 6 12 [.null, .null, .null, .null, .null, .null, .int 0, .int 0, .int 0, .int 0, .int 0, .int 0] := ⟨(RX7, TX7, 12), rfl, rfl, uw_X7, tw_1_43, tw_1_44, tw_1_3, tyX7, tyX7_ok, by decide +kernel⟩
theorem ik_X9_11 : LkI RX9 11 yX7_init 0 cX7_init 1 := ⟨tw_1_47, tw_1_46, tw_1_3, ⟨by decide, by decide⟩, by decide +kernel, rfl, Or.inr ⟨_, tw_1_45⟩⟩
theorem pk_X9_12_8 : PFk RX9 12 8 0 (.object "HourLets$Town") := ⟨(RX9, TX9, 4), rfl, by decide, uw_X9, tw_1_217, rfl, by decide +kernel, ⟨tyX9, tyX9_ok⟩, nmX9⟩
theorem nk_X9_18 : NLk RX9 18 4 13 [.null, .null, .null, .null, .null, .null, .null, .null, .int 0, .int 0, .int 0, .int 0, .int 0] := ⟨(RX4, TX4, 13), rfl, rfl, uw_X4, tw_1_117, tw_1_118, tw_1_5, tyX4, tyX4_ok, by decide +kernel⟩
theorem ik_X9_20 : LkI RX9 20 yX4_init 0 cX4_init 1 := ⟨tw_1_121, tw_1_120, tw_1_5, ⟨by decide, by decide⟩, by decide +kernel, rfl, Or.inr ⟨_, tw_1_119⟩⟩
theorem pk_X9_21_8 : PFk RX9 21 8 1 (.object "HourLets$Roll") := ⟨(RX9, TX9, 4), rfl, by decide, uw_X9, tw_1_222, rfl, by decide +kernel, ⟨tyX9, tyX9_ok⟩, nmX9⟩
theorem nk_X9_25 : NLk RX9 25 2 6 [.null, .null, .null, .null, .null, .int 0] := ⟨(RX2, TX2, 6), rfl, rfl, uw_X2, tw_1_189, tw_1_190, tw_1_6, tyX2, tyX2_ok, by decide +kernel⟩
theorem ik_X9_27 : LkI RX9 27 yX2_init 0 cX2_init 1 := ⟨tw_1_193, tw_1_192, tw_1_6, ⟨by decide, by decide⟩, by decide +kernel, rfl, Or.inr ⟨_, tw_1_191⟩⟩
theorem pk_X9_28_8 : PFk RX9 28 8 2 (.object "HourLets$Law") := ⟨(RX9, TX9, 4), rfl, by decide, uw_X9, tw_1_226, rfl, by decide +kernel, ⟨tyX9, tyX9_ok⟩, nmX9⟩
theorem pk_X9_32_8 : PFk RX9 32 8 3 (.array .int) := ⟨(RX9, TX9, 4), rfl, by decide, uw_X9, tw_1_228, rfl, by decide +kernel, ⟨tyX9, tyX9_ok⟩, nmX9⟩
theorem ik_X8_3 : LkI RX8 3 yX6_init 1 cX6_init 2 := ⟨tw_2_7, tw_2_6, tw_1_7, ⟨by decide, by decide⟩, by decide +kernel, rfl, Or.inr ⟨_, tw_2_5⟩⟩
theorem pk_X6_9_7 : PFk RX6 9 7 0 (.array .int) := ⟨(RX8, TX8, 13), rfl, by decide, uw_X8, tw_2_15, rfl, by decide +kernel, ⟨tyX8, tyX8_ok⟩, nmX8⟩
theorem pk_X8_15_7 : PFk RX8 15 7 7 (.object "HourLets$Town") := ⟨(RX8, TX8, 13), rfl, by decide, uw_X8, tw_2_9, rfl, by decide +kernel, ⟨tyX8, tyX8_ok⟩, nmX8⟩
theorem pk_X8_22_7 : PFk RX8 22 7 8 (.object "HourLets$Roll") := ⟨(RX8, TX8, 13), rfl, by decide, uw_X8, tw_2_10, rfl, by decide +kernel, ⟨tyX8, tyX8_ok⟩, nmX8⟩
theorem ik_X3_3 : LkI RX3 3 yX6_init 1 cX6_init 2 := ⟨tw_2_7, tw_2_6, tw_1_7, ⟨by decide, by decide⟩, by decide +kernel, rfl, Or.inr ⟨_, tw_2_54⟩⟩
theorem pk_X6_9_3 : PFk RX6 9 3 0 (.array .int) := ⟨(RX3, TX3, 12), rfl, by decide, uw_X3, tw_2_15, rfl, by decide +kernel, ⟨tyX3, tyX3_ok⟩, nmX3⟩
theorem pk_X3_11_3 : PFk RX3 11 3 8 (.array .int) := ⟨(RX3, TX3, 12), rfl, by decide, uw_X3, tw_2_56, rfl, by decide +kernel, ⟨tyX3, tyX3_ok⟩, nmX3⟩
theorem pk_X3_15_3 : PFk RX3 15 3 7 (.object "HourLets$Law") := ⟨(RX3, TX3, 12), rfl, by decide, uw_X3, tw_2_55, rfl, by decide +kernel, ⟨tyX3, tyX3_ok⟩, nmX3⟩
theorem pk_X5_9_5 : PFk RX5 9 5 2 (.array .int) := ⟨(RX5, TX5, 3), rfl, by decide, uw_X5, tw_2_86, rfl, by decide +kernel, ⟨tyX5, tyX5_ok⟩, nmX5⟩
theorem pk_X5_15_5 : PFk RX5 15 5 0 (.object "HourLets$World") := ⟨(RX5, TX5, 3), rfl, by decide, uw_X5, tw_2_84, rfl, by decide +kernel, ⟨tyX5, tyX5_ok⟩, nmX5⟩
theorem pk_X5_25_5 : PFk RX5 25 5 1 (.object "HourLets$Town") := ⟨(RX5, TX5, 3), rfl, by decide, uw_X5, tw_2_85, rfl, by decide +kernel, ⟨tyX5, tyX5_ok⟩, nmX5⟩
theorem pk_X0_9_0 : PFk RX0 9 0 2 (.array .int) := ⟨(RX0, TX0, 11), rfl, by decide, uw_X0, tw_2_102, rfl, by decide +kernel, ⟨tyX0, tyX0_ok⟩, nmX0⟩
theorem pk_X0_15_0 : PFk RX0 15 0 3 (.array .int) := ⟨(RX0, TX0, 11), rfl, by decide, uw_X0, tw_2_103, rfl, by decide +kernel, ⟨tyX0, tyX0_ok⟩, nmX0⟩
theorem pk_X0_18_0 : PFk RX0 18 0 4 (.array .int) := ⟨(RX0, TX0, 11), rfl, by decide, uw_X0, tw_2_104, rfl, by decide +kernel, ⟨tyX0, tyX0_ok⟩, nmX0⟩
theorem pk_X0_21_0 : PFk RX0 21 0 5 (.array .int) := ⟨(RX0, TX0, 11), rfl, by decide, uw_X0, tw_2_105, rfl, by decide +kernel, ⟨tyX0, tyX0_ok⟩, nmX0⟩
theorem pk_X0_24_0 : PFk RX0 24 0 6 (.array .int) := ⟨(RX0, TX0, 11), rfl, by decide, uw_X0, tw_2_106, rfl, by decide +kernel, ⟨tyX0, tyX0_ok⟩, nmX0⟩
theorem pk_X0_27_0 : PFk RX0 27 0 7 (.array .int) := ⟨(RX0, TX0, 11), rfl, by decide, uw_X0, tw_2_107, rfl, by decide +kernel, ⟨tyX0, tyX0_ok⟩, nmX0⟩
theorem pk_X0_30_0 : PFk RX0 30 0 8 (.array .int) := ⟨(RX0, TX0, 11), rfl, by decide, uw_X0, tw_2_108, rfl, by decide +kernel, ⟨tyX0, tyX0_ok⟩, nmX0⟩
theorem pk_X0_33_0 : PFk RX0 33 0 9 (.array .int) := ⟨(RX0, TX0, 11), rfl, by decide, uw_X0, tw_2_109, rfl, by decide +kernel, ⟨tyX0, tyX0_ok⟩, nmX0⟩
theorem pk_X0_36_0 : PFk RX0 36 0 0 (.object "HourLets$World") := ⟨(RX0, TX0, 11), rfl, by decide, uw_X0, tw_2_100, rfl, by decide +kernel, ⟨tyX0, tyX0_ok⟩, nmX0⟩
theorem pk_X0_46_0 : PFk RX0 46 0 1 (.object "HourLets$Town") := ⟨(RX0, TX0, 11), rfl, by decide, uw_X0, tw_2_101, rfl, by decide +kernel, ⟨tyX0, tyX0_ok⟩, nmX0⟩
theorem pk_X1_9_1 : PFk RX1 9 1 1 (.array .int) := ⟨(RX1, TX1, 6), rfl, by decide, uw_X1, tw_2_141, rfl, by decide +kernel, ⟨tyX1, tyX1_ok⟩, nmX1⟩
theorem pk_X1_15_1 : PFk RX1 15 1 2 (.array .int) := ⟨(RX1, TX1, 6), rfl, by decide, uw_X1, tw_2_142, rfl, by decide +kernel, ⟨tyX1, tyX1_ok⟩, nmX1⟩
theorem pk_X1_18_1 : PFk RX1 18 1 3 (.array .int) := ⟨(RX1, TX1, 6), rfl, by decide, uw_X1, tw_2_143, rfl, by decide +kernel, ⟨tyX1, tyX1_ok⟩, nmX1⟩
theorem pk_X1_21_1 : PFk RX1 21 1 4 (.array .int) := ⟨(RX1, TX1, 6), rfl, by decide, uw_X1, tw_2_144, rfl, by decide +kernel, ⟨tyX1, tyX1_ok⟩, nmX1⟩
theorem pk_X1_24_1 : PFk RX1 24 1 0 (.object "HourLets$World") := ⟨(RX1, TX1, 6), rfl, by decide, uw_X1, tw_2_140, rfl, by decide +kernel, ⟨tyX1, tyX1_ok⟩, nmX1⟩
set_option maxHeartbeats 2000000 in
theorem cc_X9 {E : EE} (hA : AdC E) (b : Nat) (O : OpC) (u : Sto) (hs : worldS b) (hO : ∀ k, b ≤ k → k ≤ b + 23 → opL O k = none) (hu : ∀ k, b ≤ k → k ≤ b + 23 → u k = uZ k) : CtC E 5 1350 yX9_init cX9_init 1 [.ref (E.ad b)] (b + 1, (b, .inr (8, [.null, .null, .null, .null])) :: O, u) (b + 24, O, twF u (b + 1)) := by
  obtain ⟨s0, s23, sr, sl, ht, hb, hz, hzl⟩ := hs
  have hord : ∀ k, k ≤ b + 23 → ordC k = k := fun k hk => by rw [ordC, if_pos (by omega)]
  have hinv : ∀ k, k ≤ b + 23 → invC k = k := fun k hk => by rw [invC, if_pos (by omega)]
  have ho : ∀ (e : va_E) k, b + 1 ≤ k → k ≤ b + 23 → opL ((b, e) :: O) k = none := fun e k h1 h6 => (opL_tl (by omega)).trans (hO k (by omega) h6)
  have hu2 : ∀ k, b + 8 ≤ k → k ≤ b + 23 → twF u (b + 1) k = uZ k := fun k h1 h2 => (twF_c (by omega) (by omega)).trans (hu k (by omega) h2)
  have h0 := hord b (by omega)
  refine ctc_of (by decide) (Nat.le_of_ble_eq_true rfl) (fun X h hRC hrt hnm => ?_)
  refine gc_aload_n h dX9_init_0 rfl rfl ?_
  refine gc_oinit h tw_1_42 (Nat.le_of_ble_eq_true rfl) (oR hRC (by decide)) dX9_init_1 ?_
  refine gc_aload_n h dX9_init_4 rfl rfl ?_
  refine gc_new (k := b + 1) h hA hRC.2 (by omega) (hinv (b + 1) (by omega)) nk_X9_9 (fitN hRC (by omega) (by decide)) dX9_init_5 ?_
  refine gc_dup h dX9_init_8 rfl ?_
  refine gc_I (L := 3) (ms := 604) (As := []) (rest := [.ref (E.ad (b + 1)), .ref (E.ad b)]) (w' := (b + 8, (b, .inr (8, [.null, .null, .null, .null])) :: O, twF u (b + 1))) h hRC.2 (by show b + 1 ≤ b + 2; omega) (by show b + 2 ≤ b + 8; omega) ik_X9_11 (cc_X7 hA (b + 1) (b + 2) _ u ht (by rw [hord (b + 1) (by omega)]; omega) (fun j hj => by have := hinv (b + 2 + j) (by omega); omega) (fun j hj => ho _ (b + 1 + j) (by omega) (by omega)) (fun j hj => hu (b + 1 + j) (by omega) (by omega))) (fitC hRC (by decide) (by decide) (by show b + 8 ≤ b + 24 - (b + 1) + (b + 1); omega) (by decide)) rfl rfl (Nat.le_of_ble_eq_true rfl) dX9_init_9 ?_
  refine gc_put (fs' := [.ref (E.ad (b + 1)), .null, .null, .null]) h hA hnm pk_X9_12_8 (by rw [h0]; omega) rfl rfl (Nat.le_of_ble_eq_true rfl) dX9_init_12 rfl ?_
  refine gc_aload_n h dX9_init_15 rfl rfl ?_
  refine gc_new (k := b + 8) h hA hRC.2 (by omega) (hinv (b + 8) (by omega)) nk_X9_18 (fitN hRC (by omega) (by decide)) dX9_init_16 ?_
  refine gc_dup h dX9_init_19 rfl ?_
  refine gc_I (L := 3) (ms := 230) (As := []) (rest := [.ref (E.ad (b + 8)), .ref (E.ad b)]) (w' := (b + 17, (b, .inr (8, [.ref (E.ad (b + 1)), .null, .null, .null])) :: O, twF u (b + 1))) h hRC.2 (by show b + 1 ≤ b + 9; omega) (by show b + 9 ≤ b + 17; omega) ik_X9_20 (cc_X4 hA (b + 8) _ _ (by omega) sr (fun j hj => ho _ (b + 8 + j) (by omega) (by omega)) (fun j h1 h2 => (hu2 (b + 8 + j) (by omega) (by omega)).trans (hz (b + 8 + j) (by omega) (by omega) (by omega) (by omega))) ((hu2 (b + 8) (by omega) (by omega)).trans (hz (b + 8) (by omega) (by omega) (by omega) (by omega)))) (fitC hRC (by decide) (by decide) (by show b + 17 ≤ b + 24 - (b + 1) + (b + 1); omega) (by decide)) rfl rfl (Nat.le_of_ble_eq_true rfl) dX9_init_20 ?_
  refine gc_put (fs' := [.ref (E.ad (b + 1)), .ref (E.ad (b + 8)), .null, .null]) h hA hnm pk_X9_21_8 (by rw [h0]; omega) rfl rfl (Nat.le_of_ble_eq_true rfl) dX9_init_23 rfl ?_
  refine gc_aload_n h dX9_init_26 rfl rfl ?_
  refine gc_new (k := b + 17) h hA hRC.2 (by omega) (hinv (b + 17) (by omega)) nk_X9_25 (fitN hRC (by omega) (by decide)) dX9_init_27 ?_
  refine gc_dup h dX9_init_30 rfl ?_
  refine gc_I (L := 3) (ms := 477) (As := []) (rest := [.ref (E.ad (b + 17)), .ref (E.ad b)]) (w' := (b + 23, (b, .inr (8, [.ref (E.ad (b + 1)), .ref (E.ad (b + 8)), .null, .null])) :: O, twF u (b + 1))) h hRC.2 (by show b + 1 ≤ b + 18; omega) (by show b + 18 ≤ b + 23; omega) ik_X9_27 (cc_X2 hA (b + 17) _ _ (by omega) sl (fun j hj => ho _ (b + 17 + j) (by omega) (by omega)) (fun j h1 h2 => (hu2 (b + 17 + j) (by omega) (by omega)).trans (hz (b + 17 + j) (by omega) (by omega) (by omega) (by omega))) ((hu2 (b + 17) (by omega) (by omega)).trans hzl)) (fitC hRC (by decide) (by decide) (by show b + 23 ≤ b + 24 - (b + 1) + (b + 1); omega) (by decide)) rfl rfl (Nat.le_of_ble_eq_true rfl) dX9_init_31 ?_
  refine gc_put (fs' := [.ref (E.ad (b + 1)), .ref (E.ad (b + 8)), .ref (E.ad (b + 17)), .null]) h hA hnm pk_X9_28_8 (by rw [h0]; omega) rfl rfl (Nat.le_of_ble_eq_true rfl) dX9_init_34 rfl ?_
  refine gc_aload_n h dX9_init_37 rfl rfl ?_
  refine gc_bipush (v := nI 8) h dX9_init_38 (by decide) ?_
  refine gc_newa (k := b + 23) (N := 8) h hA hRC.2 (by omega) (hinv (b + 23) (by omega)) tw_1_116 s23 (ho _ (b + 23) (by omega) (by omega)) ((hu2 (b + 23) (by omega) (by omega)).trans (hz (b + 23) (by omega) (by omega) (by omega) (by omega))) rfl (by decide) (fitN hRC (by omega) (by decide)) dX9_init_40 ?_
  refine gc_put (fs' := [.ref (E.ad (b + 1)), .ref (E.ad (b + 8)), .ref (E.ad (b + 17)), .ref (E.ad (b + 23))]) h hA hnm pk_X9_32_8 (by rw [h0]; omega) rfl rfl (Nat.le_of_ble_eq_true rfl) dX9_init_42 rfl ?_
  refine gc_close (hO b (by omega) (by omega)) ?_ ?_
  · rw [s0]
    rfl
  · exact gc_vret h hRC (by show b + 1 + (b + 24 - (b + 1)) = b + 24; omega) hrt dX9_init_45 (by decide)
set_option maxHeartbeats 1000000 in
theorem cc_X6 {E : EE} (hA : AdC E) (k ci m a : Nat) (fs fs' : List Value) (O : OpC) (u : Sto) (hp : PFk RX6 9 ci 0 (.array .int)) (hk : ordC k < m) (hj : 0 < fs.length) (hfs : fs.set 0 (.ref a) = fs') : CtC E 2 0 yX6_init cX6_init 2 [.ref (E.ad k), .ref a] (m, (k, .inr (ci, fs)) :: O, u) (m, (k, .inr (ci, fs')) :: O, u) := by
  refine ctc_of (by decide) (Nat.le_of_ble_eq_true rfl) (fun X h hRC hrt hnm => ?_)
  refine gc_aload_n h dX6_init_0 rfl rfl ?_
  refine gc_oinit h tw_2_8 (Nat.le_of_ble_eq_true rfl) (oR hRC (by decide)) dX6_init_1 ?_
  refine gc_aload_n h dX6_init_4 rfl rfl ?_
  refine gc_aload_n h dX6_init_5 rfl rfl ?_
  refine gc_put (fs' := fs') h hA hnm hp hk rfl rfl hj dX6_init_6 hfs ?_
  exact gc_vret h hRC (by show m + (m - m) = m; omega) hrt dX6_init_9 (by decide)
set_option maxHeartbeats 1000000 in
theorem cc_X8 {E : EE} (hA : AdC E) (e0 e74 : va_E) (u : Sto) (hz : ∀ k, 159 ≤ k → k ≤ 177 → u k = fun _ => 0) : CtC E 4 0 yX8_init cX8_init 3 [.ref (E.ad 159), .ref (E.ad 1), .ref (E.ad 26)] (76, [(159, .inr (7, [.null, .int 0, .int 0, .int 0, .int 0, .int 0, .int 0, .null, .null, .int 0, .int 0, .int 0, .int 0])), (0, e0), (74, e74)], u) (76, [(0, e0), (74, e74)], u) := by
  refine ctc_of (by decide) (Nat.le_of_ble_eq_true rfl) (fun X h hRC hrt hnm => ?_)
  refine gc_aload_n h dX8_init_0 rfl rfl ?_
  refine gc_aload_n h dX8_init_1 rfl rfl ?_
  refine gc_I (L := 2) (ms := 0) (As := [.ref (E.ad 1)]) (rest := []) (w' := (76, [(159, .inr (7, [.ref (E.ad 1), .int 0, .int 0, .int 0, .int 0, .int 0, .int 0, .null, .null, .int 0, .int 0, .int 0, .int 0])), (0, e0), (74, e74)], u)) h hRC.2 (Nat.le_of_ble_eq_true rfl) (Nat.le_of_ble_eq_true rfl) ik_X8_3 (cc_X6 hA 159 7 76 _ _ _ _ _ pk_X6_9_7 (Nat.le_of_ble_eq_true rfl) (Nat.le_of_ble_eq_true rfl) rfl) (fitC hRC (by decide) (by decide) (Nat.le_of_ble_eq_true rfl) (Nat.le_of_ble_eq_true rfl)) rfl rfl (Nat.le_of_ble_eq_true rfl) dX8_init_2 ?_
  refine gc_aload_n h dX8_init_5 rfl rfl ?_
  refine gc_aload_n h dX8_init_6 rfl rfl ?_
  refine gc_get (k := 26) (fs := [.ref (E.ad 27), .ref (E.ad 34), .ref (E.ad 43), .ref (E.ad 49)]) h hA fl_X8_9_8 (Nat.le_of_ble_eq_true rfl) ((ct_n rfl).trans (by rw [sh_26]; rfl)) rfl dX8_init_7 ?_
  refine gc_put (fs' := [.ref (E.ad 1), .int 0, .int 0, .int 0, .int 0, .int 0, .int 0, .ref (E.ad 27), .null, .int 0, .int 0, .int 0, .int 0]) h hA hnm pk_X8_15_7 (Nat.le_of_ble_eq_true rfl) rfl rfl (Nat.le_of_ble_eq_true rfl) dX8_init_10 rfl ?_
  refine gc_aload_n h dX8_init_13 rfl rfl ?_
  refine gc_aload_n h dX8_init_14 rfl rfl ?_
  refine gc_get (k := 26) (fs := [.ref (E.ad 27), .ref (E.ad 34), .ref (E.ad 43), .ref (E.ad 49)]) h hA fl_X8_18_8 (Nat.le_of_ble_eq_true rfl) ((ct_n rfl).trans (by rw [sh_26]; rfl)) rfl dX8_init_15 ?_
  refine gc_put (fs' := [.ref (E.ad 1), .int 0, .int 0, .int 0, .int 0, .int 0, .int 0, .ref (E.ad 27), .ref (E.ad 34), .int 0, .int 0, .int 0, .int 0]) h hA hnm pk_X8_22_7 (Nat.le_of_ble_eq_true rfl) rfl rfl (Nat.le_of_ble_eq_true rfl) dX8_init_18 rfl ?_
  refine gc_close rfl ?_ ?_
  · rw [sh_159, hz 159 (by decide) (by decide)]
    rfl
  · exact gc_vret h hRC rfl hrt dX8_init_21 (Nat.le_of_ble_eq_true rfl)
set_option maxHeartbeats 1000000 in
theorem cc_X3 {E : EE} (hA : AdC E) (e0 e74 : va_E) (u : Sto) (hz : ∀ k, 159 ≤ k → k ≤ 177 → u k = fun _ => 0) : CtC E 4 40 yX3_init cX3_init 3 [.ref (E.ad 160), .ref (E.ad 1), .ref (E.ad 43)] (77, [(160, .inr (3, [.null, .int 0, .int 0, .int 0, .int 0, .int 0, .int 0, .null, .null, .int 0, .int 0, .int 0])), (0, e0), (74, e74)], u) (78, [(0, e0), (74, e74)], u) := by
  refine ctc_of (by decide) (Nat.le_of_ble_eq_true rfl) (fun X h hRC hrt hnm => ?_)
  refine gc_aload_n h dX3_init_0 rfl rfl ?_
  refine gc_aload_n h dX3_init_1 rfl rfl ?_
  refine gc_I (L := 2) (ms := 0) (As := [.ref (E.ad 1)]) (rest := []) (w' := (77, [(160, .inr (3, [.ref (E.ad 1), .int 0, .int 0, .int 0, .int 0, .int 0, .int 0, .null, .null, .int 0, .int 0, .int 0])), (0, e0), (74, e74)], u)) h hRC.2 (Nat.le_of_ble_eq_true rfl) (Nat.le_of_ble_eq_true rfl) ik_X3_3 (cc_X6 hA 160 3 77 _ _ _ _ _ pk_X6_9_3 (Nat.le_of_ble_eq_true rfl) (Nat.le_of_ble_eq_true rfl) rfl) (fitC hRC (by decide) (by decide) (Nat.le_of_ble_eq_true rfl) (Nat.le_of_ble_eq_true rfl)) rfl rfl (Nat.le_of_ble_eq_true rfl) dX3_init_2 ?_
  refine gc_aload_n h dX3_init_5 rfl rfl ?_
  refine gc_bipush (v := nI 40) h dX3_init_6 (by decide) ?_
  refine gc_newa (k := 161) (N := 40) h hA hRC.2 (Nat.le_of_ble_eq_true rfl) (by decide) tw_1_116 sh_161 rfl (hz 161 (by decide) (by decide)) rfl (by decide) (fitN hRC (Nat.le_of_ble_eq_true rfl) (Nat.le_of_ble_eq_true rfl)) dX3_init_8 ?_
  refine gc_put (fs' := [.ref (E.ad 1), .int 0, .int 0, .int 0, .int 0, .int 0, .int 0, .null, .ref (E.ad 161), .int 0, .int 0, .int 0]) h hA hnm pk_X3_11_3 (Nat.le_of_ble_eq_true rfl) rfl rfl (Nat.le_of_ble_eq_true rfl) dX3_init_10 rfl ?_
  refine gc_aload_n h dX3_init_13 rfl rfl ?_
  refine gc_aload_n h dX3_init_14 rfl rfl ?_
  refine gc_put (fs' := [.ref (E.ad 1), .int 0, .int 0, .int 0, .int 0, .int 0, .int 0, .ref (E.ad 43), .ref (E.ad 161), .int 0, .int 0, .int 0]) h hA hnm pk_X3_15_3 (Nat.le_of_ble_eq_true rfl) rfl rfl (Nat.le_of_ble_eq_true rfl) dX3_init_15 rfl ?_
  refine gc_close rfl ?_ ?_
  · rw [sh_160, hz 160 (by decide) (by decide)]
    rfl
  · exact gc_vret h hRC rfl hrt dX3_init_18 (Nat.le_of_ble_eq_true rfl)
set_option maxHeartbeats 1000000 in
theorem cc_X5 {E : EE} (hA : AdC E) (e0 e74 : va_E) (u : Sto) (hz : ∀ k, 159 ≤ k → k ≤ 177 → u k = fun _ => 0) : CtC E 4 168 yX5_init cX5_init 2 [.ref (E.ad 162), .ref (E.ad 2)] (79, [(162, .inr (5, [.null, .null, .null])), (0, e0), (74, e74)], u) (80, [(0, e0), (74, e74)], u) := by
  refine ctc_of (by decide) (Nat.le_of_ble_eq_true rfl) (fun X h hRC hrt hnm => ?_)
  refine gc_aload_n h dX5_init_0 rfl rfl ?_
  refine gc_oinit h tw_2_83 (Nat.le_of_ble_eq_true rfl) (oR hRC (by decide)) dX5_init_1 ?_
  refine gc_aload_n h dX5_init_4 rfl rfl ?_
  refine gc_sipush (v := nI 168) h dX5_init_5 (by decide) ?_
  refine gc_newa (k := 163) (N := 168) h hA hRC.2 (Nat.le_of_ble_eq_true rfl) (by decide) tw_1_116 sh_163 rfl (hz 163 (by decide) (by decide)) rfl (by decide) (fitN hRC (Nat.le_of_ble_eq_true rfl) (Nat.le_of_ble_eq_true rfl)) dX5_init_8 ?_
  refine gc_put (fs' := [.null, .null, .ref (E.ad 163)]) h hA hnm pk_X5_9_5 (Nat.le_of_ble_eq_true rfl) rfl rfl (Nat.le_of_ble_eq_true rfl) dX5_init_10 rfl ?_
  refine gc_aload_n h dX5_init_13 rfl rfl ?_
  refine gc_aload_n h dX5_init_14 rfl rfl ?_
  refine gc_put (fs' := [.ref (E.ad 2), .null, .ref (E.ad 163)]) h hA hnm pk_X5_15_5 (Nat.le_of_ble_eq_true rfl) rfl rfl (Nat.le_of_ble_eq_true rfl) dX5_init_15 rfl ?_
  refine gc_aload_n h dX5_init_18 rfl rfl ?_
  refine gc_aload_n h dX5_init_19 rfl rfl ?_
  refine gc_get (k := 2) (fs := [.ref (E.ad 3), .ref (E.ad 10), .ref (E.ad 19), .ref (E.ad 25)]) h hA fl_X5_19_8 (Nat.le_of_ble_eq_true rfl) ((ct_n rfl).trans (by rw [sh_2]; rfl)) rfl dX5_init_20 ?_
  refine gc_put (fs' := [.ref (E.ad 2), .ref (E.ad 3), .ref (E.ad 163)]) h hA hnm pk_X5_25_5 (Nat.le_of_ble_eq_true rfl) rfl rfl (Nat.le_of_ble_eq_true rfl) dX5_init_23 rfl ?_
  refine gc_close rfl ?_ ?_
  · rw [sh_162, hz 162 (by decide) (by decide)]
    rfl
  · exact gc_vret h hRC rfl hrt dX5_init_26 (Nat.le_of_ble_eq_true rfl)
set_option maxHeartbeats 1000000 in
theorem cc_X0 {E : EE} (hA : AdC E) (e0 e74 : va_E) (u : Sto) (hz : ∀ k, 159 ≤ k → k ≤ 177 → u k = fun _ => 0) : CtC E 4 231 yX0_init cX0_init 2 [.ref (E.ad 164), .ref (E.ad 2)] (81, [(164, .inr (0, [.null, .null, .null, .null, .null, .null, .null, .null, .null, .null, .int 0])), (0, e0), (74, e74)], u) (89, [(0, e0), (74, e74)], u) := by
  refine ctc_of (by decide) (Nat.le_of_ble_eq_true rfl) (fun X h hRC hrt hnm => ?_)
  refine gc_aload_n h dX0_init_0 rfl rfl ?_
  refine gc_oinit h tw_2_99 (Nat.le_of_ble_eq_true rfl) (oR hRC (by decide)) dX0_init_1 ?_
  refine gc_aload_n h dX0_init_4 rfl rfl ?_
  refine gc_sipush (v := nI 168) h dX0_init_5 (by decide) ?_
  refine gc_newa (k := 165) (N := 168) h hA hRC.2 (Nat.le_of_ble_eq_true rfl) (by decide) tw_1_116 sh_165 rfl (hz 165 (by decide) (by decide)) rfl (by decide) (fitN hRC (Nat.le_of_ble_eq_true rfl) (Nat.le_of_ble_eq_true rfl)) dX0_init_8 ?_
  refine gc_put (fs' := [.null, .null, .ref (E.ad 165), .null, .null, .null, .null, .null, .null, .null, .int 0]) h hA hnm pk_X0_9_0 (Nat.le_of_ble_eq_true rfl) rfl rfl (Nat.le_of_ble_eq_true rfl) dX0_init_10 rfl ?_
  refine gc_aload_n h dX0_init_13 rfl rfl ?_
  refine gc_bipush (v := nI 10) h dX0_init_14 (by decide) ?_
  refine gc_newa (k := 166) (N := 10) h hA hRC.2 (Nat.le_of_ble_eq_true rfl) (by decide) tw_1_116 sh_166 rfl (hz 166 (by decide) (by decide)) rfl (by decide) (fitN hRC (Nat.le_of_ble_eq_true rfl) (Nat.le_of_ble_eq_true rfl)) dX0_init_16 ?_
  refine gc_put (fs' := [.null, .null, .ref (E.ad 165), .ref (E.ad 166), .null, .null, .null, .null, .null, .null, .int 0]) h hA hnm pk_X0_15_0 (Nat.le_of_ble_eq_true rfl) rfl rfl (Nat.le_of_ble_eq_true rfl) dX0_init_18 rfl ?_
  refine gc_aload_n h dX0_init_21 rfl rfl ?_
  refine gc_iconst (v := nI 3) h dX0_init_22 (by decide) ?_
  refine gc_newa (k := 167) (N := 3) h hA hRC.2 (Nat.le_of_ble_eq_true rfl) (by decide) tw_1_116 sh_167 rfl (hz 167 (by decide) (by decide)) rfl (by decide) (fitN hRC (Nat.le_of_ble_eq_true rfl) (Nat.le_of_ble_eq_true rfl)) dX0_init_23 ?_
  refine gc_put (fs' := [.null, .null, .ref (E.ad 165), .ref (E.ad 166), .ref (E.ad 167), .null, .null, .null, .null, .null, .int 0]) h hA hnm pk_X0_18_0 (Nat.le_of_ble_eq_true rfl) rfl rfl (Nat.le_of_ble_eq_true rfl) dX0_init_25 rfl ?_
  refine gc_aload_n h dX0_init_28 rfl rfl ?_
  refine gc_bipush (v := nI 18) h dX0_init_29 (by decide) ?_
  refine gc_newa (k := 168) (N := 18) h hA hRC.2 (Nat.le_of_ble_eq_true rfl) (by decide) tw_1_116 sh_168 rfl (hz 168 (by decide) (by decide)) rfl (by decide) (fitN hRC (Nat.le_of_ble_eq_true rfl) (Nat.le_of_ble_eq_true rfl)) dX0_init_31 ?_
  refine gc_put (fs' := [.null, .null, .ref (E.ad 165), .ref (E.ad 166), .ref (E.ad 167), .ref (E.ad 168), .null, .null, .null, .null, .int 0]) h hA hnm pk_X0_21_0 (Nat.le_of_ble_eq_true rfl) rfl rfl (Nat.le_of_ble_eq_true rfl) dX0_init_33 rfl ?_
  refine gc_aload_n h dX0_init_36 rfl rfl ?_
  refine gc_bipush (v := nI 6) h dX0_init_37 (by decide) ?_
  refine gc_newa (k := 169) (N := 6) h hA hRC.2 (Nat.le_of_ble_eq_true rfl) (by decide) tw_1_116 sh_169 rfl (hz 169 (by decide) (by decide)) rfl (by decide) (fitN hRC (Nat.le_of_ble_eq_true rfl) (Nat.le_of_ble_eq_true rfl)) dX0_init_39 ?_
  refine gc_put (fs' := [.null, .null, .ref (E.ad 165), .ref (E.ad 166), .ref (E.ad 167), .ref (E.ad 168), .ref (E.ad 169), .null, .null, .null, .int 0]) h hA hnm pk_X0_24_0 (Nat.le_of_ble_eq_true rfl) rfl rfl (Nat.le_of_ble_eq_true rfl) dX0_init_41 rfl ?_
  refine gc_aload_n h dX0_init_44 rfl rfl ?_
  refine gc_bipush (v := nI 6) h dX0_init_45 (by decide) ?_
  refine gc_newa (k := 170) (N := 6) h hA hRC.2 (Nat.le_of_ble_eq_true rfl) (by decide) tw_1_116 sh_170 rfl (hz 170 (by decide) (by decide)) rfl (by decide) (fitN hRC (Nat.le_of_ble_eq_true rfl) (Nat.le_of_ble_eq_true rfl)) dX0_init_47 ?_
  refine gc_put (fs' := [.null, .null, .ref (E.ad 165), .ref (E.ad 166), .ref (E.ad 167), .ref (E.ad 168), .ref (E.ad 169), .ref (E.ad 170), .null, .null, .int 0]) h hA hnm pk_X0_27_0 (Nat.le_of_ble_eq_true rfl) rfl rfl (Nat.le_of_ble_eq_true rfl) dX0_init_49 rfl ?_
  refine gc_aload_n h dX0_init_52 rfl rfl ?_
  refine gc_bipush (v := nI 10) h dX0_init_53 (by decide) ?_
  refine gc_newa (k := 171) (N := 10) h hA hRC.2 (Nat.le_of_ble_eq_true rfl) (by decide) tw_1_116 sh_171 rfl (hz 171 (by decide) (by decide)) rfl (by decide) (fitN hRC (Nat.le_of_ble_eq_true rfl) (Nat.le_of_ble_eq_true rfl)) dX0_init_55 ?_
  refine gc_put (fs' := [.null, .null, .ref (E.ad 165), .ref (E.ad 166), .ref (E.ad 167), .ref (E.ad 168), .ref (E.ad 169), .ref (E.ad 170), .ref (E.ad 171), .null, .int 0]) h hA hnm pk_X0_30_0 (Nat.le_of_ble_eq_true rfl) rfl rfl (Nat.le_of_ble_eq_true rfl) dX0_init_57 rfl ?_
  refine gc_aload_n h dX0_init_60 rfl rfl ?_
  refine gc_bipush (v := nI 10) h dX0_init_61 (by decide) ?_
  refine gc_newa (k := 172) (N := 10) h hA hRC.2 (Nat.le_of_ble_eq_true rfl) (by decide) tw_1_116 sh_172 rfl (hz 172 (by decide) (by decide)) rfl (by decide) (fitN hRC (Nat.le_of_ble_eq_true rfl) (Nat.le_of_ble_eq_true rfl)) dX0_init_63 ?_
  refine gc_put (fs' := [.null, .null, .ref (E.ad 165), .ref (E.ad 166), .ref (E.ad 167), .ref (E.ad 168), .ref (E.ad 169), .ref (E.ad 170), .ref (E.ad 171), .ref (E.ad 172), .int 0]) h hA hnm pk_X0_33_0 (Nat.le_of_ble_eq_true rfl) rfl rfl (Nat.le_of_ble_eq_true rfl) dX0_init_65 rfl ?_
  refine gc_aload_n h dX0_init_68 rfl rfl ?_
  refine gc_aload_n h dX0_init_69 rfl rfl ?_
  refine gc_put (fs' := [.ref (E.ad 2), .null, .ref (E.ad 165), .ref (E.ad 166), .ref (E.ad 167), .ref (E.ad 168), .ref (E.ad 169), .ref (E.ad 170), .ref (E.ad 171), .ref (E.ad 172), .int 0]) h hA hnm pk_X0_36_0 (Nat.le_of_ble_eq_true rfl) rfl rfl (Nat.le_of_ble_eq_true rfl) dX0_init_70 rfl ?_
  refine gc_aload_n h dX0_init_73 rfl rfl ?_
  refine gc_aload_n h dX0_init_74 rfl rfl ?_
  refine gc_get (k := 2) (fs := [.ref (E.ad 3), .ref (E.ad 10), .ref (E.ad 19), .ref (E.ad 25)]) h hA fl_X0_40_8 (Nat.le_of_ble_eq_true rfl) ((ct_n rfl).trans (by rw [sh_2]; rfl)) rfl dX0_init_75 ?_
  refine gc_put (fs' := [.ref (E.ad 2), .ref (E.ad 3), .ref (E.ad 165), .ref (E.ad 166), .ref (E.ad 167), .ref (E.ad 168), .ref (E.ad 169), .ref (E.ad 170), .ref (E.ad 171), .ref (E.ad 172), .int 0]) h hA hnm pk_X0_46_0 (Nat.le_of_ble_eq_true rfl) rfl rfl (Nat.le_of_ble_eq_true rfl) dX0_init_78 rfl ?_
  refine gc_close rfl ?_ ?_
  · rw [sh_164, hz 164 (by decide) (by decide)]
    rfl
  · exact gc_vret h hRC rfl hrt dX0_init_81 (Nat.le_of_ble_eq_true rfl)
set_option maxHeartbeats 1000000 in
theorem cc_X1 {E : EE} (hA : AdC E) (e0 e74 : va_E) (u : Sto) (hz : ∀ k, 159 ≤ k → k ≤ 177 → u k = fun _ => 0) : CtC E 4 600 yX1_init cX1_init 2 [.ref (E.ad 173), .ref (E.ad 2)] (90, [(173, .inr (1, [.null, .null, .null, .null, .null, .int 0])), (0, e0), (74, e74)], u) (94, [(0, e0), (74, e74)], u) := by
  refine ctc_of (by decide) (Nat.le_of_ble_eq_true rfl) (fun X h hRC hrt hnm => ?_)
  refine gc_aload_n h dX1_init_0 rfl rfl ?_
  refine gc_oinit h tw_2_139 (Nat.le_of_ble_eq_true rfl) (oR hRC (by decide)) dX1_init_1 ?_
  refine gc_aload_n h dX1_init_4 rfl rfl ?_
  refine gc_sipush (v := nI 168) h dX1_init_5 (by decide) ?_
  refine gc_newa (k := 174) (N := 168) h hA hRC.2 (Nat.le_of_ble_eq_true rfl) (by decide) tw_1_116 sh_174 rfl (hz 174 (by decide) (by decide)) rfl (by decide) (fitN hRC (Nat.le_of_ble_eq_true rfl) (Nat.le_of_ble_eq_true rfl)) dX1_init_8 ?_
  refine gc_put (fs' := [.null, .ref (E.ad 174), .null, .null, .null, .int 0]) h hA hnm pk_X1_9_1 (Nat.le_of_ble_eq_true rfl) rfl rfl (Nat.le_of_ble_eq_true rfl) dX1_init_10 rfl ?_
  refine gc_aload_n h dX1_init_13 rfl rfl ?_
  refine gc_sipush (v := nI 168) h dX1_init_14 (by decide) ?_
  refine gc_newa (k := 175) (N := 168) h hA hRC.2 (Nat.le_of_ble_eq_true rfl) (by decide) tw_1_116 sh_175 rfl (hz 175 (by decide) (by decide)) rfl (by decide) (fitN hRC (Nat.le_of_ble_eq_true rfl) (Nat.le_of_ble_eq_true rfl)) dX1_init_17 ?_
  refine gc_put (fs' := [.null, .ref (E.ad 174), .ref (E.ad 175), .null, .null, .int 0]) h hA hnm pk_X1_15_1 (Nat.le_of_ble_eq_true rfl) rfl rfl (Nat.le_of_ble_eq_true rfl) dX1_init_19 rfl ?_
  refine gc_aload_n h dX1_init_22 rfl rfl ?_
  refine gc_bipush (v := nI 8) h dX1_init_23 (by decide) ?_
  refine gc_newa (k := 176) (N := 8) h hA hRC.2 (Nat.le_of_ble_eq_true rfl) (by decide) tw_1_116 sh_176 rfl (hz 176 (by decide) (by decide)) rfl (by decide) (fitN hRC (Nat.le_of_ble_eq_true rfl) (Nat.le_of_ble_eq_true rfl)) dX1_init_25 ?_
  refine gc_put (fs' := [.null, .ref (E.ad 174), .ref (E.ad 175), .ref (E.ad 176), .null, .int 0]) h hA hnm pk_X1_18_1 (Nat.le_of_ble_eq_true rfl) rfl rfl (Nat.le_of_ble_eq_true rfl) dX1_init_27 rfl ?_
  refine gc_aload_n h dX1_init_30 rfl rfl ?_
  refine gc_sipush (v := nI 256) h dX1_init_31 (by decide) ?_
  refine gc_newa (k := 177) (N := 256) h hA hRC.2 (Nat.le_of_ble_eq_true rfl) (by decide) tw_1_116 sh_177 rfl (hz 177 (by decide) (by decide)) rfl (by decide) (fitN hRC (Nat.le_of_ble_eq_true rfl) (Nat.le_of_ble_eq_true rfl)) dX1_init_34 ?_
  refine gc_put (fs' := [.null, .ref (E.ad 174), .ref (E.ad 175), .ref (E.ad 176), .ref (E.ad 177), .int 0]) h hA hnm pk_X1_21_1 (Nat.le_of_ble_eq_true rfl) rfl rfl (Nat.le_of_ble_eq_true rfl) dX1_init_36 rfl ?_
  refine gc_aload_n h dX1_init_39 rfl rfl ?_
  refine gc_aload_n h dX1_init_40 rfl rfl ?_
  refine gc_put (fs' := [.ref (E.ad 2), .ref (E.ad 174), .ref (E.ad 175), .ref (E.ad 176), .ref (E.ad 177), .int 0]) h hA hnm pk_X1_24_1 (Nat.le_of_ble_eq_true rfl) rfl rfl (Nat.le_of_ble_eq_true rfl) dX1_init_41 rfl ?_
  refine gc_close rfl ?_ ?_
  · rw [sh_173, hz 173 (by decide) (by decide)]
    rfl
  · exact gc_vret h hRC rfl hrt dX1_init_44 (Nat.le_of_ble_eq_true rfl)
