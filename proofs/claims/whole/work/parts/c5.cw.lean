-- after: c4.cv
def mlF (g : Nat → Int32) (n : Nat) : Nat → Int32 := fun j => if 88 ≤ j ∧ j < 88 + 4 * n ∧ (j - 88) % 4 < 2 then -1 else g j
theorem ml_0 (g : Nat → Int32) : mlF g 0 = g := by
  funext j
  rw [mlF, if_neg (by omega)]
theorem ml_s (g : Nat → Int32) (k : Nat) : upd (upd (mlF g k) (88 + 4 * k + 0) (-1)) (88 + 4 * k + 1) (-1) = mlF g (k + 1) := by
  funext j
  by_cases h1 : j = 88 + 4 * k + 1
  · subst h1
    rw [pk_us, mlF, if_pos (by omega)]
  · rw [pk_un h1]
    by_cases h0 : j = 88 + 4 * k + 0
    · subst h0
      rw [pk_us, mlF, if_pos (by omega)]
    · rw [pk_un h0]
      unfold mlF
      by_cases q : 88 ≤ j ∧ j < 88 + 4 * k ∧ (j - 88) % 4 < 2
      · rw [if_pos q, if_pos (by omega)]
      · rw [if_neg q, if_neg (by omega)]
/-- the model's numbers as its maker leaves them -/
def md1 (u : Sto) : Sto := su (su u 179 2 (-1)) 179 11 1
def mdlF (u : Sto) : Sto := sc (md1 u) 179 (mlF (md1 u 179) 168)
theorem mdlF_c {u : Sto} {k : Nat} (h : k ≠ 179) : mdlF u k = u k := by
  unfold mdlF md1
  rw [sc_ne _ _ h, su_cell _ _ h, su_cell _ _ h]
def mpI (g : Nat → Option Nat → Value) : Nat → List (Option Nat) → List Value
  | _, [] => []
  | n, a :: l => g n a :: mpI g (n + 1) l
theorem mp_eq : ∀ (l : List (Option Nat)) (g : Nat → Option Nat → Value) (n : Nat), l.mapIdx (fun i => g (i + n)) = mpI g n l
  | [], _, _ => rfl
  | a :: l, g, n => by
    rw [List.mapIdx_cons, mpI, ← mp_eq l g (n + 1), Nat.zero_add]
    congr 1
    refine congrArg (fun f => List.mapIdx f l) ?_
    funext i
    rw [show i + 1 + n = i + (n + 1) by omega]
theorem mp_eq0 (l : List (Option Nat)) (g : Nat → Option Nat → Value) : l.mapIdx g = mpI g 0 l := mp_eq l g 0
theorem pk_X11_7_10 : PFk RX11 7 10 1 (.array .int) := ⟨(RX11, TX11, 33), rfl, by decide, uw_X11, tw_7_168, rfl, by decide +kernel, ⟨tyX11, tyX11_ok⟩, nmX11⟩
theorem pk_X11_13_10 : PFk RX11 13 10 2 (.array .int) := ⟨(RX11, TX11, 33), rfl, by decide, uw_X11, tw_7_169, rfl, by decide +kernel, ⟨tyX11, tyX11_ok⟩, nmX11⟩
theorem pk_X11_16_10 : PFk RX11 16 10 4 (.array .int) := ⟨(RX11, TX11, 33), rfl, by decide, uw_X11, tw_7_171, rfl, by decide +kernel, ⟨tyX11, tyX11_ok⟩, nmX11⟩
theorem pk_X11_19_10 : PFk RX11 19 10 5 (.array .int) := ⟨(RX11, TX11, 33), rfl, by decide, uw_X11, tw_7_172, rfl, by decide +kernel, ⟨tyX11, tyX11_ok⟩, nmX11⟩
theorem pk_X11_22_10 : PFk RX11 22 10 7 (.array .int) := ⟨(RX11, TX11, 33), rfl, by decide, uw_X11, tw_7_174, rfl, by decide +kernel, ⟨tyX11, tyX11_ok⟩, nmX11⟩
theorem pk_X11_25_10 : PFk RX11 25 10 12 (.int) := ⟨(RX11, TX11, 33), rfl, by decide, uw_X11, tw_7_179, rfl, by decide +kernel, ⟨tyX11, tyX11_ok⟩, nmX11⟩
theorem pk_X11_29_10 : PFk RX11 29 10 14 (.array .int) := ⟨(RX11, TX11, 33), rfl, by decide, uw_X11, tw_7_181, rfl, by decide +kernel, ⟨tyX11, tyX11_ok⟩, nmX11⟩
theorem pk_X11_32_10 : PFk RX11 32 10 20 (.array .int) := ⟨(RX11, TX11, 33), rfl, by decide, uw_X11, tw_7_187, rfl, by decide +kernel, ⟨tyX11, tyX11_ok⟩, nmX11⟩
theorem pk_X11_35_10 : PFk RX11 35 10 21 (.array .boolean) := ⟨(RX11, TX11, 33), rfl, by decide, uw_X11, tw_7_188, rfl, by decide +kernel, ⟨tyX11, tyX11_ok⟩, nmX11⟩
theorem pk_X11_39_10 : PFk RX11 39 10 22 (.array .int) := ⟨(RX11, TX11, 33), rfl, by decide, uw_X11, tw_7_189, rfl, by decide +kernel, ⟨tyX11, tyX11_ok⟩, nmX11⟩
theorem pk_X11_42_10 : PFk RX11 42 10 23 (.array .int) := ⟨(RX11, TX11, 33), rfl, by decide, uw_X11, tw_7_190, rfl, by decide +kernel, ⟨tyX11, tyX11_ok⟩, nmX11⟩
theorem pk_X11_45_10 : PFk RX11 45 10 24 (.array .int) := ⟨(RX11, TX11, 33), rfl, by decide, uw_X11, tw_7_191, rfl, by decide +kernel, ⟨tyX11, tyX11_ok⟩, nmX11⟩
theorem pk_X11_48_10 : PFk RX11 48 10 25 (.array .int) := ⟨(RX11, TX11, 33), rfl, by decide, uw_X11, tw_7_192, rfl, by decide +kernel, ⟨tyX11, tyX11_ok⟩, nmX11⟩
theorem pk_X11_51_10 : PFk RX11 51 10 27 (.array .int) := ⟨(RX11, TX11, 33), rfl, by decide, uw_X11, tw_7_194, rfl, by decide +kernel, ⟨tyX11, tyX11_ok⟩, nmX11⟩
theorem pk_X11_54_10 : PFk RX11 54 10 28 (.array .int) := ⟨(RX11, TX11, 33), rfl, by decide, uw_X11, tw_7_195, rfl, by decide +kernel, ⟨tyX11, tyX11_ok⟩, nmX11⟩
theorem pk_X11_57_10 : PFk RX11 57 10 29 (.array .int) := ⟨(RX11, TX11, 33), rfl, by decide, uw_X11, tw_7_196, rfl, by decide +kernel, ⟨tyX11, tyX11_ok⟩, nmX11⟩
theorem pk_X11_60_10 : PFk RX11 60 10 30 (.array .int) := ⟨(RX11, TX11, 33), rfl, by decide, uw_X11, tw_7_197, rfl, by decide +kernel, ⟨tyX11, tyX11_ok⟩, nmX11⟩
theorem pk_X11_63_10 : PFk RX11 63 10 31 (.array .int) := ⟨(RX11, TX11, 33), rfl, by decide, uw_X11, tw_7_198, rfl, by decide +kernel, ⟨tyX11, tyX11_ok⟩, nmX11⟩
theorem pk_X11_66_10 : PFk RX11 66 10 32 (.array .int) := ⟨(RX11, TX11, 33), rfl, by decide, uw_X11, tw_7_199, rfl, by decide +kernel, ⟨tyX11, tyX11_ok⟩, nmX11⟩
theorem md_pic {E : EE} : (Sum.inr (10, [.int 0, .ref (E.ad 179), .ref (E.ad 180), .int 0, .ref (E.ad 181), .ref (E.ad 182), .int 0, .ref (E.ad 183), .int 0, .int 0, .int 0, .int 0, .int (-1), .int 0, .ref (E.ad 184), .int 0, .int 0, .int 0, .int 0, .int 0, .ref (E.ad 185), .ref (E.ad 186), .ref (E.ad 187), .ref (E.ad 188), .ref (E.ad 189), .ref (E.ad 190), .int 0, .ref (E.ad 191), .ref (E.ad 192), .ref (E.ad 193), .ref (E.ad 194), .ref (E.ad 195), .ref (E.ad 196)]) : va_E) = cellE E.cy E.ad (shp 178) (fun j => if j = 12 then -1 else 0) := by
  rw [sh_178]
  show _ = (Sum.inr (10, List.mapIdx _ _) : va_E)
  rw [mp_eq0]
  rfl
set_option maxHeartbeats 2000000 in
theorem cc_X11 {E : EE} (hA : AdC E) (u : Sto) (hz : ∀ k, 179 ≤ k → k ≤ 196 → u k = fun _ => 0) (h178 : u 178 = fun j => if j = 12 then -1 else 0) : CtC E 3 18437 yX11_init cX11_init 2 [.ref (E.ad 178)] (179, [(178, .inr (10, [.int 0, .null, .null, .int 0, .null, .null, .int 0, .null, .int 0, .int 0, .int 0, .int 0, .int 0, .int 0, .null, .int 0, .int 0, .int 0, .int 0, .int 0, .null, .null, .null, .null, .null, .null, .int 0, .null, .null, .null, .null, .null, .null]))], u) (197, [], mdlF u) := by
  refine ctc_of (by decide) (Nat.le_of_ble_eq_true rfl) (fun X h hRC hrt hnm => ?_)
  refine gc_aload_n h dX11_init_0 rfl rfl ?_
  refine gc_oinit h tw_7_166 (Nat.le_of_ble_eq_true rfl) (oR hRC (by decide)) dX11_init_1 ?_
  refine gc_aload_n h dX11_init_4 rfl rfl ?_
  refine gc_sipush (v := nI 1480) h dX11_init_5 (by decide) ?_
  refine gc_newa (k := 179) (N := 1480) h hA hRC.2 (by show 179 ≤ 179; decide) (by decide) tw_1_116 sh_179 rfl (hz 179 (by decide) (by decide)) rfl (by decide) (fitN hRC (by show 180 ≤ 197 - 179 + 179; decide) (by decide)) dX11_init_8 ?_
  refine gc_put (fs' := [.int 0, .ref (E.ad 179), .null, .int 0, .null, .null, .int 0, .null, .int 0, .int 0, .int 0, .int 0, .int 0, .int 0, .null, .int 0, .int 0, .int 0, .int 0, .int 0, .null, .null, .null, .null, .null, .null, .int 0, .null, .null, .null, .null, .null, .null]) h hA hnm pk_X11_7_10 (by show ordC 178 < 180; decide) rfl rfl (Nat.le_of_ble_eq_true rfl) dX11_init_10 rfl ?_
  refine gc_aload_n h dX11_init_13 rfl rfl ?_
  refine gc_sipush (v := nI 1480) h dX11_init_14 (by decide) ?_
  refine gc_newa (k := 180) (N := 1480) h hA hRC.2 (by show 179 ≤ 180; decide) (by decide) tw_1_116 sh_180 rfl (hz 180 (by decide) (by decide)) rfl (by decide) (fitN hRC (by show 181 ≤ 197 - 179 + 179; decide) (by decide)) dX11_init_17 ?_
  refine gc_put (fs' := [.int 0, .ref (E.ad 179), .ref (E.ad 180), .int 0, .null, .null, .int 0, .null, .int 0, .int 0, .int 0, .int 0, .int 0, .int 0, .null, .int 0, .int 0, .int 0, .int 0, .int 0, .null, .null, .null, .null, .null, .null, .int 0, .null, .null, .null, .null, .null, .null]) h hA hnm pk_X11_13_10 (by show ordC 178 < 181; decide) rfl rfl (Nat.le_of_ble_eq_true rfl) dX11_init_19 rfl ?_
  refine gc_aload_n h dX11_init_22 rfl rfl ?_
  refine gc_sipush (v := nI 1080) h dX11_init_23 (by decide) ?_
  refine gc_newa (k := 181) (N := 1080) h hA hRC.2 (by show 179 ≤ 181; decide) (by decide) tw_1_116 sh_181 rfl (hz 181 (by decide) (by decide)) rfl (by decide) (fitN hRC (by show 182 ≤ 197 - 179 + 179; decide) (by decide)) dX11_init_26 ?_
  refine gc_put (fs' := [.int 0, .ref (E.ad 179), .ref (E.ad 180), .int 0, .ref (E.ad 181), .null, .int 0, .null, .int 0, .int 0, .int 0, .int 0, .int 0, .int 0, .null, .int 0, .int 0, .int 0, .int 0, .int 0, .null, .null, .null, .null, .null, .null, .int 0, .null, .null, .null, .null, .null, .null]) h hA hnm pk_X11_16_10 (by show ordC 178 < 182; decide) rfl rfl (Nat.le_of_ble_eq_true rfl) dX11_init_28 rfl ?_
  refine gc_aload_n h dX11_init_31 rfl rfl ?_
  refine gc_sipush (v := nI 12960) h dX11_init_32 (by decide) ?_
  refine gc_newa (k := 182) (N := 12960) h hA hRC.2 (by show 179 ≤ 182; decide) (by decide) tw_1_116 sh_182 rfl (hz 182 (by decide) (by decide)) rfl (by decide) (fitN hRC (by show 183 ≤ 197 - 179 + 179; decide) (by decide)) dX11_init_35 ?_
  refine gc_put (fs' := [.int 0, .ref (E.ad 179), .ref (E.ad 180), .int 0, .ref (E.ad 181), .ref (E.ad 182), .int 0, .null, .int 0, .int 0, .int 0, .int 0, .int 0, .int 0, .null, .int 0, .int 0, .int 0, .int 0, .int 0, .null, .null, .null, .null, .null, .null, .int 0, .null, .null, .null, .null, .null, .null]) h hA hnm pk_X11_19_10 (by show ordC 178 < 183; decide) rfl rfl (Nat.le_of_ble_eq_true rfl) dX11_init_37 rfl ?_
  refine gc_aload_n h dX11_init_40 rfl rfl ?_
  refine gc_sipush (v := nI 400) h dX11_init_41 (by decide) ?_
  refine gc_newa (k := 183) (N := 400) h hA hRC.2 (by show 179 ≤ 183; decide) (by decide) tw_1_116 sh_183 rfl (hz 183 (by decide) (by decide)) rfl (by decide) (fitN hRC (by show 184 ≤ 197 - 179 + 179; decide) (by decide)) dX11_init_44 ?_
  refine gc_put (fs' := [.int 0, .ref (E.ad 179), .ref (E.ad 180), .int 0, .ref (E.ad 181), .ref (E.ad 182), .int 0, .ref (E.ad 183), .int 0, .int 0, .int 0, .int 0, .int 0, .int 0, .null, .int 0, .int 0, .int 0, .int 0, .int 0, .null, .null, .null, .null, .null, .null, .int 0, .null, .null, .null, .null, .null, .null]) h hA hnm pk_X11_22_10 (by show ordC 178 < 184; decide) rfl rfl (Nat.le_of_ble_eq_true rfl) dX11_init_46 rfl ?_
  refine gc_aload_n h dX11_init_49 rfl rfl ?_
  refine gc_iconst (v := -1) h dX11_init_50 (by decide) ?_
  refine gc_put (fs' := [.int 0, .ref (E.ad 179), .ref (E.ad 180), .int 0, .ref (E.ad 181), .ref (E.ad 182), .int 0, .ref (E.ad 183), .int 0, .int 0, .int 0, .int 0, .int (-1), .int 0, .null, .int 0, .int 0, .int 0, .int 0, .int 0, .null, .null, .null, .null, .null, .null, .int 0, .null, .null, .null, .null, .null, .null]) h hA hnm pk_X11_25_10 (by show ordC 178 < 184; decide) rfl rfl (Nat.le_of_ble_eq_true rfl) dX11_init_51 rfl ?_
  refine gc_aload_n h dX11_init_54 rfl rfl ?_
  refine gc_bipush (v := nI 6) h dX11_init_55 (by decide) ?_
  refine gc_newa (k := 184) (N := 6) h hA hRC.2 (by show 179 ≤ 184; decide) (by decide) tw_1_116 sh_184 rfl (hz 184 (by decide) (by decide)) rfl (by decide) (fitN hRC (by show 185 ≤ 197 - 179 + 179; decide) (by decide)) dX11_init_57 ?_
  refine gc_put (fs' := [.int 0, .ref (E.ad 179), .ref (E.ad 180), .int 0, .ref (E.ad 181), .ref (E.ad 182), .int 0, .ref (E.ad 183), .int 0, .int 0, .int 0, .int 0, .int (-1), .int 0, .ref (E.ad 184), .int 0, .int 0, .int 0, .int 0, .int 0, .null, .null, .null, .null, .null, .null, .int 0, .null, .null, .null, .null, .null, .null]) h hA hnm pk_X11_29_10 (by show ordC 178 < 185; decide) rfl rfl (Nat.le_of_ble_eq_true rfl) dX11_init_59 rfl ?_
  refine gc_aload_n h dX11_init_62 rfl rfl ?_
  refine gc_sipush (v := nI 168) h dX11_init_63 (by decide) ?_
  refine gc_newa (k := 185) (N := 168) h hA hRC.2 (by show 179 ≤ 185; decide) (by decide) tw_1_116 sh_185 rfl (hz 185 (by decide) (by decide)) rfl (by decide) (fitN hRC (by show 186 ≤ 197 - 179 + 179; decide) (by decide)) dX11_init_66 ?_
  refine gc_put (fs' := [.int 0, .ref (E.ad 179), .ref (E.ad 180), .int 0, .ref (E.ad 181), .ref (E.ad 182), .int 0, .ref (E.ad 183), .int 0, .int 0, .int 0, .int 0, .int (-1), .int 0, .ref (E.ad 184), .int 0, .int 0, .int 0, .int 0, .int 0, .ref (E.ad 185), .null, .null, .null, .null, .null, .int 0, .null, .null, .null, .null, .null, .null]) h hA hnm pk_X11_32_10 (by show ordC 178 < 186; decide) rfl rfl (Nat.le_of_ble_eq_true rfl) dX11_init_68 rfl ?_
  refine gc_aload_n h dX11_init_71 rfl rfl ?_
  refine gc_sipush (v := nI 168) h dX11_init_72 (by decide) ?_
  refine gc_newz (k := 186) (N := 168) h hA hRC.2 (by show 179 ≤ 186; decide) (by decide) tw_8_27 sh_186 rfl (hz 186 (by decide) (by decide)) rfl (by decide) (fitN hRC (by show 187 ≤ 197 - 179 + 179; decide) (by decide)) dX11_init_75 ?_
  refine gc_put (fs' := [.int 0, .ref (E.ad 179), .ref (E.ad 180), .int 0, .ref (E.ad 181), .ref (E.ad 182), .int 0, .ref (E.ad 183), .int 0, .int 0, .int 0, .int 0, .int (-1), .int 0, .ref (E.ad 184), .int 0, .int 0, .int 0, .int 0, .int 0, .ref (E.ad 185), .ref (E.ad 186), .null, .null, .null, .null, .int 0, .null, .null, .null, .null, .null, .null]) h hA hnm pk_X11_35_10 (by show ordC 178 < 187; decide) rfl rfl (Nat.le_of_ble_eq_true rfl) dX11_init_77 rfl ?_
  refine gc_aload_n h dX11_init_80 rfl rfl ?_
  refine gc_sipush (v := nI 168) h dX11_init_81 (by decide) ?_
  refine gc_newa (k := 187) (N := 168) h hA hRC.2 (by show 179 ≤ 187; decide) (by decide) tw_1_116 sh_187 rfl (hz 187 (by decide) (by decide)) rfl (by decide) (fitN hRC (by show 188 ≤ 197 - 179 + 179; decide) (by decide)) dX11_init_84 ?_
  refine gc_put (fs' := [.int 0, .ref (E.ad 179), .ref (E.ad 180), .int 0, .ref (E.ad 181), .ref (E.ad 182), .int 0, .ref (E.ad 183), .int 0, .int 0, .int 0, .int 0, .int (-1), .int 0, .ref (E.ad 184), .int 0, .int 0, .int 0, .int 0, .int 0, .ref (E.ad 185), .ref (E.ad 186), .ref (E.ad 187), .null, .null, .null, .int 0, .null, .null, .null, .null, .null, .null]) h hA hnm pk_X11_39_10 (by show ordC 178 < 188; decide) rfl rfl (Nat.le_of_ble_eq_true rfl) dX11_init_86 rfl ?_
  refine gc_aload_n h dX11_init_89 rfl rfl ?_
  refine gc_sipush (v := nI 256) h dX11_init_90 (by decide) ?_
  refine gc_newa (k := 188) (N := 256) h hA hRC.2 (by show 179 ≤ 188; decide) (by decide) tw_1_116 sh_188 rfl (hz 188 (by decide) (by decide)) rfl (by decide) (fitN hRC (by show 189 ≤ 197 - 179 + 179; decide) (by decide)) dX11_init_93 ?_
  refine gc_put (fs' := [.int 0, .ref (E.ad 179), .ref (E.ad 180), .int 0, .ref (E.ad 181), .ref (E.ad 182), .int 0, .ref (E.ad 183), .int 0, .int 0, .int 0, .int 0, .int (-1), .int 0, .ref (E.ad 184), .int 0, .int 0, .int 0, .int 0, .int 0, .ref (E.ad 185), .ref (E.ad 186), .ref (E.ad 187), .ref (E.ad 188), .null, .null, .int 0, .null, .null, .null, .null, .null, .null]) h hA hnm pk_X11_42_10 (by show ordC 178 < 189; decide) rfl rfl (Nat.le_of_ble_eq_true rfl) dX11_init_95 rfl ?_
  refine gc_aload_n h dX11_init_98 rfl rfl ?_
  refine gc_bipush (v := nI 8) h dX11_init_99 (by decide) ?_
  refine gc_newa (k := 189) (N := 8) h hA hRC.2 (by show 179 ≤ 189; decide) (by decide) tw_1_116 sh_189 rfl (hz 189 (by decide) (by decide)) rfl (by decide) (fitN hRC (by show 190 ≤ 197 - 179 + 179; decide) (by decide)) dX11_init_101 ?_
  refine gc_put (fs' := [.int 0, .ref (E.ad 179), .ref (E.ad 180), .int 0, .ref (E.ad 181), .ref (E.ad 182), .int 0, .ref (E.ad 183), .int 0, .int 0, .int 0, .int 0, .int (-1), .int 0, .ref (E.ad 184), .int 0, .int 0, .int 0, .int 0, .int 0, .ref (E.ad 185), .ref (E.ad 186), .ref (E.ad 187), .ref (E.ad 188), .ref (E.ad 189), .null, .int 0, .null, .null, .null, .null, .null, .null]) h hA hnm pk_X11_45_10 (by show ordC 178 < 190; decide) rfl rfl (Nat.le_of_ble_eq_true rfl) dX11_init_103 rfl ?_
  refine gc_aload_n h dX11_init_106 rfl rfl ?_
  refine gc_sipush (v := nI 168) h dX11_init_107 (by decide) ?_
  refine gc_newa (k := 190) (N := 168) h hA hRC.2 (by show 179 ≤ 190; decide) (by decide) tw_1_116 sh_190 rfl (hz 190 (by decide) (by decide)) rfl (by decide) (fitN hRC (by show 191 ≤ 197 - 179 + 179; decide) (by decide)) dX11_init_110 ?_
  refine gc_put (fs' := [.int 0, .ref (E.ad 179), .ref (E.ad 180), .int 0, .ref (E.ad 181), .ref (E.ad 182), .int 0, .ref (E.ad 183), .int 0, .int 0, .int 0, .int 0, .int (-1), .int 0, .ref (E.ad 184), .int 0, .int 0, .int 0, .int 0, .int 0, .ref (E.ad 185), .ref (E.ad 186), .ref (E.ad 187), .ref (E.ad 188), .ref (E.ad 189), .ref (E.ad 190), .int 0, .null, .null, .null, .null, .null, .null]) h hA hnm pk_X11_48_10 (by show ordC 178 < 191; decide) rfl rfl (Nat.le_of_ble_eq_true rfl) dX11_init_112 rfl ?_
  refine gc_aload_n h dX11_init_115 rfl rfl ?_
  refine gc_bipush (v := nI 10) h dX11_init_116 (by decide) ?_
  refine gc_newa (k := 191) (N := 10) h hA hRC.2 (by show 179 ≤ 191; decide) (by decide) tw_1_116 sh_191 rfl (hz 191 (by decide) (by decide)) rfl (by decide) (fitN hRC (by show 192 ≤ 197 - 179 + 179; decide) (by decide)) dX11_init_118 ?_
  refine gc_put (fs' := [.int 0, .ref (E.ad 179), .ref (E.ad 180), .int 0, .ref (E.ad 181), .ref (E.ad 182), .int 0, .ref (E.ad 183), .int 0, .int 0, .int 0, .int 0, .int (-1), .int 0, .ref (E.ad 184), .int 0, .int 0, .int 0, .int 0, .int 0, .ref (E.ad 185), .ref (E.ad 186), .ref (E.ad 187), .ref (E.ad 188), .ref (E.ad 189), .ref (E.ad 190), .int 0, .ref (E.ad 191), .null, .null, .null, .null, .null]) h hA hnm pk_X11_51_10 (by show ordC 178 < 192; decide) rfl rfl (Nat.le_of_ble_eq_true rfl) dX11_init_120 rfl ?_
  refine gc_aload_n h dX11_init_123 rfl rfl ?_
  refine gc_bipush (v := nI 10) h dX11_init_124 (by decide) ?_
  refine gc_newa (k := 192) (N := 10) h hA hRC.2 (by show 179 ≤ 192; decide) (by decide) tw_1_116 sh_192 rfl (hz 192 (by decide) (by decide)) rfl (by decide) (fitN hRC (by show 193 ≤ 197 - 179 + 179; decide) (by decide)) dX11_init_126 ?_
  refine gc_put (fs' := [.int 0, .ref (E.ad 179), .ref (E.ad 180), .int 0, .ref (E.ad 181), .ref (E.ad 182), .int 0, .ref (E.ad 183), .int 0, .int 0, .int 0, .int 0, .int (-1), .int 0, .ref (E.ad 184), .int 0, .int 0, .int 0, .int 0, .int 0, .ref (E.ad 185), .ref (E.ad 186), .ref (E.ad 187), .ref (E.ad 188), .ref (E.ad 189), .ref (E.ad 190), .int 0, .ref (E.ad 191), .ref (E.ad 192), .null, .null, .null, .null]) h hA hnm pk_X11_54_10 (by show ordC 178 < 193; decide) rfl rfl (Nat.le_of_ble_eq_true rfl) dX11_init_128 rfl ?_
  refine gc_aload_n h dX11_init_131 rfl rfl ?_
  refine gc_bipush (v := nI 60) h dX11_init_132 (by decide) ?_
  refine gc_newa (k := 193) (N := 60) h hA hRC.2 (by show 179 ≤ 193; decide) (by decide) tw_1_116 sh_193 rfl (hz 193 (by decide) (by decide)) rfl (by decide) (fitN hRC (by show 194 ≤ 197 - 179 + 179; decide) (by decide)) dX11_init_134 ?_
  refine gc_put (fs' := [.int 0, .ref (E.ad 179), .ref (E.ad 180), .int 0, .ref (E.ad 181), .ref (E.ad 182), .int 0, .ref (E.ad 183), .int 0, .int 0, .int 0, .int 0, .int (-1), .int 0, .ref (E.ad 184), .int 0, .int 0, .int 0, .int 0, .int 0, .ref (E.ad 185), .ref (E.ad 186), .ref (E.ad 187), .ref (E.ad 188), .ref (E.ad 189), .ref (E.ad 190), .int 0, .ref (E.ad 191), .ref (E.ad 192), .ref (E.ad 193), .null, .null, .null]) h hA hnm pk_X11_57_10 (by show ordC 178 < 194; decide) rfl rfl (Nat.le_of_ble_eq_true rfl) dX11_init_136 rfl ?_
  refine gc_aload_n h dX11_init_139 rfl rfl ?_
  refine gc_bipush (v := nI 6) h dX11_init_140 (by decide) ?_
  refine gc_newa (k := 194) (N := 6) h hA hRC.2 (by show 179 ≤ 194; decide) (by decide) tw_1_116 sh_194 rfl (hz 194 (by decide) (by decide)) rfl (by decide) (fitN hRC (by show 195 ≤ 197 - 179 + 179; decide) (by decide)) dX11_init_142 ?_
  refine gc_put (fs' := [.int 0, .ref (E.ad 179), .ref (E.ad 180), .int 0, .ref (E.ad 181), .ref (E.ad 182), .int 0, .ref (E.ad 183), .int 0, .int 0, .int 0, .int 0, .int (-1), .int 0, .ref (E.ad 184), .int 0, .int 0, .int 0, .int 0, .int 0, .ref (E.ad 185), .ref (E.ad 186), .ref (E.ad 187), .ref (E.ad 188), .ref (E.ad 189), .ref (E.ad 190), .int 0, .ref (E.ad 191), .ref (E.ad 192), .ref (E.ad 193), .ref (E.ad 194), .null, .null]) h hA hnm pk_X11_60_10 (by show ordC 178 < 195; decide) rfl rfl (Nat.le_of_ble_eq_true rfl) dX11_init_144 rfl ?_
  refine gc_aload_n h dX11_init_147 rfl rfl ?_
  refine gc_bipush (v := nI 6) h dX11_init_148 (by decide) ?_
  refine gc_newa (k := 195) (N := 6) h hA hRC.2 (by show 179 ≤ 195; decide) (by decide) tw_1_116 sh_195 rfl (hz 195 (by decide) (by decide)) rfl (by decide) (fitN hRC (by show 196 ≤ 197 - 179 + 179; decide) (by decide)) dX11_init_150 ?_
  refine gc_put (fs' := [.int 0, .ref (E.ad 179), .ref (E.ad 180), .int 0, .ref (E.ad 181), .ref (E.ad 182), .int 0, .ref (E.ad 183), .int 0, .int 0, .int 0, .int 0, .int (-1), .int 0, .ref (E.ad 184), .int 0, .int 0, .int 0, .int 0, .int 0, .ref (E.ad 185), .ref (E.ad 186), .ref (E.ad 187), .ref (E.ad 188), .ref (E.ad 189), .ref (E.ad 190), .int 0, .ref (E.ad 191), .ref (E.ad 192), .ref (E.ad 193), .ref (E.ad 194), .ref (E.ad 195), .null]) h hA hnm pk_X11_63_10 (by show ordC 178 < 196; decide) rfl rfl (Nat.le_of_ble_eq_true rfl) dX11_init_152 rfl ?_
  refine gc_aload_n h dX11_init_155 rfl rfl ?_
  refine gc_iconst (v := nI 3) h dX11_init_156 (by decide) ?_
  refine gc_newa (k := 196) (N := 3) h hA hRC.2 (by show 179 ≤ 196; decide) (by decide) tw_1_116 sh_196 rfl (hz 196 (by decide) (by decide)) rfl (by decide) (fitN hRC (by show 197 ≤ 197 - 179 + 179; decide) (by decide)) dX11_init_157 ?_
  refine gc_put (fs' := [.int 0, .ref (E.ad 179), .ref (E.ad 180), .int 0, .ref (E.ad 181), .ref (E.ad 182), .int 0, .ref (E.ad 183), .int 0, .int 0, .int 0, .int 0, .int (-1), .int 0, .ref (E.ad 184), .int 0, .int 0, .int 0, .int 0, .int 0, .ref (E.ad 185), .ref (E.ad 186), .ref (E.ad 187), .ref (E.ad 188), .ref (E.ad 189), .ref (E.ad 190), .int 0, .ref (E.ad 191), .ref (E.ad 192), .ref (E.ad 193), .ref (E.ad 194), .ref (E.ad 195), .ref (E.ad 196)]) h hA hnm pk_X11_66_10 (by show ordC 178 < 197; decide) rfl rfl (Nat.le_of_ble_eq_true rfl) dX11_init_159 rfl ?_
  refine gc_aload_n h dX11_init_162 rfl rfl ?_
  refine gc_get (k := 178) (fs := [.int 0, .ref (E.ad 179), .ref (E.ad 180), .int 0, .ref (E.ad 181), .ref (E.ad 182), .int 0, .ref (E.ad 183), .int 0, .int 0, .int 0, .int 0, .int (-1), .int 0, .ref (E.ad 184), .int 0, .int 0, .int 0, .int 0, .int 0, .ref (E.ad 185), .ref (E.ad 186), .ref (E.ad 187), .ref (E.ad 188), .ref (E.ad 189), .ref (E.ad 190), .int 0, .ref (E.ad 191), .ref (E.ad 192), .ref (E.ad 193), .ref (E.ad 194), .ref (E.ad 195), .ref (E.ad 196)]) h hA fl_X11_7_10 (by show ordC 178 < 197; decide) ct_h rfl dX11_init_163 ?_
  refine gc_iconst (v := nI 2) h dX11_init_166 (by decide) ?_
  refine gc_iconst (v := -1) h dX11_init_167 (by decide) ?_
  refine gc_iast h hA 179 2 1480 sh_179 rfl (by show ordC 179 < 197; decide) (by decide) rfl (by decide) dX11_init_168 ?_
  refine gc_aload_n h dX11_init_169 rfl rfl ?_
  refine gc_get (k := 178) (fs := [.int 0, .ref (E.ad 179), .ref (E.ad 180), .int 0, .ref (E.ad 181), .ref (E.ad 182), .int 0, .ref (E.ad 183), .int 0, .int 0, .int 0, .int 0, .int (-1), .int 0, .ref (E.ad 184), .int 0, .int 0, .int 0, .int 0, .int 0, .ref (E.ad 185), .ref (E.ad 186), .ref (E.ad 187), .ref (E.ad 188), .ref (E.ad 189), .ref (E.ad 190), .int 0, .ref (E.ad 191), .ref (E.ad 192), .ref (E.ad 193), .ref (E.ad 194), .ref (E.ad 195), .ref (E.ad 196)]) h hA fl_X11_7_10 (by show ordC 178 < 197; decide) ct_h rfl dX11_init_170 ?_
  refine gc_bipush (v := nI 11) h dX11_init_173 (by decide) ?_
  refine gc_iconst (v := 1) h dX11_init_175 (by decide) ?_
  refine gc_iast h hA 179 11 1480 sh_179 rfl (by show ordC 179 < 197; decide) (by decide) rfl (by decide) dX11_init_176 ?_
  refine gc_iconst (v := nI 0) h dX11_init_177 (by decide) ?_
  refine gc_istore_n (ls' := [(0, .ref (E.ad 178)), (1, .int (nI 0))]) h dX11_init_178 rfl (by decide) rfl rfl ?_
  have LP : ∀ j k : Nat, 168 < k + j → k ≤ 168 → GC E X (QMC E X (197, [], mdlF u) (197 - 179) 18437) 2 18437 179 [(0, .ref (E.ad 178)), (1, .int (nI k))] [] (197, [(178, .inr (10, [.int 0, .ref (E.ad 179), .ref (E.ad 180), .int 0, .ref (E.ad 181), .ref (E.ad 182), .int 0, .ref (E.ad 183), .int 0, .int 0, .int 0, .int 0, .int (-1), .int 0, .ref (E.ad 184), .int 0, .int 0, .int 0, .int 0, .int 0, .ref (E.ad 185), .ref (E.ad 186), .ref (E.ad 187), .ref (E.ad 188), .ref (E.ad 189), .ref (E.ad 190), .int 0, .ref (E.ad 191), .ref (E.ad 192), .ref (E.ad 193), .ref (E.ad 194), .ref (E.ad 195), .ref (E.ad 196)]))], sc (md1 u) 179 (mlF (md1 u 179) k)) := by
    intro j
    induction j with
    | zero => intro k h1 h2; omega
    | succ j ih =>
      intro k h1 h2
      refine gc_iload_n h dX11_init_179 rfl rfl ?_
      refine gc_sipush (v := nI 168) h dX11_init_180 (by decide) ?_
      refine gc_icmp_ge (tgt := 220) h dX11_init_183 (by decide) (fun c7 => ?_) (fun c7 => ?_)
      · have n7 := le_n (by omega) (by omega) (show nI 168 ≤ nI k from c7)
        obtain rfl : k = 168 := by omega
        refine gc_close rfl ?_ ?_
        · show _ = cellE E.cy E.ad (shp 178) (mdlF u 178)
          rw [mdlF_c (by decide), h178]
          exact md_pic
        · exact gc_vret h hRC rfl hrt dX11_init_220 (Nat.le_refl _)
      · have n7 := nle_n (by omega) (by omega) (show ¬ nI 168 ≤ nI k from c7)
        refine gc_aload_n h dX11_init_186 rfl rfl ?_
        refine gc_get (k := 178) (fs := [.int 0, .ref (E.ad 179), .ref (E.ad 180), .int 0, .ref (E.ad 181), .ref (E.ad 182), .int 0, .ref (E.ad 183), .int 0, .int 0, .int 0, .int 0, .int (-1), .int 0, .ref (E.ad 184), .int 0, .int 0, .int 0, .int 0, .int 0, .ref (E.ad 185), .ref (E.ad 186), .ref (E.ad 187), .ref (E.ad 188), .ref (E.ad 189), .ref (E.ad 190), .int 0, .ref (E.ad 191), .ref (E.ad 192), .ref (E.ad 193), .ref (E.ad 194), .ref (E.ad 195), .ref (E.ad 196)]) h hA fl_X11_7_10 (by show ordC 178 < 197; decide) ct_h rfl dX11_init_187 ?_
        refine gc_bipush (v := nI 88) h dX11_init_190 (by decide) ?_
        refine gc_iconst (v := nI 4) h dX11_init_192 (by decide) ?_
        refine gc_iload_n h dX11_init_193 rfl rfl ?_
        refine gc_imul h dX11_init_194 ?_
        refine gc_top (show nI 4 * nI k = nI (4 * k) from nI_mul) ?_
        refine gc_iadd h dX11_init_195 ?_
        refine gc_top (nI_add 88 (4 * k)) ?_
        refine gc_iconst (v := nI 0) h dX11_init_196 (by decide) ?_
        refine gc_iadd h dX11_init_197 ?_
        refine gc_top (nI_add (88 + 4 * k) 0) ?_
        refine gc_iconst (v := -1) h dX11_init_198 (by decide) ?_
        refine gc_iast h hA 179 (88 + 4 * k + 0) 1480 sh_179 rfl (by show ordC 179 < 197; decide) (by decide) rfl (by omega) dX11_init_199 ?_
        refine gc_aload_n h dX11_init_200 rfl rfl ?_
        refine gc_get (k := 178) (fs := [.int 0, .ref (E.ad 179), .ref (E.ad 180), .int 0, .ref (E.ad 181), .ref (E.ad 182), .int 0, .ref (E.ad 183), .int 0, .int 0, .int 0, .int 0, .int (-1), .int 0, .ref (E.ad 184), .int 0, .int 0, .int 0, .int 0, .int 0, .ref (E.ad 185), .ref (E.ad 186), .ref (E.ad 187), .ref (E.ad 188), .ref (E.ad 189), .ref (E.ad 190), .int 0, .ref (E.ad 191), .ref (E.ad 192), .ref (E.ad 193), .ref (E.ad 194), .ref (E.ad 195), .ref (E.ad 196)]) h hA fl_X11_7_10 (by show ordC 178 < 197; decide) ct_h rfl dX11_init_201 ?_
        refine gc_bipush (v := nI 88) h dX11_init_204 (by decide) ?_
        refine gc_iconst (v := nI 4) h dX11_init_206 (by decide) ?_
        refine gc_iload_n h dX11_init_207 rfl rfl ?_
        refine gc_imul h dX11_init_208 ?_
        refine gc_top (show nI 4 * nI k = nI (4 * k) from nI_mul) ?_
        refine gc_iadd h dX11_init_209 ?_
        refine gc_top (nI_add 88 (4 * k)) ?_
        refine gc_iconst (v := nI 1) h dX11_init_210 (by decide) ?_
        refine gc_iadd h dX11_init_211 ?_
        refine gc_top (nI_add (88 + 4 * k) 1) ?_
        refine gc_iconst (v := -1) h dX11_init_212 (by decide) ?_
        refine gc_iast h hA 179 (88 + 4 * k + 1) 1480 sh_179 rfl (by show ordC 179 < 197; decide) (by decide) rfl (by omega) dX11_init_213 ?_
        refine gc_iinc (v := nI (k + 1)) (ls' := [(0, .ref (E.ad 178)), (1, .int (nI (k + 1)))]) h dX11_init_214 rfl (nI_1 k) (by decide) rfl rfl ?_
        refine gc_goto (tgt := 179) h dX11_init_217 (by decide) ?_
        exact gc_w (by rw [su_sc, su_sc, ml_s]) (ih (k + 1) (by omega) (by omega))
  exact gc_w (by rw [ml_0, sc_self]; rfl) (LP 169 0 (by decide) (by decide))
