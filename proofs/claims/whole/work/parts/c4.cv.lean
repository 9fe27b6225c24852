-- after: c3.cu
theorem ao_in : Cond.arrayOver (.object "HourLets$Town") ∈ lw_tbl := in_t1 (List.mem_of_getElem? (i := 239) rfl)
/-- the contract where rows of towns are made -/
def CtA (E : EE) (L ms : Nat) (y : MethodName) (cc : ByteArray) (nL : Nat) (as : List Value) (w w' : CW) : Prop :=
  Met E.l y [.code y cc nL none] (rmC L (w'.1 - w.1) ms) (va_Pc as (fun U => WC E w U ∧ va_AO "HourLets$Town" U)) (QcC E w') (w'.1 - w.1) ms (A0 E)
theorem cta_of {E : EE} {L ms : Nat} {y : MethodName} {cc : ByteArray} {nL : Nat} {as : List Value} {w w' : CW} (hy : plainName y.cls = true) (hn : (lg_sl as).length ≤ nL)
    (body : ∀ X : XX, CX E X y.cls cc nL → RC E X L (w'.1 - w.1) ms w.1 → X.meth.sig.returnType = none → X.meth.name = y.name → va_AO "HourLets$Town" X.s → GC E X (QMC E X w' (w'.1 - w.1) ms) nL 0 0 (lv_args 0 as) [] w) : CtA E L ms y cc nL as w w' := by
  refine Met.ofW (cc := cc) (maxL := nL) (ret := none) hy rfl ?_
  intro p e s m args below meth c s₁ B hml hv
  obtain ⟨rfl, ⟨hE, hP, hz⟩, hao⟩ := hv
  have hl := lv_entry as (n := nL) hn
  rw [lg_entry_eq]
  have hnm := name_of_methodNamed B.named B.method
  have K := body (p, e, (rmC L (w'.1 - w.1) ms), s, m, as.toArray, below, meth, c) ⟨B.exec, B.bytes, hml, findClass_of_methodNamed B.named, B.notSynchronized, hE⟩ ⟨rfl, hz⟩ B.returns hnm.1 hao s.heap [] _ hP va_S.rf hl
  rw [show E.sz + w.1 - s.heap.size = 0 by omega] at K
  exact K
theorem wa_blind {E : EE} {as : List Value} {w : CW} : FrameBlind (va_Pc as (fun U => WC E w U ∧ va_AO "HourLets$Town" U)) := by
  intro a U g mk q
  obtain ⟨q0, ⟨q1, q2⟩, q3⟩ := q
  exact ⟨q0, ⟨q1.moved (State.WarmedH.refl U) (Nat.le_refl _) (fun _ _ _ => rfl), q2⟩, va_AO.moved (State.WarmedH.refl U).alike q3⟩
set_option maxHeartbeats 1000000 in
theorem gc_IA {E : EE} {X : XX} {Q : State → Prop} {own : String} {cc : ByteArray} {nL n pc : Nat} {ls : List (Nat × Value)} {st : List Value} {w : CW} (h : CX E X own cc nL) (hao : va_AO "HourLets$Town" X.s) {L ms m0 idx na nc b : Nat} {y : MethodName} {cb : ByteArray} {As rest : List Value} {w' : CW} (hz : X.s.heap.size = E.sz + m0) (hm : m0 ≤ w.1) (hww : w.1 ≤ w'.1) (hlk : LkI own idx y na cb nc) (hc : CtA E L ms y cb nc (.ref b :: As) w w') (hf : FitC E X L nc n ms m0 w'.1) (hst : st = As.reverse ++ .ref b :: rest) (hna : As.length = na) (hro : (rest.map fun v => v.category).sum ≤ 8) (hd : decode cc pc = .ok (.invokespecial idx, 3))
    (kk : GC E X Q nL (n + ms) (pc + 3) ls rest w') : GC E X Q nL n pc ls st w := by
  subst hst
  obtain ⟨w1, w2, w3, w4, w5, w6, w7⟩ := hlk
  obtain ⟨f1, f2, f3, f4⟩ := hf
  have hlen : ∀ sig, parseMethodDescriptor y.desc = some sig → na = sig.parameters.length := fun sig hsig => by rw [hsig] at w5; exact (Option.some.inj w5).symm
  have hws : ∀ w ∈ [Cond.code y cb nc none], ∀ (a' : Array Value) (U : State), X.s.WarmedH U.vm → w.before a' U = true := fun w hw a' U hW => by
    rcases List.mem_cons.mp hw with rfl | hw
    · exact stable_of (List.mem_filter.mp w1).2 hW (env_w h w1 (a := #[]))
    · cases hw
  refine gc_run (L := L) (a := (Value.ref b :: As).toArray) hz hm hww (fun H locs ar hP hsz hS hl => ?_) kk
  have hp : PreS X.s H (va_Pc (.ref b :: As) (fun U => WC E w U ∧ va_AO "HourLets$Town" U)) (.ref b :: As) := ⟨wa_blind, fun U hU hW => ⟨rfl, wc_end h.2.2.2.2.2 hP hsz hS hU hW, va_AO.moved hW.alike hao⟩⟩
  have hcells : E.sz + w.1 - X.s.heap.size + (w'.1 - w.1) ≤ X.R.cells := by omega
  rcases w7 with w7 | ⟨host, w7⟩
  · exact va_runI (Ts := TW) ⟨h.1, h.2.1, h.2.2.1, h.2.2.2.1, env_ws h⟩ hc ⟨⟨rfl, rfl, f1, f2, hws, List.mem_cons_self, env_w h w1, env_w h w3, w4, hlen, env_w h w7⟩, w6, env_w h w2⟩ hp rfl hna hl.1 rfl (lv_room hro) hd ⟨hcells, f4⟩
  · exact va_runIN (Ts := TW) (host := host) ⟨h.1, h.2.1, h.2.2.1, h.2.2.2.1, env_ws h⟩ hc ⟨⟨⟨rfl, rfl, f1, f2, hws, List.mem_cons_self⟩, env_w h w1, env_w h w3, w4, hlen, env_w h w7⟩, w6, env_w h w2⟩ hp rfl hna hl.1 rfl (lv_room hro) hd ⟨hcells, f4⟩
section GAA
variable {E : EE} {X : XX} {Q : State → Prop} {own : String} {cc : ByteArray} {nL n pc : Nat} {ls : List (Nat × Value)} {st : List Value}
theorem gc_aast (h : CX E X own cc nL) (hA : AdC E) {m k kt i N : Nat} {O : OpC} {u : Sto} {f f' : Nat → Option Nat} {x : Int32} {vs : List Value} (hk : ordC k < m) (hkt : ordC kt < m) (ht : ctC E ((k, .inl (E.cy 3, N, .inr (.inr (.inr (.inr f))))) :: O) u kt = .inr (6, vs)) (hx : x = nI i) (hi : i < N) (hN : N < 2 ^ 31) (hf : va_up f i (some (E.ad kt)) = f') (hd : decode cc pc = .ok (.aastore, 1))
    (kk : GC E X Q nL n (pc + 1) ls st (m, (k, .inl (E.cy 3, N, .inr (.inr (.inr (.inr f'))))) :: O, u)) : GC E X Q nL n pc ls (.ref (E.ad kt) :: .int x :: .ref (E.ad k) :: st) (m, (k, .inl (E.cy 3, N, .inr (.inr (.inr (.inr f))))) :: O, u) := fun H locs ar hP hS hl => by
  subst hx; subst hf
  have e : (nI i).toNatClampNeg = i := nI_clamp (Nat.lt_trans hi hN)
  have hw : (cwC E (m, (k, .inl (E.cy 3, N, .inr (.inr (.inr (.inr f))))) :: O, u))[ordC k]? = some (E.ad k, .inl (E.cy 3, N, .inr (.inr (.inr (.inr f))))) := by rw [cw_k hA hk, ct_h]
  have hv : (cwC E (m, (k, .inl (E.cy 3, N, .inr (.inr (.inr (.inr f))))) :: O, u))[ordC kt]? = some (E.ad kt, .inr (6, vs)) := by rw [cw_k hA hkt, ht]
  refine va_astq (D := E.D) (cl := vwCl) (tys := tysE E) (r := (RX7, TX7, 12)) h.1 h.2.1 h.2.2.2.2.2.2.1 hP (cwD _) hS (ordC k) 3 (ordC kt) 6 hw rfl hv rfl (vp_in_nI hi hN) hd (fun H1 locs1 hP1 hD1 hS1 => ?_)
  rw [e, cw_set hA (O' := (k, .inl (E.cy 3, N, .inr (.inr (.inr (.inr (va_up f i (some (E.ad kt)))))))) :: O) (u' := u) hk ct_h (fun i hi => by rw [ct_t hi, ct_t hi])] at hP1
  exact kk H1 locs1 ar hP1 hS1 hl
end GAA
def pastL : List Nat := [75, 82, 89, 96, 103, 110, 117, 124, 131, 138, 145, 152]
/-- the row of past towns with i of them -/
def pfC (E : EE) (i : Nat) : Nat → Option Nat := fun j => if j < i then (pastL[j]?).map E.ad else none
theorem pf_0 {E : EE} : (fun _ => none) = pfC E 0 := by
  funext j
  rw [pfC, if_neg (by omega)]
theorem pf_s {E : EE} {i k : Nat} (h : pastL[i]? = some k) : va_up (pfC E i) i (some (E.ad k)) = pfC E (i + 1) := by
  funext j
  unfold va_up pfC
  by_cases e : j = i
  · subst e
    rw [if_pos rfl, if_pos (by omega), h]
    rfl
  · rw [if_neg e]
    by_cases q : j < i
    · rw [if_pos q, if_pos (by omega)]
    · rw [if_neg q, if_neg (by omega)]
theorem pf_n {E : EE} : pfC E 12 = fun j => (pastL[j]?).map E.ad := by
  funext j
  unfold pfC
  by_cases q : j < 12
  · rw [if_pos q]
  · rw [if_neg q, List.getElem?_eq_none (by show 12 ≤ j; omega)]
    rfl
/-- the store with these towns made -/
def tws : List Nat → Sto
  | [] => uZ
  | t :: l => twF (tws l) t
theorem tws_c {k : Nat} : ∀ {l : List Nat}, (∀ t ∈ l, t + 2 < k ∨ k ≤ t) → tws l k = uZ k
  | [], _ => rfl
  | t :: l, h => by
    have h1 := h t List.mem_cons_self
    rw [tws, twF_c (by omega) (by omega)]
    exact tws_c (fun q hq => h q (List.mem_cons_of_mem _ hq))
theorem uZ_hi {k : Nat} (h1 : 159 ≤ k) (h2 : k ≤ 177) : uZ k = fun _ => 0 := uZ_z (by
  simp only [townL, List.mem_cons, List.not_mem_nil, or_false]
  omega) (by omega)
theorem town_ct {E : EE} {t : Nat} {l : List Nat} (ht : t ∈ townL) (hl : ∀ q ∈ l, q + 2 < t ∨ t ≤ q) : cellE E.cy E.ad (shp t) (tws l t) = .inr (6, [.ref (E.ad (t + 1)), .ref (E.ad (t + 2)), .ref (E.ad (t + 3)), .ref (E.ad (t + 4)), .ref (E.ad (t + 5)), .ref (E.ad (t + 6)), .int 0, .int 0, .int 0, .int 0, .int 0, .int 1]) := by
  rw [tws_c hl, uZ_t ht, (sh_town t ht).1]
  rfl
theorem past_t : ∀ i, i < 12 → 75 + 7 * i ∈ townL ∧ pastL[i]? = some (75 + 7 * i) := by decide +kernel
theorem pk_X10_9_9 : PFk RX10 9 9 0 (.array .int) := ⟨(RX10, TX10, 15), rfl, by decide, uw_X10, tw_2_160, rfl, by decide +kernel, ⟨tyX10, tyX10_ok⟩, nmX10⟩
theorem pk_X10_13_9 : PFk RX10 13 9 2 (.int) := ⟨(RX10, TX10, 15), rfl, by decide, uw_X10, tw_2_162, rfl, by decide +kernel, ⟨tyX10, tyX10_ok⟩, nmX10⟩
theorem nk_X10_17 : NLk RX10 17 8 4 [.null, .null, .null, .null] := ⟨(RX9, TX9, 4), rfl, rfl, uw_X9, tw_1_37, tw_1_38, tw_1_2, tyX9, tyX9_ok, by decide +kernel⟩
theorem ik_X10_19 : LkI RX10 19 yX9_init 0 cX9_init 1 := ⟨tw_1_41, tw_1_40, tw_1_2, ⟨by decide, by decide⟩, by decide +kernel, rfl, Or.inr ⟨_, tw_1_39⟩⟩
theorem pk_X10_20_9 : PFk RX10 20 9 3 (.object "HourLets$World") := ⟨(RX10, TX10, 15), rfl, by decide, uw_X10, tw_2_163, rfl, by decide +kernel, ⟨tyX10, tyX10_ok⟩, nmX10⟩
theorem pk_X10_24_9 : PFk RX10 24 9 4 (.object "HourLets$World") := ⟨(RX10, TX10, 15), rfl, by decide, uw_X10, tw_2_164, rfl, by decide +kernel, ⟨tyX10, tyX10_ok⟩, nmX10⟩
theorem pk_X10_27_9 : PFk RX10 27 9 5 (.object "HourLets$World") := ⟨(RX10, TX10, 15), rfl, by decide, uw_X10, tw_2_165, rfl, by decide +kernel, ⟨tyX10, tyX10_ok⟩, nmX10⟩
theorem pk_X10_32_9 : PFk RX10 32 9 7 (.array (.object "HourLets$Town")) := ⟨(RX10, TX10, 15), rfl, by decide, uw_X10, tw_2_167, rfl, by decide +kernel, ⟨tyX10, tyX10_ok⟩, nmX10⟩
theorem nk_X10_36 : NLk RX10 36 7 13 [.null, .int 0, .int 0, .int 0, .int 0, .int 0, .int 0, .null, .null, .int 0, .int 0, .int 0, .int 0] := ⟨(RX8, TX8, 13), rfl, rfl, uw_X8, tw_2_0, tw_2_1, tw_1_8, tyX8, tyX8_ok, by decide +kernel⟩
theorem ik_X10_38 : LkI RX10 38 yX8_init 2 cX8_init 3 := ⟨tw_2_4, tw_2_3, tw_1_8, ⟨by decide, by decide⟩, by decide +kernel, rfl, Or.inr ⟨_, tw_2_2⟩⟩
theorem pk_X10_41_9 : PFk RX10 41 9 10 (.object "HourLets$TownText") := ⟨(RX10, TX10, 15), rfl, by decide, uw_X10, tw_2_170, rfl, by decide +kernel, ⟨tyX10, tyX10_ok⟩, nmX10⟩
theorem nk_X10_45 : NLk RX10 45 3 12 [.null, .int 0, .int 0, .int 0, .int 0, .int 0, .int 0, .null, .null, .int 0, .int 0, .int 0] := ⟨(RX3, TX3, 12), rfl, rfl, uw_X3, tw_2_49, tw_2_50, tw_1_9, tyX3, tyX3_ok, by decide +kernel⟩
theorem ik_X10_51 : LkI RX10 51 yX3_init 2 cX3_init 3 := ⟨tw_2_53, tw_2_52, tw_1_9, ⟨by decide, by decide⟩, by decide +kernel, rfl, Or.inr ⟨_, tw_2_51⟩⟩
theorem pk_X10_54_9 : PFk RX10 54 9 11 (.object "HourLets$LawText") := ⟨(RX10, TX10, 15), rfl, by decide, uw_X10, tw_2_171, rfl, by decide +kernel, ⟨tyX10, tyX10_ok⟩, nmX10⟩
theorem nk_X10_58 : NLk RX10 58 5 3 [.null, .null, .null] := ⟨(RX5, TX5, 3), rfl, rfl, uw_X5, tw_2_78, tw_2_79, tw_1_10, tyX5, tyX5_ok, by decide +kernel⟩
theorem ik_X10_60 : LkI RX10 60 yX5_init 1 cX5_init 2 := ⟨tw_2_82, tw_2_81, tw_1_10, ⟨by decide, by decide⟩, by decide +kernel, rfl, Or.inr ⟨_, tw_2_80⟩⟩
theorem pk_X10_63_9 : PFk RX10 63 9 12 (.object "HourLets$Streets") := ⟨(RX10, TX10, 15), rfl, by decide, uw_X10, tw_2_172, rfl, by decide +kernel, ⟨tyX10, tyX10_ok⟩, nmX10⟩
theorem nk_X10_67 : NLk RX10 67 0 11 [.null, .null, .null, .null, .null, .null, .null, .null, .null, .null, .int 0] := ⟨(RX0, TX0, 11), rfl, rfl, uw_X0, tw_2_94, tw_2_95, tw_1_11, tyX0, tyX0_ok, by decide +kernel⟩
theorem ik_X10_69 : LkI RX10 69 yX0_init 1 cX0_init 2 := ⟨tw_2_98, tw_2_97, tw_1_11, ⟨by decide, by decide⟩, by decide +kernel, rfl, Or.inr ⟨_, tw_2_96⟩⟩
theorem pk_X10_70_9 : PFk RX10 70 9 13 (.object "HourLets$Deals") := ⟨(RX10, TX10, 15), rfl, by decide, uw_X10, tw_2_173, rfl, by decide +kernel, ⟨tyX10, tyX10_ok⟩, nmX10⟩
theorem nk_X10_74 : NLk RX10 74 1 6 [.null, .null, .null, .null, .null, .int 0] := ⟨(RX1, TX1, 6), rfl, rfl, uw_X1, tw_2_134, tw_2_135, tw_1_12, tyX1, tyX1_ok, by decide +kernel⟩
theorem ik_X10_76 : LkI RX10 76 yX1_init 1 cX1_init 2 := ⟨tw_2_138, tw_2_137, tw_1_12, ⟨by decide, by decide⟩, by decide +kernel, rfl, Or.inr ⟨_, tw_2_136⟩⟩
theorem pk_X10_77_9 : PFk RX10 77 9 14 (.object "HourLets$Fitting") := ⟨(RX10, TX10, 15), rfl, by decide, uw_X10, tw_2_174, rfl, by decide +kernel, ⟨tyX10, tyX10_ok⟩, nmX10⟩
theorem nk_X10_30 : NLk RX10 30 6 12 [.null, .null, .null, .null, .null, .null, .int 0, .int 0, .int 0, .int 0, .int 0, .int 0] := ⟨(RX7, TX7, 12), rfl, rfl, uw_X7, tw_1_238, tw_1_44, tw_1_3, tyX7, tyX7_ok, by decide +kernel⟩
theorem ik_X10_81 : LkI RX10 81 yX7_init 0 cX7_init 1 := ⟨tw_1_47, tw_1_46, tw_1_3, ⟨by decide, by decide⟩, by decide +kernel, rfl, Or.inr ⟨_, tw_2_159⟩⟩
set_option maxHeartbeats 4000000 in
theorem cc_X10 {E : EE} (hA : AdC E) : CtA E 8 12950 yX10_init cX10_init 2 [.ref (E.ad 0)] (1, [(0, .inr (9, [.null, .int 0, .int 0, .null, .null, .null, .int 0, .null, .int 0, .int 0, .null, .null, .null, .null, .null]))], uZ) (178, [], tws [152, 145, 138, 131, 124, 117, 110, 103, 96, 89, 82, 75, 51, 27, 3]) := by
  refine cta_of (by decide) (Nat.le_of_ble_eq_true rfl) (fun X h hRC hrt hnm hao => ?_)
  refine gc_aload_n h dX10_init_0 rfl rfl ?_
  refine gc_oinit h tw_1_34 (Nat.le_of_ble_eq_true rfl) (oR hRC (by decide)) dX10_init_1 ?_
  refine gc_aload_n h dX10_init_4 rfl rfl ?_
  refine gc_sipush (v := nI 400) h dX10_init_5 (by decide) ?_
  refine gc_newa (k := 1) (N := 400) h hA hRC.2 (Nat.le_of_ble_eq_true rfl) (by decide) tw_1_116 sh_1 rfl (uZ_z (by decide) (by decide)) rfl (by decide) (fitN hRC (Nat.le_of_ble_eq_true rfl) (Nat.le_of_ble_eq_true rfl)) dX10_init_8 ?_
  refine gc_put (fs' := [.ref (E.ad 1), .int 0, .int 0, .null, .null, .null, .int 0, .null, .int 0, .int 0, .null, .null, .null, .null, .null]) h hA hnm pk_X10_9_9 (Nat.le_of_ble_eq_true rfl) rfl rfl (Nat.le_of_ble_eq_true rfl) dX10_init_10 rfl ?_
  refine gc_aload_n h dX10_init_13 rfl rfl ?_
  refine gc_iconst (v := -1) h dX10_init_14 (by decide) ?_
  refine gc_put (fs' := [.ref (E.ad 1), .int 0, .int (-1), .null, .null, .null, .int 0, .null, .int 0, .int 0, .null, .null, .null, .null, .null]) h hA hnm pk_X10_13_9 (Nat.le_of_ble_eq_true rfl) rfl rfl (Nat.le_of_ble_eq_true rfl) dX10_init_15 rfl ?_
  refine gc_aload_n h dX10_init_18 rfl rfl ?_
  refine gc_new (k := 2) h hA hRC.2 (Nat.le_of_ble_eq_true rfl) (by decide) nk_X10_17 (fitN hRC (Nat.le_of_ble_eq_true rfl) (Nat.le_of_ble_eq_true rfl)) dX10_init_19 ?_
  refine gc_dup h dX10_init_22 rfl ?_
  refine gc_I (L := 5) (ms := 1350) (As := []) (rest := [.ref (E.ad 2), .ref (E.ad 0)]) (w' := (26, [(0, .inr (9, [.ref (E.ad 1), .int 0, .int (-1), .null, .null, .null, .int 0, .null, .int 0, .int 0, .null, .null, .null, .null, .null]))], tws [3])) h hRC.2 (Nat.le_of_ble_eq_true rfl) (Nat.le_of_ble_eq_true rfl) ik_X10_19 (cc_X9 hA 2 _ (tws []) (world_ok (by decide)) (fun k h1 h2 => opL_tl (by omega)) (fun k h1 h2 => tws_c (fun t ht => nomatch ht))) (fitC hRC (by decide) (by decide) (Nat.le_of_ble_eq_true rfl) (Nat.le_of_ble_eq_true rfl)) rfl rfl (Nat.le_of_ble_eq_true rfl) dX10_init_23 ?_
  refine gc_put (fs' := [.ref (E.ad 1), .int 0, .int (-1), .ref (E.ad 2), .null, .null, .int 0, .null, .int 0, .int 0, .null, .null, .null, .null, .null]) h hA hnm pk_X10_20_9 (Nat.le_of_ble_eq_true rfl) rfl rfl (Nat.le_of_ble_eq_true rfl) dX10_init_26 rfl ?_
  refine gc_aload_n h dX10_init_29 rfl rfl ?_
  refine gc_new (k := 26) h hA hRC.2 (Nat.le_of_ble_eq_true rfl) (by decide) nk_X10_17 (fitN hRC (Nat.le_of_ble_eq_true rfl) (Nat.le_of_ble_eq_true rfl)) dX10_init_30 ?_
  refine gc_dup h dX10_init_33 rfl ?_
  refine gc_I (L := 5) (ms := 1350) (As := []) (rest := [.ref (E.ad 26), .ref (E.ad 0)]) (w' := (50, [(0, .inr (9, [.ref (E.ad 1), .int 0, .int (-1), .ref (E.ad 2), .null, .null, .int 0, .null, .int 0, .int 0, .null, .null, .null, .null, .null]))], tws [27, 3])) h hRC.2 (Nat.le_of_ble_eq_true rfl) (Nat.le_of_ble_eq_true rfl) ik_X10_19 (cc_X9 hA 26 _ (tws [3]) (world_ok (by decide)) (fun k h1 h2 => opL_tl (by omega)) (fun k h1 h2 => tws_c (fun t ht => by
    simp only [List.mem_cons, List.not_mem_nil, or_false] at ht
    omega))) (fitC hRC (by decide) (by decide) (Nat.le_of_ble_eq_true rfl) (Nat.le_of_ble_eq_true rfl)) rfl rfl (Nat.le_of_ble_eq_true rfl) dX10_init_34 ?_
  refine gc_put (fs' := [.ref (E.ad 1), .int 0, .int (-1), .ref (E.ad 2), .ref (E.ad 26), .null, .int 0, .null, .int 0, .int 0, .null, .null, .null, .null, .null]) h hA hnm pk_X10_24_9 (Nat.le_of_ble_eq_true rfl) rfl rfl (Nat.le_of_ble_eq_true rfl) dX10_init_37 rfl ?_
  refine gc_aload_n h dX10_init_40 rfl rfl ?_
  refine gc_new (k := 50) h hA hRC.2 (Nat.le_of_ble_eq_true rfl) (by decide) nk_X10_17 (fitN hRC (Nat.le_of_ble_eq_true rfl) (Nat.le_of_ble_eq_true rfl)) dX10_init_41 ?_
  refine gc_dup h dX10_init_44 rfl ?_
  refine gc_I (L := 5) (ms := 1350) (As := []) (rest := [.ref (E.ad 50), .ref (E.ad 0)]) (w' := (74, [(0, .inr (9, [.ref (E.ad 1), .int 0, .int (-1), .ref (E.ad 2), .ref (E.ad 26), .null, .int 0, .null, .int 0, .int 0, .null, .null, .null, .null, .null]))], tws [51, 27, 3])) h hRC.2 (Nat.le_of_ble_eq_true rfl) (Nat.le_of_ble_eq_true rfl) ik_X10_19 (cc_X9 hA 50 _ (tws [27, 3]) (world_ok (by decide)) (fun k h1 h2 => opL_tl (by omega)) (fun k h1 h2 => tws_c (fun t ht => by
    simp only [List.mem_cons, List.not_mem_nil, or_false] at ht
    omega))) (fitC hRC (by decide) (by decide) (Nat.le_of_ble_eq_true rfl) (Nat.le_of_ble_eq_true rfl)) rfl rfl (Nat.le_of_ble_eq_true rfl) dX10_init_45 ?_
  refine gc_put (fs' := [.ref (E.ad 1), .int 0, .int (-1), .ref (E.ad 2), .ref (E.ad 26), .ref (E.ad 50), .int 0, .null, .int 0, .int 0, .null, .null, .null, .null, .null]) h hA hnm pk_X10_27_9 (Nat.le_of_ble_eq_true rfl) rfl rfl (Nat.le_of_ble_eq_true rfl) dX10_init_48 rfl ?_
  refine gc_aload_n h dX10_init_51 rfl rfl ?_
  refine gc_bipush (v := nI 12) h dX10_init_52 (by decide) ?_
  refine gc_anew (k := 74) (N := 12) h hA hRC.2 (Nat.le_of_ble_eq_true rfl) (by decide) tw_1_238 hao.use rfl (by decide) (fitN hRC (Nat.le_of_ble_eq_true rfl) (Nat.le_of_ble_eq_true rfl)) dX10_init_54 ?_
  refine gc_swap (by decide) ?_
  rw [pf_0 (E := E)]
  refine gc_put (fs' := [.ref (E.ad 1), .int 0, .int (-1), .ref (E.ad 2), .ref (E.ad 26), .ref (E.ad 50), .int 0, .ref (E.ad 74), .int 0, .int 0, .null, .null, .null, .null, .null]) h hA hnm pk_X10_32_9 (Nat.le_of_ble_eq_true rfl) rfl rfl (Nat.le_of_ble_eq_true rfl) dX10_init_57 rfl ?_
  refine gc_aload_n h dX10_init_60 rfl rfl ?_
  refine gc_new (k := 159) h hA hRC.2 (Nat.le_of_ble_eq_true rfl) (by decide) nk_X10_36 (fitN hRC (Nat.le_of_ble_eq_true rfl) (Nat.le_of_ble_eq_true rfl)) dX10_init_61 ?_
  refine gc_dup h dX10_init_64 rfl ?_
  refine gc_aload_n h dX10_init_65 rfl rfl ?_
  refine gc_get (k := 0) (fs := [.ref (E.ad 1), .int 0, .int (-1), .ref (E.ad 2), .ref (E.ad 26), .ref (E.ad 50), .int 0, .ref (E.ad 74), .int 0, .int 0, .null, .null, .null, .null, .null]) h hA fl_X10_9_9 (Nat.le_of_ble_eq_true rfl) (ct_o rfl) rfl dX10_init_66 ?_
  refine gc_aload_n h dX10_init_69 rfl rfl ?_
  refine gc_get (k := 0) (fs := [.ref (E.ad 1), .int 0, .int (-1), .ref (E.ad 2), .ref (E.ad 26), .ref (E.ad 50), .int 0, .ref (E.ad 74), .int 0, .int 0, .null, .null, .null, .null, .null]) h hA fl_X10_24_9 (Nat.le_of_ble_eq_true rfl) (ct_o rfl) rfl dX10_init_70 ?_
  refine gc_I (L := 4) (ms := 0) (As := [.ref (E.ad 1), .ref (E.ad 26)]) (rest := [.ref (E.ad 159), .ref (E.ad 0)]) (w' := (76, [(0, .inr (9, [.ref (E.ad 1), .int 0, .int (-1), .ref (E.ad 2), .ref (E.ad 26), .ref (E.ad 50), .int 0, .ref (E.ad 74), .int 0, .int 0, .null, .null, .null, .null, .null])), (74, .inl (E.cy 3, 12, .inr (.inr (.inr (.inr (pfC E 0))))))], tws [51, 27, 3])) h hRC.2 (Nat.le_of_ble_eq_true rfl) (Nat.le_of_ble_eq_true rfl) ik_X10_38 (cc_X8 hA _ _ _ (fun k h1 h2 => (tws_c (fun t ht => by
    simp only [List.mem_cons, List.not_mem_nil, or_false] at ht
    omega)).trans (uZ_hi h1 h2))) (fitC hRC (by decide) (by decide) (Nat.le_of_ble_eq_true rfl) (Nat.le_of_ble_eq_true rfl)) rfl rfl (Nat.le_of_ble_eq_true rfl) dX10_init_73 ?_
  refine gc_put (fs' := [.ref (E.ad 1), .int 0, .int (-1), .ref (E.ad 2), .ref (E.ad 26), .ref (E.ad 50), .int 0, .ref (E.ad 74), .int 0, .int 0, .ref (E.ad 159), .null, .null, .null, .null]) h hA hnm pk_X10_41_9 (Nat.le_of_ble_eq_true rfl) rfl rfl (Nat.le_of_ble_eq_true rfl) dX10_init_76 rfl ?_
  refine gc_aload_n h dX10_init_79 rfl rfl ?_
  refine gc_new (k := 160) h hA hRC.2 (Nat.le_of_ble_eq_true rfl) (by decide) nk_X10_45 (fitN hRC (Nat.le_of_ble_eq_true rfl) (Nat.le_of_ble_eq_true rfl)) dX10_init_80 ?_
  refine gc_dup h dX10_init_83 rfl ?_
  refine gc_aload_n h dX10_init_84 rfl rfl ?_
  refine gc_get (k := 0) (fs := [.ref (E.ad 1), .int 0, .int (-1), .ref (E.ad 2), .ref (E.ad 26), .ref (E.ad 50), .int 0, .ref (E.ad 74), .int 0, .int 0, .ref (E.ad 159), .null, .null, .null, .null]) h hA fl_X10_9_9 (Nat.le_of_ble_eq_true rfl) (ct_o rfl) rfl dX10_init_85 ?_
  refine gc_aload_n h dX10_init_88 rfl rfl ?_
  refine gc_get (k := 0) (fs := [.ref (E.ad 1), .int 0, .int (-1), .ref (E.ad 2), .ref (E.ad 26), .ref (E.ad 50), .int 0, .ref (E.ad 74), .int 0, .int 0, .ref (E.ad 159), .null, .null, .null, .null]) h hA fl_X10_24_9 (Nat.le_of_ble_eq_true rfl) (ct_o rfl) rfl dX10_init_89 ?_
  refine gc_get (k := 26) (fs := [.ref (E.ad 27), .ref (E.ad 34), .ref (E.ad 43), .ref (E.ad 49)]) h hA fl_X10_47_8 (Nat.le_of_ble_eq_true rfl) ((ct_n rfl).trans (by rw [sh_26]; rfl)) rfl dX10_init_92 ?_
  refine gc_I (L := 4) (ms := 40) (As := [.ref (E.ad 1), .ref (E.ad 43)]) (rest := [.ref (E.ad 160), .ref (E.ad 0)]) (w' := (78, [(0, .inr (9, [.ref (E.ad 1), .int 0, .int (-1), .ref (E.ad 2), .ref (E.ad 26), .ref (E.ad 50), .int 0, .ref (E.ad 74), .int 0, .int 0, .ref (E.ad 159), .null, .null, .null, .null])), (74, .inl (E.cy 3, 12, .inr (.inr (.inr (.inr (pfC E 0))))))], tws [51, 27, 3])) h hRC.2 (Nat.le_of_ble_eq_true rfl) (Nat.le_of_ble_eq_true rfl) ik_X10_51 (cc_X3 hA _ _ _ (fun k h1 h2 => (tws_c (fun t ht => by
    simp only [List.mem_cons, List.not_mem_nil, or_false] at ht
    omega)).trans (uZ_hi h1 h2))) (fitC hRC (by decide) (by decide) (Nat.le_of_ble_eq_true rfl) (Nat.le_of_ble_eq_true rfl)) rfl rfl (Nat.le_of_ble_eq_true rfl) dX10_init_95 ?_
  refine gc_put (fs' := [.ref (E.ad 1), .int 0, .int (-1), .ref (E.ad 2), .ref (E.ad 26), .ref (E.ad 50), .int 0, .ref (E.ad 74), .int 0, .int 0, .ref (E.ad 159), .ref (E.ad 160), .null, .null, .null]) h hA hnm pk_X10_54_9 (Nat.le_of_ble_eq_true rfl) rfl rfl (Nat.le_of_ble_eq_true rfl) dX10_init_98 rfl ?_
  refine gc_aload_n h dX10_init_101 rfl rfl ?_
  refine gc_new (k := 162) h hA hRC.2 (Nat.le_of_ble_eq_true rfl) (by decide) nk_X10_58 (fitN hRC (Nat.le_of_ble_eq_true rfl) (Nat.le_of_ble_eq_true rfl)) dX10_init_102 ?_
  refine gc_dup h dX10_init_105 rfl ?_
  refine gc_aload_n h dX10_init_106 rfl rfl ?_
  refine gc_get (k := 0) (fs := [.ref (E.ad 1), .int 0, .int (-1), .ref (E.ad 2), .ref (E.ad 26), .ref (E.ad 50), .int 0, .ref (E.ad 74), .int 0, .int 0, .ref (E.ad 159), .ref (E.ad 160), .null, .null, .null]) h hA fl_X10_20_9 (Nat.le_of_ble_eq_true rfl) (ct_o rfl) rfl dX10_init_107 ?_
  refine gc_I (L := 4) (ms := 168) (As := [.ref (E.ad 2)]) (rest := [.ref (E.ad 162), .ref (E.ad 0)]) (w' := (80, [(0, .inr (9, [.ref (E.ad 1), .int 0, .int (-1), .ref (E.ad 2), .ref (E.ad 26), .ref (E.ad 50), .int 0, .ref (E.ad 74), .int 0, .int 0, .ref (E.ad 159), .ref (E.ad 160), .null, .null, .null])), (74, .inl (E.cy 3, 12, .inr (.inr (.inr (.inr (pfC E 0))))))], tws [51, 27, 3])) h hRC.2 (Nat.le_of_ble_eq_true rfl) (Nat.le_of_ble_eq_true rfl) ik_X10_60 (cc_X5 hA _ _ _ (fun k h1 h2 => (tws_c (fun t ht => by
    simp only [List.mem_cons, List.not_mem_nil, or_false] at ht
    omega)).trans (uZ_hi h1 h2))) (fitC hRC (by decide) (by decide) (Nat.le_of_ble_eq_true rfl) (Nat.le_of_ble_eq_true rfl)) rfl rfl (Nat.le_of_ble_eq_true rfl) dX10_init_110 ?_
  refine gc_put (fs' := [.ref (E.ad 1), .int 0, .int (-1), .ref (E.ad 2), .ref (E.ad 26), .ref (E.ad 50), .int 0, .ref (E.ad 74), .int 0, .int 0, .ref (E.ad 159), .ref (E.ad 160), .ref (E.ad 162), .null, .null]) h hA hnm pk_X10_63_9 (Nat.le_of_ble_eq_true rfl) rfl rfl (Nat.le_of_ble_eq_true rfl) dX10_init_113 rfl ?_
  refine gc_aload_n h dX10_init_116 rfl rfl ?_
  refine gc_new (k := 164) h hA hRC.2 (Nat.le_of_ble_eq_true rfl) (by decide) nk_X10_67 (fitN hRC (Nat.le_of_ble_eq_true rfl) (Nat.le_of_ble_eq_true rfl)) dX10_init_117 ?_
  refine gc_dup h dX10_init_120 rfl ?_
  refine gc_aload_n h dX10_init_121 rfl rfl ?_
  refine gc_get (k := 0) (fs := [.ref (E.ad 1), .int 0, .int (-1), .ref (E.ad 2), .ref (E.ad 26), .ref (E.ad 50), .int 0, .ref (E.ad 74), .int 0, .int 0, .ref (E.ad 159), .ref (E.ad 160), .ref (E.ad 162), .null, .null]) h hA fl_X10_20_9 (Nat.le_of_ble_eq_true rfl) (ct_o rfl) rfl dX10_init_122 ?_
  refine gc_I (L := 4) (ms := 231) (As := [.ref (E.ad 2)]) (rest := [.ref (E.ad 164), .ref (E.ad 0)]) (w' := (89, [(0, .inr (9, [.ref (E.ad 1), .int 0, .int (-1), .ref (E.ad 2), .ref (E.ad 26), .ref (E.ad 50), .int 0, .ref (E.ad 74), .int 0, .int 0, .ref (E.ad 159), .ref (E.ad 160), .ref (E.ad 162), .null, .null])), (74, .inl (E.cy 3, 12, .inr (.inr (.inr (.inr (pfC E 0))))))], tws [51, 27, 3])) h hRC.2 (Nat.le_of_ble_eq_true rfl) (Nat.le_of_ble_eq_true rfl) ik_X10_69 (cc_X0 hA _ _ _ (fun k h1 h2 => (tws_c (fun t ht => by
    simp only [List.mem_cons, List.not_mem_nil, or_false] at ht
    omega)).trans (uZ_hi h1 h2))) (fitC hRC (by decide) (by decide) (Nat.le_of_ble_eq_true rfl) (Nat.le_of_ble_eq_true rfl)) rfl rfl (Nat.le_of_ble_eq_true rfl) dX10_init_125 ?_
  refine gc_put (fs' := [.ref (E.ad 1), .int 0, .int (-1), .ref (E.ad 2), .ref (E.ad 26), .ref (E.ad 50), .int 0, .ref (E.ad 74), .int 0, .int 0, .ref (E.ad 159), .ref (E.ad 160), .ref (E.ad 162), .ref (E.ad 164), .null]) h hA hnm pk_X10_70_9 (Nat.le_of_ble_eq_true rfl) rfl rfl (Nat.le_of_ble_eq_true rfl) dX10_init_128 rfl ?_
  refine gc_aload_n h dX10_init_131 rfl rfl ?_
  refine gc_new (k := 173) h hA hRC.2 (Nat.le_of_ble_eq_true rfl) (by decide) nk_X10_74 (fitN hRC (Nat.le_of_ble_eq_true rfl) (Nat.le_of_ble_eq_true rfl)) dX10_init_132 ?_
  refine gc_dup h dX10_init_135 rfl ?_
  refine gc_aload_n h dX10_init_136 rfl rfl ?_
  refine gc_get (k := 0) (fs := [.ref (E.ad 1), .int 0, .int (-1), .ref (E.ad 2), .ref (E.ad 26), .ref (E.ad 50), .int 0, .ref (E.ad 74), .int 0, .int 0, .ref (E.ad 159), .ref (E.ad 160), .ref (E.ad 162), .ref (E.ad 164), .null]) h hA fl_X10_20_9 (Nat.le_of_ble_eq_true rfl) (ct_o rfl) rfl dX10_init_137 ?_
  refine gc_I (L := 4) (ms := 600) (As := [.ref (E.ad 2)]) (rest := [.ref (E.ad 173), .ref (E.ad 0)]) (w' := (94, [(0, .inr (9, [.ref (E.ad 1), .int 0, .int (-1), .ref (E.ad 2), .ref (E.ad 26), .ref (E.ad 50), .int 0, .ref (E.ad 74), .int 0, .int 0, .ref (E.ad 159), .ref (E.ad 160), .ref (E.ad 162), .ref (E.ad 164), .null])), (74, .inl (E.cy 3, 12, .inr (.inr (.inr (.inr (pfC E 0))))))], tws [51, 27, 3])) h hRC.2 (Nat.le_of_ble_eq_true rfl) (Nat.le_of_ble_eq_true rfl) ik_X10_76 (cc_X1 hA _ _ _ (fun k h1 h2 => (tws_c (fun t ht => by
    simp only [List.mem_cons, List.not_mem_nil, or_false] at ht
    omega)).trans (uZ_hi h1 h2))) (fitC hRC (by decide) (by decide) (Nat.le_of_ble_eq_true rfl) (Nat.le_of_ble_eq_true rfl)) rfl rfl (Nat.le_of_ble_eq_true rfl) dX10_init_140 ?_
  refine gc_put (fs' := [.ref (E.ad 1), .int 0, .int (-1), .ref (E.ad 2), .ref (E.ad 26), .ref (E.ad 50), .int 0, .ref (E.ad 74), .int 0, .int 0, .ref (E.ad 159), .ref (E.ad 160), .ref (E.ad 162), .ref (E.ad 164), .ref (E.ad 173)]) h hA hnm pk_X10_77_9 (Nat.le_of_ble_eq_true rfl) rfl rfl (Nat.le_of_ble_eq_true rfl) dX10_init_143 rfl ?_
  refine gc_iconst (v := nI 0) h dX10_init_146 (by decide) ?_
  refine gc_istore_n (ls' := [(0, .ref (E.ad 0)), (1, .int (nI 0))]) h dX10_init_147 rfl (by decide) rfl rfl ?_
  refine gc_iload_n h dX10_init_148 rfl rfl ?_
  refine gc_bipush (v := nI 12) h dX10_init_149 (by decide) ?_
  refine gc_icmp_ge (tgt := 173) h dX10_init_151 (by decide) (fun q => absurd q (by decide)) (fun _ => ?_)
  refine gc_aload_n h dX10_init_154 rfl rfl ?_
  refine gc_get (k := 0) (fs := [.ref (E.ad 1), .int 0, .int (-1), .ref (E.ad 2), .ref (E.ad 26), .ref (E.ad 50), .int 0, .ref (E.ad 74), .int 0, .int 0, .ref (E.ad 159), .ref (E.ad 160), .ref (E.ad 162), .ref (E.ad 164), .ref (E.ad 173)]) h hA fl_X10_32_9 (Nat.le_of_ble_eq_true rfl) (ct_o rfl) rfl dX10_init_155 ?_
  refine gc_iload_n h dX10_init_158 rfl rfl ?_
  refine gc_new (k := 75) h hA hRC.2 (Nat.le_of_ble_eq_true rfl) (by decide) nk_X10_30 (fitN hRC (Nat.le_of_ble_eq_true rfl) (Nat.le_of_ble_eq_true rfl)) dX10_init_159 ?_
  refine gc_dup h dX10_init_162 rfl ?_
  refine gc_I (L := 3) (ms := 604) (As := []) (rest := [.ref (E.ad 75), .int (nI 0), .ref (E.ad 74)]) (w' := (101, [(0, .inr (9, [.ref (E.ad 1), .int 0, .int (-1), .ref (E.ad 2), .ref (E.ad 26), .ref (E.ad 50), .int 0, .ref (E.ad 74), .int 0, .int 0, .ref (E.ad 159), .ref (E.ad 160), .ref (E.ad 162), .ref (E.ad 164), .ref (E.ad 173)])), (74, .inl (E.cy 3, 12, .inr (.inr (.inr (.inr (pfC E 0))))))], tws [75, 51, 27, 3])) h hRC.2 (Nat.le_of_ble_eq_true rfl) (Nat.le_of_ble_eq_true rfl) ik_X10_81 (cc_X7 hA 75 95 _ (tws [51, 27, 3]) (past_t 0 (by decide)).1 (Nat.le_of_ble_eq_true rfl) (by decide) (fun j hj => (opL_tl (by omega)).trans (opL_tl (by omega))) (fun j hj => tws_c (fun t ht => by
    simp only [List.mem_cons, List.not_mem_nil, or_false] at ht
    omega))) (fitC hRC (by decide) (by decide) (Nat.le_of_ble_eq_true rfl) (Nat.le_of_ble_eq_true rfl)) rfl rfl (Nat.le_of_ble_eq_true rfl) dX10_init_163 ?_
  refine gc_swap (by decide) ?_
  refine gc_aast (i := 0) (f' := pfC E 1) h hA (Nat.le_of_ble_eq_true rfl) (Nat.le_of_ble_eq_true rfl) ((ct_n rfl).trans (town_ct (t := 75) (past_t 0 (by decide)).1 (fun t ht => by
    simp only [List.mem_cons, List.not_mem_nil, or_false] at ht
    omega))) rfl (by decide) (by decide) (pf_s (past_t 0 (by decide)).2) dX10_init_166 ?_
  refine gc_iinc (v := nI 1) (ls' := [(0, .ref (E.ad 0)), (1, .int (nI 1))]) h dX10_init_167 rfl (by decide) (by decide) rfl rfl ?_
  refine gc_goto (tgt := 148) h dX10_init_170 (by decide) ?_
  refine gc_iload_n h dX10_init_148 rfl rfl ?_
  refine gc_bipush (v := nI 12) h dX10_init_149 (by decide) ?_
  refine gc_icmp_ge (tgt := 173) h dX10_init_151 (by decide) (fun q => absurd q (by decide)) (fun _ => ?_)
  refine gc_aload_n h dX10_init_154 rfl rfl ?_
  refine gc_get (k := 0) (fs := [.ref (E.ad 1), .int 0, .int (-1), .ref (E.ad 2), .ref (E.ad 26), .ref (E.ad 50), .int 0, .ref (E.ad 74), .int 0, .int 0, .ref (E.ad 159), .ref (E.ad 160), .ref (E.ad 162), .ref (E.ad 164), .ref (E.ad 173)]) h hA fl_X10_32_9 (Nat.le_of_ble_eq_true rfl) (ct_o rfl) rfl dX10_init_155 ?_
  refine gc_iload_n h dX10_init_158 rfl rfl ?_
  refine gc_new (k := 82) h hA hRC.2 (Nat.le_of_ble_eq_true rfl) (by decide) nk_X10_30 (fitN hRC (Nat.le_of_ble_eq_true rfl) (Nat.le_of_ble_eq_true rfl)) dX10_init_159 ?_
  refine gc_dup h dX10_init_162 rfl ?_
  refine gc_I (L := 3) (ms := 604) (As := []) (rest := [.ref (E.ad 82), .int (nI 1), .ref (E.ad 74)]) (w' := (108, [(74, .inl (E.cy 3, 12, .inr (.inr (.inr (.inr (pfC E 1)))))), (0, .inr (9, [.ref (E.ad 1), .int 0, .int (-1), .ref (E.ad 2), .ref (E.ad 26), .ref (E.ad 50), .int 0, .ref (E.ad 74), .int 0, .int 0, .ref (E.ad 159), .ref (E.ad 160), .ref (E.ad 162), .ref (E.ad 164), .ref (E.ad 173)]))], tws [82, 75, 51, 27, 3])) h hRC.2 (Nat.le_of_ble_eq_true rfl) (Nat.le_of_ble_eq_true rfl) ik_X10_81 (cc_X7 hA 82 102 _ (tws [75, 51, 27, 3]) (past_t 1 (by decide)).1 (Nat.le_of_ble_eq_true rfl) (by decide) (fun j hj => (opL_tl (by omega)).trans (opL_tl (by omega))) (fun j hj => tws_c (fun t ht => by
    simp only [List.mem_cons, List.not_mem_nil, or_false] at ht
    omega))) (fitC hRC (by decide) (by decide) (Nat.le_of_ble_eq_true rfl) (Nat.le_of_ble_eq_true rfl)) rfl rfl (Nat.le_of_ble_eq_true rfl) dX10_init_163 ?_
  refine gc_aast (i := 1) (f' := pfC E 2) h hA (Nat.le_of_ble_eq_true rfl) (Nat.le_of_ble_eq_true rfl) ((ct_n rfl).trans (town_ct (t := 82) (past_t 1 (by decide)).1 (fun t ht => by
    simp only [List.mem_cons, List.not_mem_nil, or_false] at ht
    omega))) rfl (by decide) (by decide) (pf_s (past_t 1 (by decide)).2) dX10_init_166 ?_
  refine gc_iinc (v := nI 2) (ls' := [(0, .ref (E.ad 0)), (1, .int (nI 2))]) h dX10_init_167 rfl (by decide) (by decide) rfl rfl ?_
  refine gc_goto (tgt := 148) h dX10_init_170 (by decide) ?_
  refine gc_iload_n h dX10_init_148 rfl rfl ?_
  refine gc_bipush (v := nI 12) h dX10_init_149 (by decide) ?_
  refine gc_icmp_ge (tgt := 173) h dX10_init_151 (by decide) (fun q => absurd q (by decide)) (fun _ => ?_)
  refine gc_aload_n h dX10_init_154 rfl rfl ?_
  refine gc_get (k := 0) (fs := [.ref (E.ad 1), .int 0, .int (-1), .ref (E.ad 2), .ref (E.ad 26), .ref (E.ad 50), .int 0, .ref (E.ad 74), .int 0, .int 0, .ref (E.ad 159), .ref (E.ad 160), .ref (E.ad 162), .ref (E.ad 164), .ref (E.ad 173)]) h hA fl_X10_32_9 (Nat.le_of_ble_eq_true rfl) (ct_o rfl) rfl dX10_init_155 ?_
  refine gc_iload_n h dX10_init_158 rfl rfl ?_
  refine gc_new (k := 89) h hA hRC.2 (Nat.le_of_ble_eq_true rfl) (by decide) nk_X10_30 (fitN hRC (Nat.le_of_ble_eq_true rfl) (Nat.le_of_ble_eq_true rfl)) dX10_init_159 ?_
  refine gc_dup h dX10_init_162 rfl ?_
  refine gc_I (L := 3) (ms := 604) (As := []) (rest := [.ref (E.ad 89), .int (nI 2), .ref (E.ad 74)]) (w' := (115, [(74, .inl (E.cy 3, 12, .inr (.inr (.inr (.inr (pfC E 2)))))), (0, .inr (9, [.ref (E.ad 1), .int 0, .int (-1), .ref (E.ad 2), .ref (E.ad 26), .ref (E.ad 50), .int 0, .ref (E.ad 74), .int 0, .int 0, .ref (E.ad 159), .ref (E.ad 160), .ref (E.ad 162), .ref (E.ad 164), .ref (E.ad 173)]))], tws [89, 82, 75, 51, 27, 3])) h hRC.2 (Nat.le_of_ble_eq_true rfl) (Nat.le_of_ble_eq_true rfl) ik_X10_81 (cc_X7 hA 89 109 _ (tws [82, 75, 51, 27, 3]) (past_t 2 (by decide)).1 (Nat.le_of_ble_eq_true rfl) (by decide) (fun j hj => (opL_tl (by omega)).trans (opL_tl (by omega))) (fun j hj => tws_c (fun t ht => by
    simp only [List.mem_cons, List.not_mem_nil, or_false] at ht
    omega))) (fitC hRC (by decide) (by decide) (Nat.le_of_ble_eq_true rfl) (Nat.le_of_ble_eq_true rfl)) rfl rfl (Nat.le_of_ble_eq_true rfl) dX10_init_163 ?_
  refine gc_aast (i := 2) (f' := pfC E 3) h hA (Nat.le_of_ble_eq_true rfl) (Nat.le_of_ble_eq_true rfl) ((ct_n rfl).trans (town_ct (t := 89) (past_t 2 (by decide)).1 (fun t ht => by
    simp only [List.mem_cons, List.not_mem_nil, or_false] at ht
    omega))) rfl (by decide) (by decide) (pf_s (past_t 2 (by decide)).2) dX10_init_166 ?_
  refine gc_iinc (v := nI 3) (ls' := [(0, .ref (E.ad 0)), (1, .int (nI 3))]) h dX10_init_167 rfl (by decide) (by decide) rfl rfl ?_
  refine gc_goto (tgt := 148) h dX10_init_170 (by decide) ?_
  refine gc_iload_n h dX10_init_148 rfl rfl ?_
  refine gc_bipush (v := nI 12) h dX10_init_149 (by decide) ?_
  refine gc_icmp_ge (tgt := 173) h dX10_init_151 (by decide) (fun q => absurd q (by decide)) (fun _ => ?_)
  refine gc_aload_n h dX10_init_154 rfl rfl ?_
  refine gc_get (k := 0) (fs := [.ref (E.ad 1), .int 0, .int (-1), .ref (E.ad 2), .ref (E.ad 26), .ref (E.ad 50), .int 0, .ref (E.ad 74), .int 0, .int 0, .ref (E.ad 159), .ref (E.ad 160), .ref (E.ad 162), .ref (E.ad 164), .ref (E.ad 173)]) h hA fl_X10_32_9 (Nat.le_of_ble_eq_true rfl) (ct_o rfl) rfl dX10_init_155 ?_
  refine gc_iload_n h dX10_init_158 rfl rfl ?_
  refine gc_new (k := 96) h hA hRC.2 (Nat.le_of_ble_eq_true rfl) (by decide) nk_X10_30 (fitN hRC (Nat.le_of_ble_eq_true rfl) (Nat.le_of_ble_eq_true rfl)) dX10_init_159 ?_
  refine gc_dup h dX10_init_162 rfl ?_
  refine gc_I (L := 3) (ms := 604) (As := []) (rest := [.ref (E.ad 96), .int (nI 3), .ref (E.ad 74)]) (w' := (122, [(74, .inl (E.cy 3, 12, .inr (.inr (.inr (.inr (pfC E 3)))))), (0, .inr (9, [.ref (E.ad 1), .int 0, .int (-1), .ref (E.ad 2), .ref (E.ad 26), .ref (E.ad 50), .int 0, .ref (E.ad 74), .int 0, .int 0, .ref (E.ad 159), .ref (E.ad 160), .ref (E.ad 162), .ref (E.ad 164), .ref (E.ad 173)]))], tws [96, 89, 82, 75, 51, 27, 3])) h hRC.2 (Nat.le_of_ble_eq_true rfl) (Nat.le_of_ble_eq_true rfl) ik_X10_81 (cc_X7 hA 96 116 _ (tws [89, 82, 75, 51, 27, 3]) (past_t 3 (by decide)).1 (Nat.le_of_ble_eq_true rfl) (by decide) (fun j hj => (opL_tl (by omega)).trans (opL_tl (by omega))) (fun j hj => tws_c (fun t ht => by
    simp only [List.mem_cons, List.not_mem_nil, or_false] at ht
    omega))) (fitC hRC (by decide) (by decide) (Nat.le_of_ble_eq_true rfl) (Nat.le_of_ble_eq_true rfl)) rfl rfl (Nat.le_of_ble_eq_true rfl) dX10_init_163 ?_
  refine gc_aast (i := 3) (f' := pfC E 4) h hA (Nat.le_of_ble_eq_true rfl) (Nat.le_of_ble_eq_true rfl) ((ct_n rfl).trans (town_ct (t := 96) (past_t 3 (by decide)).1 (fun t ht => by
    simp only [List.mem_cons, List.not_mem_nil, or_false] at ht
    omega))) rfl (by decide) (by decide) (pf_s (past_t 3 (by decide)).2) dX10_init_166 ?_
  refine gc_iinc (v := nI 4) (ls' := [(0, .ref (E.ad 0)), (1, .int (nI 4))]) h dX10_init_167 rfl (by decide) (by decide) rfl rfl ?_
  refine gc_goto (tgt := 148) h dX10_init_170 (by decide) ?_
  refine gc_iload_n h dX10_init_148 rfl rfl ?_
  refine gc_bipush (v := nI 12) h dX10_init_149 (by decide) ?_
  refine gc_icmp_ge (tgt := 173) h dX10_init_151 (by decide) (fun q => absurd q (by decide)) (fun _ => ?_)
  refine gc_aload_n h dX10_init_154 rfl rfl ?_
  refine gc_get (k := 0) (fs := [.ref (E.ad 1), .int 0, .int (-1), .ref (E.ad 2), .ref (E.ad 26), .ref (E.ad 50), .int 0, .ref (E.ad 74), .int 0, .int 0, .ref (E.ad 159), .ref (E.ad 160), .ref (E.ad 162), .ref (E.ad 164), .ref (E.ad 173)]) h hA fl_X10_32_9 (Nat.le_of_ble_eq_true rfl) (ct_o rfl) rfl dX10_init_155 ?_
  refine gc_iload_n h dX10_init_158 rfl rfl ?_
  refine gc_new (k := 103) h hA hRC.2 (Nat.le_of_ble_eq_true rfl) (by decide) nk_X10_30 (fitN hRC (Nat.le_of_ble_eq_true rfl) (Nat.le_of_ble_eq_true rfl)) dX10_init_159 ?_
  refine gc_dup h dX10_init_162 rfl ?_
  refine gc_I (L := 3) (ms := 604) (As := []) (rest := [.ref (E.ad 103), .int (nI 4), .ref (E.ad 74)]) (w' := (129, [(74, .inl (E.cy 3, 12, .inr (.inr (.inr (.inr (pfC E 4)))))), (0, .inr (9, [.ref (E.ad 1), .int 0, .int (-1), .ref (E.ad 2), .ref (E.ad 26), .ref (E.ad 50), .int 0, .ref (E.ad 74), .int 0, .int 0, .ref (E.ad 159), .ref (E.ad 160), .ref (E.ad 162), .ref (E.ad 164), .ref (E.ad 173)]))], tws [103, 96, 89, 82, 75, 51, 27, 3])) h hRC.2 (Nat.le_of_ble_eq_true rfl) (Nat.le_of_ble_eq_true rfl) ik_X10_81 (cc_X7 hA 103 123 _ (tws [96, 89, 82, 75, 51, 27, 3]) (past_t 4 (by decide)).1 (Nat.le_of_ble_eq_true rfl) (by decide) (fun j hj => (opL_tl (by omega)).trans (opL_tl (by omega))) (fun j hj => tws_c (fun t ht => by
    simp only [List.mem_cons, List.not_mem_nil, or_false] at ht
    omega))) (fitC hRC (by decide) (by decide) (Nat.le_of_ble_eq_true rfl) (Nat.le_of_ble_eq_true rfl)) rfl rfl (Nat.le_of_ble_eq_true rfl) dX10_init_163 ?_
  refine gc_aast (i := 4) (f' := pfC E 5) h hA (Nat.le_of_ble_eq_true rfl) (Nat.le_of_ble_eq_true rfl) ((ct_n rfl).trans (town_ct (t := 103) (past_t 4 (by decide)).1 (fun t ht => by
    simp only [List.mem_cons, List.not_mem_nil, or_false] at ht
    omega))) rfl (by decide) (by decide) (pf_s (past_t 4 (by decide)).2) dX10_init_166 ?_
  refine gc_iinc (v := nI 5) (ls' := [(0, .ref (E.ad 0)), (1, .int (nI 5))]) h dX10_init_167 rfl (by decide) (by decide) rfl rfl ?_
  refine gc_goto (tgt := 148) h dX10_init_170 (by decide) ?_
  refine gc_iload_n h dX10_init_148 rfl rfl ?_
  refine gc_bipush (v := nI 12) h dX10_init_149 (by decide) ?_
  refine gc_icmp_ge (tgt := 173) h dX10_init_151 (by decide) (fun q => absurd q (by decide)) (fun _ => ?_)
  refine gc_aload_n h dX10_init_154 rfl rfl ?_
  refine gc_get (k := 0) (fs := [.ref (E.ad 1), .int 0, .int (-1), .ref (E.ad 2), .ref (E.ad 26), .ref (E.ad 50), .int 0, .ref (E.ad 74), .int 0, .int 0, .ref (E.ad 159), .ref (E.ad 160), .ref (E.ad 162), .ref (E.ad 164), .ref (E.ad 173)]) h hA fl_X10_32_9 (Nat.le_of_ble_eq_true rfl) (ct_o rfl) rfl dX10_init_155 ?_
  refine gc_iload_n h dX10_init_158 rfl rfl ?_
  refine gc_new (k := 110) h hA hRC.2 (Nat.le_of_ble_eq_true rfl) (by decide) nk_X10_30 (fitN hRC (Nat.le_of_ble_eq_true rfl) (Nat.le_of_ble_eq_true rfl)) dX10_init_159 ?_
  refine gc_dup h dX10_init_162 rfl ?_
  refine gc_I (L := 3) (ms := 604) (As := []) (rest := [.ref (E.ad 110), .int (nI 5), .ref (E.ad 74)]) (w' := (136, [(74, .inl (E.cy 3, 12, .inr (.inr (.inr (.inr (pfC E 5)))))), (0, .inr (9, [.ref (E.ad 1), .int 0, .int (-1), .ref (E.ad 2), .ref (E.ad 26), .ref (E.ad 50), .int 0, .ref (E.ad 74), .int 0, .int 0, .ref (E.ad 159), .ref (E.ad 160), .ref (E.ad 162), .ref (E.ad 164), .ref (E.ad 173)]))], tws [110, 103, 96, 89, 82, 75, 51, 27, 3])) h hRC.2 (Nat.le_of_ble_eq_true rfl) (Nat.le_of_ble_eq_true rfl) ik_X10_81 (cc_X7 hA 110 130 _ (tws [103, 96, 89, 82, 75, 51, 27, 3]) (past_t 5 (by decide)).1 (Nat.le_of_ble_eq_true rfl) (by decide) (fun j hj => (opL_tl (by omega)).trans (opL_tl (by omega))) (fun j hj => tws_c (fun t ht => by
    simp only [List.mem_cons, List.not_mem_nil, or_false] at ht
    omega))) (fitC hRC (by decide) (by decide) (Nat.le_of_ble_eq_true rfl) (Nat.le_of_ble_eq_true rfl)) rfl rfl (Nat.le_of_ble_eq_true rfl) dX10_init_163 ?_
  refine gc_aast (i := 5) (f' := pfC E 6) h hA (Nat.le_of_ble_eq_true rfl) (Nat.le_of_ble_eq_true rfl) ((ct_n rfl).trans (town_ct (t := 110) (past_t 5 (by decide)).1 (fun t ht => by
    simp only [List.mem_cons, List.not_mem_nil, or_false] at ht
    omega))) rfl (by decide) (by decide) (pf_s (past_t 5 (by decide)).2) dX10_init_166 ?_
  refine gc_iinc (v := nI 6) (ls' := [(0, .ref (E.ad 0)), (1, .int (nI 6))]) h dX10_init_167 rfl (by decide) (by decide) rfl rfl ?_
  refine gc_goto (tgt := 148) h dX10_init_170 (by decide) ?_
  refine gc_iload_n h dX10_init_148 rfl rfl ?_
  refine gc_bipush (v := nI 12) h dX10_init_149 (by decide) ?_
  refine gc_icmp_ge (tgt := 173) h dX10_init_151 (by decide) (fun q => absurd q (by decide)) (fun _ => ?_)
  refine gc_aload_n h dX10_init_154 rfl rfl ?_
  refine gc_get (k := 0) (fs := [.ref (E.ad 1), .int 0, .int (-1), .ref (E.ad 2), .ref (E.ad 26), .ref (E.ad 50), .int 0, .ref (E.ad 74), .int 0, .int 0, .ref (E.ad 159), .ref (E.ad 160), .ref (E.ad 162), .ref (E.ad 164), .ref (E.ad 173)]) h hA fl_X10_32_9 (Nat.le_of_ble_eq_true rfl) (ct_o rfl) rfl dX10_init_155 ?_
  refine gc_iload_n h dX10_init_158 rfl rfl ?_
  refine gc_new (k := 117) h hA hRC.2 (Nat.le_of_ble_eq_true rfl) (by decide) nk_X10_30 (fitN hRC (Nat.le_of_ble_eq_true rfl) (Nat.le_of_ble_eq_true rfl)) dX10_init_159 ?_
  refine gc_dup h dX10_init_162 rfl ?_
  refine gc_I (L := 3) (ms := 604) (As := []) (rest := [.ref (E.ad 117), .int (nI 6), .ref (E.ad 74)]) (w' := (143, [(74, .inl (E.cy 3, 12, .inr (.inr (.inr (.inr (pfC E 6)))))), (0, .inr (9, [.ref (E.ad 1), .int 0, .int (-1), .ref (E.ad 2), .ref (E.ad 26), .ref (E.ad 50), .int 0, .ref (E.ad 74), .int 0, .int 0, .ref (E.ad 159), .ref (E.ad 160), .ref (E.ad 162), .ref (E.ad 164), .ref (E.ad 173)]))], tws [117, 110, 103, 96, 89, 82, 75, 51, 27, 3])) h hRC.2 (Nat.le_of_ble_eq_true rfl) (Nat.le_of_ble_eq_true rfl) ik_X10_81 (cc_X7 hA 117 137 _ (tws [110, 103, 96, 89, 82, 75, 51, 27, 3]) (past_t 6 (by decide)).1 (Nat.le_of_ble_eq_true rfl) (by decide) (fun j hj => (opL_tl (by omega)).trans (opL_tl (by omega))) (fun j hj => tws_c (fun t ht => by
    simp only [List.mem_cons, List.not_mem_nil, or_false] at ht
    omega))) (fitC hRC (by decide) (by decide) (Nat.le_of_ble_eq_true rfl) (Nat.le_of_ble_eq_true rfl)) rfl rfl (Nat.le_of_ble_eq_true rfl) dX10_init_163 ?_
  refine gc_aast (i := 6) (f' := pfC E 7) h hA (Nat.le_of_ble_eq_true rfl) (Nat.le_of_ble_eq_true rfl) ((ct_n rfl).trans (town_ct (t := 117) (past_t 6 (by decide)).1 (fun t ht => by
    simp only [List.mem_cons, List.not_mem_nil, or_false] at ht
    omega))) rfl (by decide) (by decide) (pf_s (past_t 6 (by decide)).2) dX10_init_166 ?_
  refine gc_iinc (v := nI 7) (ls' := [(0, .ref (E.ad 0)), (1, .int (nI 7))]) h dX10_init_167 rfl (by decide) (by decide) rfl rfl ?_
  refine gc_goto (tgt := 148) h dX10_init_170 (by decide) ?_
  refine gc_iload_n h dX10_init_148 rfl rfl ?_
  refine gc_bipush (v := nI 12) h dX10_init_149 (by decide) ?_
  refine gc_icmp_ge (tgt := 173) h dX10_init_151 (by decide) (fun q => absurd q (by decide)) (fun _ => ?_)
  refine gc_aload_n h dX10_init_154 rfl rfl ?_
  refine gc_get (k := 0) (fs := [.ref (E.ad 1), .int 0, .int (-1), .ref (E.ad 2), .ref (E.ad 26), .ref (E.ad 50), .int 0, .ref (E.ad 74), .int 0, .int 0, .ref (E.ad 159), .ref (E.ad 160), .ref (E.ad 162), .ref (E.ad 164), .ref (E.ad 173)]) h hA fl_X10_32_9 (Nat.le_of_ble_eq_true rfl) (ct_o rfl) rfl dX10_init_155 ?_
  refine gc_iload_n h dX10_init_158 rfl rfl ?_
  refine gc_new (k := 124) h hA hRC.2 (Nat.le_of_ble_eq_true rfl) (by decide) nk_X10_30 (fitN hRC (Nat.le_of_ble_eq_true rfl) (Nat.le_of_ble_eq_true rfl)) dX10_init_159 ?_
  refine gc_dup h dX10_init_162 rfl ?_
  refine gc_I (L := 3) (ms := 604) (As := []) (rest := [.ref (E.ad 124), .int (nI 7), .ref (E.ad 74)]) (w' := (150, [(74, .inl (E.cy 3, 12, .inr (.inr (.inr (.inr (pfC E 7)))))), (0, .inr (9, [.ref (E.ad 1), .int 0, .int (-1), .ref (E.ad 2), .ref (E.ad 26), .ref (E.ad 50), .int 0, .ref (E.ad 74), .int 0, .int 0, .ref (E.ad 159), .ref (E.ad 160), .ref (E.ad 162), .ref (E.ad 164), .ref (E.ad 173)]))], tws [124, 117, 110, 103, 96, 89, 82, 75, 51, 27, 3])) h hRC.2 (Nat.le_of_ble_eq_true rfl) (Nat.le_of_ble_eq_true rfl) ik_X10_81 (cc_X7 hA 124 144 _ (tws [117, 110, 103, 96, 89, 82, 75, 51, 27, 3]) (past_t 7 (by decide)).1 (Nat.le_of_ble_eq_true rfl) (by decide) (fun j hj => (opL_tl (by omega)).trans (opL_tl (by omega))) (fun j hj => tws_c (fun t ht => by
    simp only [List.mem_cons, List.not_mem_nil, or_false] at ht
    omega))) (fitC hRC (by decide) (by decide) (Nat.le_of_ble_eq_true rfl) (Nat.le_of_ble_eq_true rfl)) rfl rfl (Nat.le_of_ble_eq_true rfl) dX10_init_163 ?_
  refine gc_aast (i := 7) (f' := pfC E 8) h hA (Nat.le_of_ble_eq_true rfl) (Nat.le_of_ble_eq_true rfl) ((ct_n rfl).trans (town_ct (t := 124) (past_t 7 (by decide)).1 (fun t ht => by
    simp only [List.mem_cons, List.not_mem_nil, or_false] at ht
    omega))) rfl (by decide) (by decide) (pf_s (past_t 7 (by decide)).2) dX10_init_166 ?_
  refine gc_iinc (v := nI 8) (ls' := [(0, .ref (E.ad 0)), (1, .int (nI 8))]) h dX10_init_167 rfl (by decide) (by decide) rfl rfl ?_
  refine gc_goto (tgt := 148) h dX10_init_170 (by decide) ?_
  refine gc_iload_n h dX10_init_148 rfl rfl ?_
  refine gc_bipush (v := nI 12) h dX10_init_149 (by decide) ?_
  refine gc_icmp_ge (tgt := 173) h dX10_init_151 (by decide) (fun q => absurd q (by decide)) (fun _ => ?_)
  refine gc_aload_n h dX10_init_154 rfl rfl ?_
  refine gc_get (k := 0) (fs := [.ref (E.ad 1), .int 0, .int (-1), .ref (E.ad 2), .ref (E.ad 26), .ref (E.ad 50), .int 0, .ref (E.ad 74), .int 0, .int 0, .ref (E.ad 159), .ref (E.ad 160), .ref (E.ad 162), .ref (E.ad 164), .ref (E.ad 173)]) h hA fl_X10_32_9 (Nat.le_of_ble_eq_true rfl) (ct_o rfl) rfl dX10_init_155 ?_
  refine gc_iload_n h dX10_init_158 rfl rfl ?_
  refine gc_new (k := 131) h hA hRC.2 (Nat.le_of_ble_eq_true rfl) (by decide) nk_X10_30 (fitN hRC (Nat.le_of_ble_eq_true rfl) (Nat.le_of_ble_eq_true rfl)) dX10_init_159 ?_
  refine gc_dup h dX10_init_162 rfl ?_
  refine gc_I (L := 3) (ms := 604) (As := []) (rest := [.ref (E.ad 131), .int (nI 8), .ref (E.ad 74)]) (w' := (157, [(74, .inl (E.cy 3, 12, .inr (.inr (.inr (.inr (pfC E 8)))))), (0, .inr (9, [.ref (E.ad 1), .int 0, .int (-1), .ref (E.ad 2), .ref (E.ad 26), .ref (E.ad 50), .int 0, .ref (E.ad 74), .int 0, .int 0, .ref (E.ad 159), .ref (E.ad 160), .ref (E.ad 162), .ref (E.ad 164), .ref (E.ad 173)]))], tws [131, 124, 117, 110, 103, 96, 89, 82, 75, 51, 27, 3])) h hRC.2 (Nat.le_of_ble_eq_true rfl) (Nat.le_of_ble_eq_true rfl) ik_X10_81 (cc_X7 hA 131 151 _ (tws [124, 117, 110, 103, 96, 89, 82, 75, 51, 27, 3]) (past_t 8 (by decide)).1 (Nat.le_of_ble_eq_true rfl) (by decide) (fun j hj => (opL_tl (by omega)).trans (opL_tl (by omega))) (fun j hj => tws_c (fun t ht => by
    simp only [List.mem_cons, List.not_mem_nil, or_false] at ht
    omega))) (fitC hRC (by decide) (by decide) (Nat.le_of_ble_eq_true rfl) (Nat.le_of_ble_eq_true rfl)) rfl rfl (Nat.le_of_ble_eq_true rfl) dX10_init_163 ?_
  refine gc_aast (i := 8) (f' := pfC E 9) h hA (Nat.le_of_ble_eq_true rfl) (Nat.le_of_ble_eq_true rfl) ((ct_n rfl).trans (town_ct (t := 131) (past_t 8 (by decide)).1 (fun t ht => by
    simp only [List.mem_cons, List.not_mem_nil, or_false] at ht
    omega))) rfl (by decide) (by decide) (pf_s (past_t 8 (by decide)).2) dX10_init_166 ?_
  refine gc_iinc (v := nI 9) (ls' := [(0, .ref (E.ad 0)), (1, .int (nI 9))]) h dX10_init_167 rfl (by decide) (by decide) rfl rfl ?_
  refine gc_goto (tgt := 148) h dX10_init_170 (by decide) ?_
  refine gc_iload_n h dX10_init_148 rfl rfl ?_
  refine gc_bipush (v := nI 12) h dX10_init_149 (by decide) ?_
  refine gc_icmp_ge (tgt := 173) h dX10_init_151 (by decide) (fun q => absurd q (by decide)) (fun _ => ?_)
  refine gc_aload_n h dX10_init_154 rfl rfl ?_
  refine gc_get (k := 0) (fs := [.ref (E.ad 1), .int 0, .int (-1), .ref (E.ad 2), .ref (E.ad 26), .ref (E.ad 50), .int 0, .ref (E.ad 74), .int 0, .int 0, .ref (E.ad 159), .ref (E.ad 160), .ref (E.ad 162), .ref (E.ad 164), .ref (E.ad 173)]) h hA fl_X10_32_9 (Nat.le_of_ble_eq_true rfl) (ct_o rfl) rfl dX10_init_155 ?_
  refine gc_iload_n h dX10_init_158 rfl rfl ?_
  refine gc_new (k := 138) h hA hRC.2 (Nat.le_of_ble_eq_true rfl) (by decide) nk_X10_30 (fitN hRC (Nat.le_of_ble_eq_true rfl) (Nat.le_of_ble_eq_true rfl)) dX10_init_159 ?_
  refine gc_dup h dX10_init_162 rfl ?_
  refine gc_I (L := 3) (ms := 604) (As := []) (rest := [.ref (E.ad 138), .int (nI 9), .ref (E.ad 74)]) (w' := (164, [(74, .inl (E.cy 3, 12, .inr (.inr (.inr (.inr (pfC E 9)))))), (0, .inr (9, [.ref (E.ad 1), .int 0, .int (-1), .ref (E.ad 2), .ref (E.ad 26), .ref (E.ad 50), .int 0, .ref (E.ad 74), .int 0, .int 0, .ref (E.ad 159), .ref (E.ad 160), .ref (E.ad 162), .ref (E.ad 164), .ref (E.ad 173)]))], tws [138, 131, 124, 117, 110, 103, 96, 89, 82, 75, 51, 27, 3])) h hRC.2 (Nat.le_of_ble_eq_true rfl) (Nat.le_of_ble_eq_true rfl) ik_X10_81 (cc_X7 hA 138 158 _ (tws [131, 124, 117, 110, 103, 96, 89, 82, 75, 51, 27, 3]) (past_t 9 (by decide)).1 (Nat.le_of_ble_eq_true rfl) (by decide) (fun j hj => (opL_tl (by omega)).trans (opL_tl (by omega))) (fun j hj => tws_c (fun t ht => by
    simp only [List.mem_cons, List.not_mem_nil, or_false] at ht
    omega))) (fitC hRC (by decide) (by decide) (Nat.le_of_ble_eq_true rfl) (Nat.le_of_ble_eq_true rfl)) rfl rfl (Nat.le_of_ble_eq_true rfl) dX10_init_163 ?_
  refine gc_aast (i := 9) (f' := pfC E 10) h hA (Nat.le_of_ble_eq_true rfl) (Nat.le_of_ble_eq_true rfl) ((ct_n rfl).trans (town_ct (t := 138) (past_t 9 (by decide)).1 (fun t ht => by
    simp only [List.mem_cons, List.not_mem_nil, or_false] at ht
    omega))) rfl (by decide) (by decide) (pf_s (past_t 9 (by decide)).2) dX10_init_166 ?_
  refine gc_iinc (v := nI 10) (ls' := [(0, .ref (E.ad 0)), (1, .int (nI 10))]) h dX10_init_167 rfl (by decide) (by decide) rfl rfl ?_
  refine gc_goto (tgt := 148) h dX10_init_170 (by decide) ?_
  refine gc_iload_n h dX10_init_148 rfl rfl ?_
  refine gc_bipush (v := nI 12) h dX10_init_149 (by decide) ?_
  refine gc_icmp_ge (tgt := 173) h dX10_init_151 (by decide) (fun q => absurd q (by decide)) (fun _ => ?_)
  refine gc_aload_n h dX10_init_154 rfl rfl ?_
  refine gc_get (k := 0) (fs := [.ref (E.ad 1), .int 0, .int (-1), .ref (E.ad 2), .ref (E.ad 26), .ref (E.ad 50), .int 0, .ref (E.ad 74), .int 0, .int 0, .ref (E.ad 159), .ref (E.ad 160), .ref (E.ad 162), .ref (E.ad 164), .ref (E.ad 173)]) h hA fl_X10_32_9 (Nat.le_of_ble_eq_true rfl) (ct_o rfl) rfl dX10_init_155 ?_
  refine gc_iload_n h dX10_init_158 rfl rfl ?_
  refine gc_new (k := 145) h hA hRC.2 (Nat.le_of_ble_eq_true rfl) (by decide) nk_X10_30 (fitN hRC (Nat.le_of_ble_eq_true rfl) (Nat.le_of_ble_eq_true rfl)) dX10_init_159 ?_
  refine gc_dup h dX10_init_162 rfl ?_
  refine gc_I (L := 3) (ms := 604) (As := []) (rest := [.ref (E.ad 145), .int (nI 10), .ref (E.ad 74)]) (w' := (171, [(74, .inl (E.cy 3, 12, .inr (.inr (.inr (.inr (pfC E 10)))))), (0, .inr (9, [.ref (E.ad 1), .int 0, .int (-1), .ref (E.ad 2), .ref (E.ad 26), .ref (E.ad 50), .int 0, .ref (E.ad 74), .int 0, .int 0, .ref (E.ad 159), .ref (E.ad 160), .ref (E.ad 162), .ref (E.ad 164), .ref (E.ad 173)]))], tws [145, 138, 131, 124, 117, 110, 103, 96, 89, 82, 75, 51, 27, 3])) h hRC.2 (Nat.le_of_ble_eq_true rfl) (Nat.le_of_ble_eq_true rfl) ik_X10_81 (cc_X7 hA 145 165 _ (tws [138, 131, 124, 117, 110, 103, 96, 89, 82, 75, 51, 27, 3]) (past_t 10 (by decide)).1 (Nat.le_of_ble_eq_true rfl) (by decide) (fun j hj => (opL_tl (by omega)).trans (opL_tl (by omega))) (fun j hj => tws_c (fun t ht => by
    simp only [List.mem_cons, List.not_mem_nil, or_false] at ht
    omega))) (fitC hRC (by decide) (by decide) (Nat.le_of_ble_eq_true rfl) (Nat.le_of_ble_eq_true rfl)) rfl rfl (Nat.le_of_ble_eq_true rfl) dX10_init_163 ?_
  refine gc_aast (i := 10) (f' := pfC E 11) h hA (Nat.le_of_ble_eq_true rfl) (Nat.le_of_ble_eq_true rfl) ((ct_n rfl).trans (town_ct (t := 145) (past_t 10 (by decide)).1 (fun t ht => by
    simp only [List.mem_cons, List.not_mem_nil, or_false] at ht
    omega))) rfl (by decide) (by decide) (pf_s (past_t 10 (by decide)).2) dX10_init_166 ?_
  refine gc_iinc (v := nI 11) (ls' := [(0, .ref (E.ad 0)), (1, .int (nI 11))]) h dX10_init_167 rfl (by decide) (by decide) rfl rfl ?_
  refine gc_goto (tgt := 148) h dX10_init_170 (by decide) ?_
  refine gc_iload_n h dX10_init_148 rfl rfl ?_
  refine gc_bipush (v := nI 12) h dX10_init_149 (by decide) ?_
  refine gc_icmp_ge (tgt := 173) h dX10_init_151 (by decide) (fun q => absurd q (by decide)) (fun _ => ?_)
  refine gc_aload_n h dX10_init_154 rfl rfl ?_
  refine gc_get (k := 0) (fs := [.ref (E.ad 1), .int 0, .int (-1), .ref (E.ad 2), .ref (E.ad 26), .ref (E.ad 50), .int 0, .ref (E.ad 74), .int 0, .int 0, .ref (E.ad 159), .ref (E.ad 160), .ref (E.ad 162), .ref (E.ad 164), .ref (E.ad 173)]) h hA fl_X10_32_9 (Nat.le_of_ble_eq_true rfl) (ct_o rfl) rfl dX10_init_155 ?_
  refine gc_iload_n h dX10_init_158 rfl rfl ?_
  refine gc_new (k := 152) h hA hRC.2 (Nat.le_of_ble_eq_true rfl) (by decide) nk_X10_30 (fitN hRC (Nat.le_of_ble_eq_true rfl) (Nat.le_of_ble_eq_true rfl)) dX10_init_159 ?_
  refine gc_dup h dX10_init_162 rfl ?_
  refine gc_I (L := 3) (ms := 604) (As := []) (rest := [.ref (E.ad 152), .int (nI 11), .ref (E.ad 74)]) (w' := (178, [(74, .inl (E.cy 3, 12, .inr (.inr (.inr (.inr (pfC E 11)))))), (0, .inr (9, [.ref (E.ad 1), .int 0, .int (-1), .ref (E.ad 2), .ref (E.ad 26), .ref (E.ad 50), .int 0, .ref (E.ad 74), .int 0, .int 0, .ref (E.ad 159), .ref (E.ad 160), .ref (E.ad 162), .ref (E.ad 164), .ref (E.ad 173)]))], tws [152, 145, 138, 131, 124, 117, 110, 103, 96, 89, 82, 75, 51, 27, 3])) h hRC.2 (Nat.le_of_ble_eq_true rfl) (Nat.le_of_ble_eq_true rfl) ik_X10_81 (cc_X7 hA 152 172 _ (tws [145, 138, 131, 124, 117, 110, 103, 96, 89, 82, 75, 51, 27, 3]) (past_t 11 (by decide)).1 (Nat.le_of_ble_eq_true rfl) (by decide) (fun j hj => (opL_tl (by omega)).trans (opL_tl (by omega))) (fun j hj => tws_c (fun t ht => by
    simp only [List.mem_cons, List.not_mem_nil, or_false] at ht
    omega))) (fitC hRC (by decide) (by decide) (Nat.le_of_ble_eq_true rfl) (Nat.le_of_ble_eq_true rfl)) rfl rfl (Nat.le_of_ble_eq_true rfl) dX10_init_163 ?_
  refine gc_aast (i := 11) (f' := pfC E 12) h hA (Nat.le_of_ble_eq_true rfl) (Nat.le_of_ble_eq_true rfl) ((ct_n rfl).trans (town_ct (t := 152) (past_t 11 (by decide)).1 (fun t ht => by
    simp only [List.mem_cons, List.not_mem_nil, or_false] at ht
    omega))) rfl (by decide) (by decide) (pf_s (past_t 11 (by decide)).2) dX10_init_166 ?_
  refine gc_iinc (v := nI 12) (ls' := [(0, .ref (E.ad 0)), (1, .int (nI 12))]) h dX10_init_167 rfl (by decide) (by decide) rfl rfl ?_
  refine gc_goto (tgt := 148) h dX10_init_170 (by decide) ?_
  refine gc_iload_n h dX10_init_148 rfl rfl ?_
  refine gc_bipush (v := nI 12) h dX10_init_149 (by decide) ?_
  refine gc_icmp_ge (tgt := 173) h dX10_init_151 (by decide) (fun _ => ?_) (fun q => absurd (by decide) q)
  refine gc_close rfl ?_ ?_
  · rw [pf_n, sh_74]
    rfl
  refine gc_close rfl ?_ ?_
  · have e : uZ 0 = fun j => if j = 2 then -1 else 0 := by
      funext j
      rw [uZ, if_neg (by decide)]
      by_cases hj : j = 2
      · rw [if_pos (by omega), if_pos hj]
      · rw [if_neg (by omega), if_neg hj]
    rw [tws_c (fun t ht => by
      simp only [List.mem_cons, List.not_mem_nil, or_false] at ht
      omega), e, sh_0]
    rfl
  exact gc_vret h hRC rfl hrt dX10_init_173 (Nat.le_of_ble_eq_true rfl)
