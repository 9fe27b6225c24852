theorem g_throwP {E : EE} {X : XX} {own : String} {cc : ByteArray} {nL n pc : Nat} {ls : List (Nat × Value)} {st : List Value} {u : Sto} {P : Res → Sto → Prop} (h : CX E X own cc nL) {mc : Nat} {cls text : String} {ik is ic k : Nat} {names : List String} (hT : ThL own cls text ik is ic k names)
    (d0 : decode cc pc = .ok (.new ik, 3)) (d3 : decode cc (pc + 3) = .ok (.dup, 1)) (d4 : decode cc (pc + 4) = .ok (.ldc is, 2)) (d6 : decode cc (pc + 6) = .ok (.invokespecial ic, 3)) (d9 : decode cc (pc + 9) = .ok (.athrow, 1))
    (htab : ∀ x ∈ X.c.exceptionTable.toList, False) (hF : names.length + 3 < X.R.frames) (hL : (st.map fun v => v.category).sum + (13 * (names.length + 1) + 43) ≤ X.R.locals) (hC : n + 1 ≤ X.R.cells) (hSl : 6 * n + 6 ≤ X.R.slots) (hn : n + 1 ≤ mc) (ho : P (.inr cls) u) : G E X (QMP E X P mc) nL n pc ls st u := fun H locs ar hP hS hl => by
  obtain ⟨t1, t2, t3, t4, t5, t6, t7⟩ := hT
  obtain ⟨-, -, -, -, -, e6, -, e8, e9, e10, -⟩ := id h.2.2.2.2.2
  exact vx_throwS h.1 h.2.1 e6 h.2.2.2.1 t1 t2 (env_w h t3) (env_w h t4) (e8 _ t5) (fun w hw => env_w h (t6 w hw)) t7 e9 e10 hS (hl.1.trans h.2.2.1.symm) d0 d3 d4 d6 d9 (fun x hx => (htab x hx).elim) hF hL hC hSl h.2.2.2.2.1
    (fun t ha hz hq => ⟨u, ho, wsE_kept hP hq, ⟨Nat.le_trans hS.1 hz, fun q h1 h2 => by rw [hq q (Nat.lt_of_lt_of_le h1 hS.1)]; exact hS.2.1 q h1 h2⟩⟩) hS.2.2 hn (by omega)
theorem g_runXP {E : EE} {X : XX} {own : String} {cc : ByteArray} {nL n pc : Nat} {ls : List (Nat × Value)} {u u2 : Sto} {P : Res → Sto → Prop} {mc mx : Nat} {Ex : String} {rest st0 : List Value} {a : Array Value} (h : CX E X own cc nL) (htab : ∀ x ∈ X.c.exceptionTable.toList, False) (hr : ∀ (H : Heap) (locs : List Loc) (ar : Array Slot), va_P E.D vwCl (wsE E u) H → va_S (A0 E) X.s.heap H locs → lv_has ar nL ls → vx_Run X.p E.l X.e X.R X.s X.m X.args X.below X.meth X.c H locs n (6 * n) mc (6 * mc) (F0 X.m pc ar st0) rest (QcO E (.inr Ex) u2 a) (XcO E (.inr Ex) u2) (A0 E))
    (hn : n + mc ≤ mx) (ho : P (.inr Ex) u2) : G E X (QMP E X P mx) nL n pc ls st0 u := by
  intro H locs ar hP hS hl T hT XT
  rcases hr H locs ar hP hS hl T hT XT with ⟨v, st₀, t, T', L, h0, X', hL, e1, e2, ⟨v2, hv, -⟩, -⟩ | ⟨q, st₀, t, T', L, Ex2, ce, h0, X', hL, e1, e2, ⟨hx, hw, hF⟩, hce, hcv, hcl, stp⟩
  · cases hv
  · cases hx
    obtain ⟨k1, k2, k3⟩ := vx_keep h0 e1 hS (fun _ _ h => h) (fun _ h => h) hL hF
    obtain ⟨t2, a1, b1⟩ := vx_out (p := X.p) (l := E.l) (e := X.e) (R := X.R) (s := X.s) (m := X.m) (args := X.args) (below := X.below) (meth := X.meth) (c := X.c) (H := T'.heap) (locs := locs ++ L) (cells := n + mc) (slots := 6 * n + 6 * mc) (free := A0 E) (ls := ar) (rest := rest) (Qc := QcP E P) (XC := XcP E P) (pc := pc) (E := Ex) (ce := ce) (q := q) (mc := mx) (ms := 6 * mx) (fun x hx => (htab x hx).elim) h.2.2.2.2.1 (by rw [e1]; exact hce) hcv hcl (fun t9 ht9 _ => ⟨u2, ho, by rw [ht9, e1]; exact hw, k3.F ht9⟩) k3.2.2 hn (by omega) T' rfl X'
    exact ⟨t2, stp.trans a1, b1⟩
section GXP
variable {E : EE} {X : XX} {own : String} {cc : ByteArray} {nL n pc : Nat} {ls ls' : List (Nat × Value)} {st : List Value} {u : Sto} {P : Res → Sto → Prop}
set_option maxHeartbeats 1000000 in
theorem g_VXP (h : CX E X own cc nL) {u2 : Sto} {L mc mx k ci idx na nc : Nat} {C Ex : String} {sl : List (Option Nat)} {y : MethodName} {cb : ByteArray} {ret : Option FieldType} {As rest : List Value} (hlk : LkV own idx C y na cb nc ret) (hpl : Cond.selects C y y ∈ TW ∧ Cond.methodLink own idx y ∈ TW) (hs : shp k = .inl (ci, sl)) (hk : k < shN) (hcl : (vwCl[ci]?).map (fun q => q.1) = some C)
    (hc : Ct E L mc y cb nc ret (.ref (E.ad k) :: As) u (.inr Ex) u2) (hf : FitR X.R L nc n mc) (hst : st = As.reverse ++ .ref (E.ad k) :: rest) (hna : As.length = na) (hro : (rest.map fun v => v.category).sum ≤ 8) (hd : decode cc pc = .ok (.invokevirtual idx, 3)) (htab : ∀ x ∈ X.c.exceptionTable.toList, False)
    (hn : n + mc ≤ mx) (ho : P (.inr Ex) u2) : G E X (QMP E X P mx) nL n pc ls st u := by
  subst hst
  obtain ⟨w1, w2, w3, w4, w5, -⟩ := hlk
  obtain ⟨f1, f2, f3, f4⟩ := hf
  have hlen : ∀ sig, parseMethodDescriptor y.desc = some sig → na = sig.parameters.length := fun sig hsig => by rw [hsig] at w5; exact (Option.some.inj w5).symm
  have hws : ∀ w ∈ [Cond.code y cb nc ret], ∀ (a' : Array Value) (U : State), X.s.WarmedH U.vm → w.before a' U = true := fun w hw a' U hW => by
    rcases List.mem_cons.mp hw with rfl | hw
    · exact stable_of (List.mem_filter.mp w1).2 hW (env_w h w1 (a := #[]))
    · cases hw
  refine g_runXP (mc := mc) (rest := rest) (a := (Value.ref (E.ad k) :: As).toArray) h htab (fun H locs ar hP hS hl => ?_) hn ho
  have hp : PreV X.s H C (E.ad k) (va_Pc (.ref (E.ad k) :: As) (fun U => WOK E u U)) As := ⟨wok_blind, env_recv h hs hk hcl hP, fun U hU hW => ⟨rfl, wok_end h.2.2.2.2.2 hP hS hU hW⟩⟩
  exact vx_runV (Ts := TW) ⟨h.1, h.2.1, h.2.2.1, h.2.2.2.1, env_ws h⟩ hc ⟨⟨rfl, rfl, f1, f2, hws, List.mem_cons_self, env_w h w1, env_w h w3, w4, hlen, env_w h hpl.2⟩, env_w h w2, env_w h hpl.1⟩ hp rfl hna hl.1 rfl (lv_room hro) hd ⟨f3, f4⟩
set_option maxHeartbeats 1000000 in
theorem g_SXP (h : CX E X own cc nL) {u2 : Sto} {L mc mx idx na nc : Nat} {Ex : String} {y : MethodName} {cb : ByteArray} {ret : Option FieldType} {As rest : List Value} (hlk : LkS own idx y na cb nc ret) (hpl : Cond.methodLink own idx y ∈ TW)
    (hc : Ct E L mc y cb nc ret As u (.inr Ex) u2) (hf : FitR X.R L nc n mc) (hst : st = As.reverse ++ rest) (hna : As.length = na) (hro : (rest.map fun v => v.category).sum ≤ 8) (hd : decode cc pc = .ok (.invokestatic idx, 3)) (htab : ∀ x ∈ X.c.exceptionTable.toList, False)
    (hn : n + mc ≤ mx) (ho : P (.inr Ex) u2) : G E X (QMP E X P mx) nL n pc ls st u := by
  subst hst
  obtain ⟨w1, w2, w3, w4, w5, -⟩ := hlk
  obtain ⟨f1, f2, f3, f4⟩ := hf
  have hlen : ∀ sig, parseMethodDescriptor y.desc = some sig → na = sig.parameters.length := fun sig hsig => by rw [hsig] at w5; exact (Option.some.inj w5).symm
  have hws : ∀ w ∈ [Cond.code y cb nc ret], ∀ (a' : Array Value) (U : State), X.s.WarmedH U.vm → w.before a' U = true := fun w hw a' U hW => by
    rcases List.mem_cons.mp hw with rfl | hw
    · exact stable_of (List.mem_filter.mp w1).2 hW (env_w h w1 (a := #[]))
    · cases hw
  refine g_runXP (mc := mc) (rest := rest) (a := As.toArray) h htab (fun H locs ar hP hS hl => ?_) hn ho
  have hp : PreS X.s H (va_Pc As (fun U => WOK E u U)) As := ⟨wok_blind, fun U hU hW => ⟨rfl, wok_end h.2.2.2.2.2 hP hS hU hW⟩⟩
  exact vx_runS (Ts := TW) ⟨h.1, h.2.1, h.2.2.1, h.2.2.2.1, env_ws h⟩ hc ⟨⟨rfl, rfl, f1, f2, hws, List.mem_cons_self, env_w h w1, env_w h w3, w4, hlen, env_w h hpl⟩, env_w h w2⟩ hp rfl hna hl.1 rfl (lv_room hro) hd ⟨f3, f4⟩
end GXP
def ioob : String := "java/lang/IndexOutOfBoundsException"
def iae : String := "java/lang/IllegalArgumentException"
def ise : String := "java/lang/IllegalStateException"
def nsee : String := "java/util/NoSuchElementException"
def uoe : String := "java/lang/UnsupportedOperationException"
set_option maxHeartbeats 1000000 in
theorem c_X10_needTenant_ok {E : EE} (T : Nat) (hT9 : T ≤ 10) (x : Int32) (u : Sto) (hT : u 10 8 = nI T) (hc : ¬ x < 0 ∧ x < nI T) : Ct E 2 0 yX10_needTenant cX10_needTenant 2 none [.ref (E.ad 0), .int x] u (.inl none) (u) := by
  refine ct_of (by decide) (Nat.le_of_ble_eq_true rfl) (fun X h hR hrt htab hargs hini => ?_)
  refine g_iload_n h dX10_needTenant_0 rfl rfl ?_
  refine g_if_lt (tgt := 18) h dX10_needTenant_1 (by decide) (fun c1 => ?_) (fun c1 => ?_)
  · exact absurd c1 hc.1
  · refine g_iload_n h dX10_needTenant_4 rfl rfl ?_
    refine g_aload_n h dX10_needTenant_5 rfl rfl ?_
    refine g_getR h fl_X10_20_9 sh_0 (by decide) rfl dX10_needTenant_6 ?_
    refine g_getR h fl_X10_97_8 sh_2 (by decide) rfl dX10_needTenant_9 ?_
    refine g_getI h fl_X10_340_4 sh_10 (by decide) rfl dX10_needTenant_12 ?_
    refine g_top hT ?_
    refine g_icmp_lt (tgt := 29) h dX10_needTenant_15 (by decide) (fun c15 => ?_) (fun c15 => ?_)
    · exact g_vret h hrt dX10_needTenant_29 (by omega) rfl rfl
    · exact absurd hc.2 c15
set_option maxHeartbeats 1000000 in
theorem c_X10_needRoom_ok {E : EE} (x : Int32) (u : Sto) (hc : ¬ x < 0 ∧ ¬ nI 168 ≤ x) : Ct E 2 0 yX10_needRoom cX10_needRoom 1 none [.int x] u (.inl none) (u) := by
  refine ct_of (by decide) (Nat.le_of_ble_eq_true rfl) (fun X h hR hrt htab hargs hini => ?_)
  refine g_iload_n h dX10_needRoom_0 rfl rfl ?_
  refine g_S h ls_X10_408 (c_X10_isRoom _ _) (fitR hR (by decide) (by decide) (by omega)) rfl rfl (Nat.le_of_ble_eq_true rfl) dX10_needRoom_1 ?_
  refine g_if_ne (tgt := 18) h dX10_needRoom_4 (by decide) (fun c4 => ?_) (fun c4 => ?_)
  · exact g_vret h hrt dX10_needRoom_18 (by omega) rfl rfl
  · exact absurd hc (b2_0.mp c4)
set_option maxHeartbeats 1000000 in
theorem c_X10_needNumber_ok {E : EE} (x a b : Int32) (u : Sto) (hc : ¬ x < a ∧ x ≤ b) : Ct E 2 0 yX10_needNumber cX10_needNumber 3 none [.int x, .int a, .int b] u (.inl none) (u) := by
  refine ct_of (by decide) (Nat.le_of_ble_eq_true rfl) (fun X h hR hrt htab hargs hini => ?_)
  refine g_iload_n h dX10_needNumber_0 rfl rfl ?_
  refine g_iload_n h dX10_needNumber_1 rfl rfl ?_
  refine g_icmp_lt (tgt := 10) h dX10_needNumber_2 (by decide) (fun c2 => ?_) (fun c2 => ?_)
  · exact absurd c2 hc.1
  · refine g_iload_n h dX10_needNumber_5 rfl rfl ?_
    refine g_iload_n h dX10_needNumber_6 rfl rfl ?_
    refine g_icmp_le (tgt := 21) h dX10_needNumber_7 (by decide) (fun c7 => ?_) (fun c7 => ?_)
    · exact g_vret h hrt dX10_needNumber_21 (by omega) rfl rfl
    · exact absurd hc.2 c7
set_option maxHeartbeats 1000000 in
theorem c_X10_needTwo_ok {E : EE} (x y : Int32) (u : Sto) (hc : ¬ x = y) : Ct E 2 0 yX10_needTwo cX10_needTwo 2 none [.int x, .int y] u (.inl none) (u) := by
  refine ct_of (by decide) (Nat.le_of_ble_eq_true rfl) (fun X h hR hrt htab hargs hini => ?_)
  refine g_iload_n h dX10_needTwo_0 rfl rfl ?_
  refine g_iload_n h dX10_needTwo_1 rfl rfl ?_
  refine g_icmp_ne (tgt := 16) h dX10_needTwo_2 (by decide) (fun c2 => ?_) (fun c2 => ?_)
  · exact g_vret h hrt dX10_needTwo_16 (by omega) rfl rfl
  · exact absurd c2 hc
set_option maxHeartbeats 1000000 in
theorem c_X10_needAllowed_ok {E : EE} (x : Int32) (u : Sto) (hc : ¬ x = 0) : Ct E 2 0 yX10_needAllowed cX10_needAllowed 1 none [.int x] u (.inl none) (u) := by
  refine ct_of (by decide) (Nat.le_of_ble_eq_true rfl) (fun X h hR hrt htab hargs hini => ?_)
  refine g_iload_n h dX10_needAllowed_0 rfl rfl ?_
  refine g_if_ne (tgt := 15) h dX10_needAllowed_1 (by decide) (fun c1 => ?_) (fun c1 => ?_)
  · exact g_vret h hrt dX10_needAllowed_15 (by omega) rfl rfl
  · exact absurd c1 hc
set_option maxHeartbeats 1000000 in
theorem c_X10_needTenant_x {E : EE} (T : Nat) (hT9 : T ≤ 10) (x : Int32) (u : Sto) (hT : u 10 8 = nI T) (hc : ¬ (¬ x < 0 ∧ x < nI T)) : Ct E 8 1 yX10_needTenant cX10_needTenant 2 none [.ref (E.ad 0), .int x] u (.inr ioob) (u) := by
  refine ct_of (by decide) (Nat.le_of_ble_eq_true rfl) (fun X h hR hrt htab hargs hini => ?_)
  refine g_iload_n h dX10_needTenant_0 rfl rfl ?_
  refine g_if_lt (tgt := 18) h dX10_needTenant_1 (by decide) (fun c1 => ?_) (fun c1 => ?_)
  · exact g_throwW h th_X10_405_407 dX10_needTenant_18 dX10_needTenant_21 dX10_needTenant_22 dX10_needTenant_25 dX10_needTenant_28 htab (by rw [hR]; decide) (by rw [hR]; decide) (by rw [hR]; decide) (by rw [hR]; decide) (by omega) rfl rfl
  · refine g_iload_n h dX10_needTenant_4 rfl rfl ?_
    refine g_aload_n h dX10_needTenant_5 rfl rfl ?_
    refine g_getR h fl_X10_20_9 sh_0 (by decide) rfl dX10_needTenant_6 ?_
    refine g_getR h fl_X10_97_8 sh_2 (by decide) rfl dX10_needTenant_9 ?_
    refine g_getI h fl_X10_340_4 sh_10 (by decide) rfl dX10_needTenant_12 ?_
    refine g_top hT ?_
    refine g_icmp_lt (tgt := 29) h dX10_needTenant_15 (by decide) (fun c15 => ?_) (fun c15 => ?_)
    · exact absurd ⟨c1, c15⟩ hc
    · exact g_throwW h th_X10_405_407 dX10_needTenant_18 dX10_needTenant_21 dX10_needTenant_22 dX10_needTenant_25 dX10_needTenant_28 htab (by rw [hR]; decide) (by rw [hR]; decide) (by rw [hR]; decide) (by rw [hR]; decide) (by omega) rfl rfl
set_option maxHeartbeats 1000000 in
theorem c_X10_needRoom_x {E : EE} (x : Int32) (u : Sto) (hc : ¬ (¬ x < 0 ∧ ¬ nI 168 ≤ x)) : Ct E 8 1 yX10_needRoom cX10_needRoom 1 none [.int x] u (.inr ioob) (u) := by
  refine ct_of (by decide) (Nat.le_of_ble_eq_true rfl) (fun X h hR hrt htab hargs hini => ?_)
  refine g_iload_n h dX10_needRoom_0 rfl rfl ?_
  refine g_S h ls_X10_408 (c_X10_isRoom _ _) (fitR hR (by decide) (by decide) (by omega)) rfl rfl (Nat.le_of_ble_eq_true rfl) dX10_needRoom_1 ?_
  refine g_if_ne (tgt := 18) h dX10_needRoom_4 (by decide) (fun c4 => ?_) (fun c4 => ?_)
  · exact absurd (b2_n0.mp c4) hc
  · exact g_throwW h th_X10_411_407 dX10_needRoom_7 dX10_needRoom_10 dX10_needRoom_11 dX10_needRoom_14 dX10_needRoom_17 htab (by rw [hR]; decide) (by rw [hR]; decide) (by rw [hR]; decide) (by rw [hR]; decide) (by omega) rfl rfl
set_option maxHeartbeats 1000000 in
theorem c_X10_needNumber_x {E : EE} (x a b : Int32) (u : Sto) (hc : ¬ (¬ x < a ∧ x ≤ b)) : Ct E 8 1 yX10_needNumber cX10_needNumber 3 none [.int x, .int a, .int b] u (.inr iae) (u) := by
  refine ct_of (by decide) (Nat.le_of_ble_eq_true rfl) (fun X h hR hrt htab hargs hini => ?_)
  refine g_iload_n h dX10_needNumber_0 rfl rfl ?_
  refine g_iload_n h dX10_needNumber_1 rfl rfl ?_
  refine g_icmp_lt (tgt := 10) h dX10_needNumber_2 (by decide) (fun c2 => ?_) (fun c2 => ?_)
  · exact g_throwW h th_X10_413_118 dX10_needNumber_10 dX10_needNumber_13 dX10_needNumber_14 dX10_needNumber_17 dX10_needNumber_20 htab (by rw [hR]; decide) (by rw [hR]; decide) (by rw [hR]; decide) (by rw [hR]; decide) (by omega) rfl rfl
  · refine g_iload_n h dX10_needNumber_5 rfl rfl ?_
    refine g_iload_n h dX10_needNumber_6 rfl rfl ?_
    refine g_icmp_le (tgt := 21) h dX10_needNumber_7 (by decide) (fun c7 => ?_) (fun c7 => ?_)
    · exact absurd ⟨c2, c7⟩ hc
    · exact g_throwW h th_X10_413_118 dX10_needNumber_10 dX10_needNumber_13 dX10_needNumber_14 dX10_needNumber_17 dX10_needNumber_20 htab (by rw [hR]; decide) (by rw [hR]; decide) (by rw [hR]; decide) (by rw [hR]; decide) (by omega) rfl rfl
set_option maxHeartbeats 1000000 in
theorem c_X10_needTwo_x {E : EE} (x y : Int32) (u : Sto) (hc : x = y) : Ct E 8 1 yX10_needTwo cX10_needTwo 2 none [.int x, .int y] u (.inr iae) (u) := by
  refine ct_of (by decide) (Nat.le_of_ble_eq_true rfl) (fun X h hR hrt htab hargs hini => ?_)
  refine g_iload_n h dX10_needTwo_0 rfl rfl ?_
  refine g_iload_n h dX10_needTwo_1 rfl rfl ?_
  refine g_icmp_ne (tgt := 16) h dX10_needTwo_2 (by decide) (fun c2 => ?_) (fun c2 => ?_)
  · exact absurd hc c2
  · exact g_throwW h th_X10_415_118 dX10_needTwo_5 dX10_needTwo_8 dX10_needTwo_9 dX10_needTwo_12 dX10_needTwo_15 htab (by rw [hR]; decide) (by rw [hR]; decide) (by rw [hR]; decide) (by rw [hR]; decide) (by omega) rfl rfl
set_option maxHeartbeats 1000000 in
theorem c_X10_needAllowed_x {E : EE} (x : Int32) (u : Sto) (hc : x = 0) : Ct E 8 1 yX10_needAllowed cX10_needAllowed 1 none [.int x] u (.inr ise) (u) := by
  refine ct_of (by decide) (Nat.le_of_ble_eq_true rfl) (fun X h hR hrt htab hargs hini => ?_)
  refine g_iload_n h dX10_needAllowed_0 rfl rfl ?_
  refine g_if_ne (tgt := 15) h dX10_needAllowed_1 (by decide) (fun c1 => ?_) (fun c1 => ?_)
  · exact absurd hc c1
  · exact g_throwW h th_X10_419_421 dX10_needAllowed_4 dX10_needAllowed_7 dX10_needAllowed_8 dX10_needAllowed_11 dX10_needAllowed_14 htab (by rw [hR]; decide) (by rw [hR]; decide) (by rw [hR]; decide) (by rw [hR]; decide) (by omega) rfl rfl
