/-! exceptions, whole rows copied -/
def sc (u : Sto) (k : Nat) (f : Nat → Int32) : Sto := fun a => if a = k then f else u a
theorem sc_at (u : Sto) (k : Nat) (f : Nat → Int32) : sc u k f k = f := by simp [sc]
theorem sc_ne (u : Sto) {k a : Nat} (f : Nat → Int32) (h : a ≠ k) : sc u k f a = u a := by simp [sc, h]
theorem wsW_setC {sh : Nat → CD} {N : Nat} {cy : Nat → ClassId} {ad : Nat → Nat} {u : Sto} {k : Nat} {f : Nat → Int32} {x : va_E} (h : k < N) (hx : cellE cy ad (sh k) f = x) : (wsW sh N cy ad u).set k (ad k, x) = wsW sh N cy ad (sc u k f) := by
  subst hx
  apply List.ext_getElem?
  intro i
  rw [List.getElem?_set]
  by_cases hi : k = i
  · subst hi
    rw [if_pos rfl, wsW_get h, sc_at]
    simp [wsW, h]
  · rw [if_neg hi]
    by_cases hN : i < N
    · rw [wsW_get hN, wsW_get hN, sc_ne _ _ (fun q => hi q.symm)]
    · simp [wsW, hN]
def cpy (f g : Nat → Int32) (N : Nat) : Nat → Int32 := fun j => if j < N then f j else g j
section GX
variable {E : EE} {X : XX} {Q : State → Prop} {own : String} {cc : ByteArray} {nL n pc : Nat} {ls ls' : List (Nat × Value)} {st : List Value} {u : Sto}
theorem g_copy (h : CX E X own cc nL) (k0 k1 N : Nat) {idx : Nat} {rest : List Value} (hl1 : Cond.methodLink own idx arraycopyName ∈ TW) (hl2 : Cond.native arraycopyName ∈ TW) (hl3 : Cond.static arraycopyName ∈ TW) (hl4 : Cond.initialized "java/lang/System" ∈ TW) (hs0 : shp k0 = .inr (.inl (0, N))) (hs1 : shp k1 = .inr (.inl (0, N))) (hk0 : k0 < shN) (hk1 : k1 < shN) (hN : N < 2 ^ 31) (hR : 2 ≤ X.R.frames ∧ 80 ≤ X.R.locals) (hro : (rest.map fun v => v.category).sum ≤ 8) (hd : decode cc pc = .ok (.invokestatic idx, 3))
    (kk : G E X Q nL n (pc + 3) ls rest (sc u k1 (cpy (u k0) (u k1) N))) : G E X Q nL n pc ls (.int (nI N) :: .int 0 :: .ref (E.ad k1) :: .int 0 :: .ref (E.ad k0) :: rest) u := fun H locs ar hP hS hl => by
  have hw0 : (wsE E u)[k0]? = some (E.ad k0, .inl (E.cy 0, N, .inl (u k0))) := env_at (E := E) (v := u) hk0 hs0
  have hw1 : (wsE E u)[k1]? = some (E.ad k1, .inl (E.cy 0, N, .inl (u k1))) := env_at (E := E) (v := u) hk1 hs1
  have e : (nI N).toNatClampNeg = N := nI_clamp hN
  have e0 : (0 : Int32).toNatClampNeg = 0 := by decide
  have z1 : ¬ (0 : Int32) < 0 := by decide
  have z2 : (0 : Int32).toNatClampNeg + (nI N).toNatClampNeg ≤ N := by rw [e, e0, Nat.zero_add]; exact Nat.le_refl _
  have z3 : nativeFrameWords "java/lang/System" "arraycopy" 5 ≤ 60 := by decide +kernel
  refine va_copyi (sp := 0) (dp := 0) (n := nI N) (D := E.D) (cl := vwCl) (tys := tysE E) (ty := .int) h.1 h.2.1 (h.2.2.1.trans hl.1.symm) h.2.2.2.1 (env_w h hl1) (env_w h hl2) (env_w h hl3) (env_w h hl4) h.2.2.2.2.2.2.1 hP (envD h.2.2.2.2.2 u) hS k0 k1 0 0 hw0 hw1 rfl rfl rfl z1 z1 (nI_pos hN) z2 z2 (fun i _ => rfl) (by omega) (by omega) hd (fun H1 locs1 hP1 hD1 hS1 => ?_)
  rw [e, e0] at hP1
  have hf : va_cpy (u k0) (u k1) 0 0 N = cpy (u k0) (u k1) N := by
    funext j
    simp [va_cpy, cpy]
  rw [hf, wsW_setC (f := cpy (u k0) (u k1) N) hk1 (by rw [hs1]; rfl)] at hP1
  exact kk H1 locs1 ar hP1 hS1 hl
/-- 'throw new cls(text)' -/
def ThL (own cls text : String) (ik is ic k : Nat) (names : List String) : Prop := Bundle.fit cls = true ∧ (∀ q ∈ names, Bundle.fit q = true) ∧ Cond.classLink own ik cls ∈ TW ∧ Cond.initialized cls ∈ TW ∧ (own, is, text, k) ∈ strUse ∧ (∀ w ∈ vx_atS own ic cls names, w ∈ TW) ∧ (∀ w ∈ Cond.classLink own ik cls :: Cond.initialized cls :: vx_atS own ic cls names, vx_ot w = true)
theorem wsE_kept {H H1 : Heap} (hP : va_P E.D vwCl (wsE E u) H) (hq : ∀ q : Nat, q < H.size → H1[q]? = H[q]?) : va_P E.D vwCl (wsE E u) H1 := hP.kept (fun k q hk => hq q.1 (hP k q hk).lt)
theorem g_throw (h : CX E X own cc nL) {o : Res} {u' : Sto} {mc : Nat} {cls text : String} {ik is ic k : Nat} {names : List String} (hT : ThL own cls text ik is ic k names)
    (d0 : decode cc pc = .ok (.new ik, 3)) (d3 : decode cc (pc + 3) = .ok (.dup, 1)) (d4 : decode cc (pc + 4) = .ok (.ldc is, 2)) (d6 : decode cc (pc + 6) = .ok (.invokespecial ic, 3)) (d9 : decode cc (pc + 9) = .ok (.athrow, 1))
    (htab : ∀ x ∈ X.c.exceptionTable.toList, False) (hF : names.length + 3 < X.R.frames) (hL : (st.map fun v => v.category).sum + (13 * (names.length + 1) + 43) ≤ X.R.locals) (hC : n + 1 ≤ X.R.cells) (hSl : 6 * n + 6 ≤ X.R.slots) (hn : n + 1 ≤ mc) (ho : o = .inr cls) (hu : u' = u) : G E X (QM E X o u' mc) nL n pc ls st u := fun H locs ar hP hS hl => by
  subst ho; subst hu
  obtain ⟨t1, t2, t3, t4, t5, t6, t7⟩ := hT
  obtain ⟨-, -, -, -, -, e6, -, e8, e9, e10, -⟩ := id h.2.2.2.2.2
  exact vx_throwS h.1 h.2.1 e6 h.2.2.2.1 t1 t2 (env_w h t3) (env_w h t4) (e8 _ t5) (fun w hw => env_w h (t6 w hw)) t7 e9 e10 hS (hl.1.trans h.2.2.1.symm) d0 d3 d4 d6 d9 (fun x hx => (htab x hx).elim) hF hL hC hSl h.2.2.2.2.1
    (fun t ha hz hq => ⟨rfl, wsE_kept hP hq, ⟨Nat.le_trans hS.1 hz, fun q h1 h2 => by rw [hq q (Nat.lt_of_lt_of_le h1 hS.1)]; exact hS.2.1 q h1 h2⟩⟩) hS.2.2 hn (by omega)
theorem g_runX {o : Res} {u' u2 : Sto} {mc mx : Nat} {Ex : String} {rest st0 : List Value} {a : Array Value} (h : CX E X own cc nL) (htab : ∀ x ∈ X.c.exceptionTable.toList, False) (hr : ∀ (H : Heap) (locs : List Loc) (ar : Array Slot), va_P E.D vwCl (wsE E u) H → va_S (A0 E) X.s.heap H locs → lv_has ar nL ls → vx_Run X.p E.l X.e X.R X.s X.m X.args X.below X.meth X.c H locs n (6 * n) mc (6 * mc) (F0 X.m pc ar st0) rest (QcO E (.inr Ex) u2 a) (XcO E (.inr Ex) u2) (A0 E))
    (hn : n + mc ≤ mx) (ho : o = .inr Ex) (hu : u' = u2) : G E X (QM E X o u' mx) nL n pc ls st0 u := by
  subst ho; subst hu
  intro H locs ar hP hS hl T hT XT
  rcases hr H locs ar hP hS hl T hT XT with ⟨v, st₀, t, T', L, h0, X', hL, e1, e2, ⟨v2, hv, -⟩, -⟩ | ⟨q, st₀, t, T', L, Ex2, ce, h0, X', hL, e1, e2, ⟨hx, hw, hF⟩, hce, hcv, hcl, stp⟩
  · cases hv
  · cases hx
    obtain ⟨k1, k2, k3⟩ := vx_keep h0 e1 hS (fun _ _ h => h) (fun _ h => h) hL hF
    obtain ⟨t2, a1, b1⟩ := vx_out (p := X.p) (l := E.l) (e := X.e) (R := X.R) (s := X.s) (m := X.m) (args := X.args) (below := X.below) (meth := X.meth) (c := X.c) (H := T'.heap) (locs := locs ++ L) (cells := n + mc) (slots := 6 * n + 6 * mc) (free := A0 E) (ls := ar) (rest := rest) (Qc := QcO E (.inr Ex) u') (XC := XcO E (.inr Ex) u') (pc := pc) (E := Ex) (ce := ce) (q := q) (mc := mx) (ms := 6 * mx) (fun x hx => (htab x hx).elim) h.2.2.2.2.1 (by rw [e1]; exact hce) hcv hcl (fun t9 ht9 _ => ⟨rfl, by rw [ht9, e1]; exact hw, k3.F ht9⟩) k3.2.2 hn (by omega) T' rfl X'
    exact ⟨t2, stp.trans a1, b1⟩
set_option maxHeartbeats 1000000 in
theorem g_VX (h : CX E X own cc nL) {o : Res} {u' u2 : Sto} {L mc mx k ci idx na nc : Nat} {C Ex : String} {sl : List (Option Nat)} {y : MethodName} {cb : ByteArray} {ret : Option FieldType} {As rest : List Value} (hlk : LkV own idx C y na cb nc ret) (hpl : Cond.selects C y y ∈ TW ∧ Cond.methodLink own idx y ∈ TW) (hs : shp k = .inl (ci, sl)) (hk : k < shN) (hcl : (vwCl[ci]?).map (fun q => q.1) = some C)
    (hc : Ct E L mc y cb nc ret (.ref (E.ad k) :: As) u (.inr Ex) u2) (hf : FitR X.R L nc n mc) (hst : st = As.reverse ++ .ref (E.ad k) :: rest) (hna : As.length = na) (hro : (rest.map fun v => v.category).sum ≤ 8) (hd : decode cc pc = .ok (.invokevirtual idx, 3)) (htab : ∀ x ∈ X.c.exceptionTable.toList, False)
    (hn : n + mc ≤ mx) (ho : o = .inr Ex) (hu : u' = u2) : G E X (QM E X o u' mx) nL n pc ls st u := by
  subst hst
  obtain ⟨w1, w2, w3, w4, w5, -⟩ := hlk
  obtain ⟨f1, f2, f3, f4⟩ := hf
  have hlen : ∀ sig, parseMethodDescriptor y.desc = some sig → na = sig.parameters.length := fun sig hsig => by rw [hsig] at w5; exact (Option.some.inj w5).symm
  have hws : ∀ w ∈ [Cond.code y cb nc ret], ∀ (a' : Array Value) (U : State), X.s.WarmedH U.vm → w.before a' U = true := fun w hw a' U hW => by
    rcases List.mem_cons.mp hw with rfl | hw
    · exact stable_of (List.mem_filter.mp w1).2 hW (env_w h w1 (a := #[]))
    · cases hw
  refine g_runX (mc := mc) (rest := rest) (a := (Value.ref (E.ad k) :: As).toArray) h htab (fun H locs ar hP hS hl => ?_) hn ho hu
  have hp : PreV X.s H C (E.ad k) (va_Pc (.ref (E.ad k) :: As) (fun U => WOK E u U)) As := ⟨wok_blind, env_recv h hs hk hcl hP, fun U hU hW => ⟨rfl, wok_end h.2.2.2.2.2 hP hS hU hW⟩⟩
  exact vx_runV (Ts := TW) ⟨h.1, h.2.1, h.2.2.1, h.2.2.2.1, env_ws h⟩ hc ⟨⟨rfl, rfl, f1, f2, hws, List.mem_cons_self, env_w h w1, env_w h w3, w4, hlen, env_w h hpl.2⟩, env_w h w2, env_w h hpl.1⟩ hp rfl hna hl.1 rfl (lv_room hro) hd ⟨f3, f4⟩
set_option maxHeartbeats 1000000 in
theorem g_SX (h : CX E X own cc nL) {o : Res} {u' u2 : Sto} {L mc mx idx na nc : Nat} {Ex : String} {y : MethodName} {cb : ByteArray} {ret : Option FieldType} {As rest : List Value} (hlk : LkS own idx y na cb nc ret) (hpl : Cond.methodLink own idx y ∈ TW)
    (hc : Ct E L mc y cb nc ret As u (.inr Ex) u2) (hf : FitR X.R L nc n mc) (hst : st = As.reverse ++ rest) (hna : As.length = na) (hro : (rest.map fun v => v.category).sum ≤ 8) (hd : decode cc pc = .ok (.invokestatic idx, 3)) (htab : ∀ x ∈ X.c.exceptionTable.toList, False)
    (hn : n + mc ≤ mx) (ho : o = .inr Ex) (hu : u' = u2) : G E X (QM E X o u' mx) nL n pc ls st u := by
  subst hst
  obtain ⟨w1, w2, w3, w4, w5, -⟩ := hlk
  obtain ⟨f1, f2, f3, f4⟩ := hf
  have hlen : ∀ sig, parseMethodDescriptor y.desc = some sig → na = sig.parameters.length := fun sig hsig => by rw [hsig] at w5; exact (Option.some.inj w5).symm
  have hws : ∀ w ∈ [Cond.code y cb nc ret], ∀ (a' : Array Value) (U : State), X.s.WarmedH U.vm → w.before a' U = true := fun w hw a' U hW => by
    rcases List.mem_cons.mp hw with rfl | hw
    · exact stable_of (List.mem_filter.mp w1).2 hW (env_w h w1 (a := #[]))
    · cases hw
  refine g_runX (mc := mc) (rest := rest) (a := As.toArray) h htab (fun H locs ar hP hS hl => ?_) hn ho hu
  have hp : PreS X.s H (va_Pc As (fun U => WOK E u U)) As := ⟨wok_blind, fun U hU hW => ⟨rfl, wok_end h.2.2.2.2.2 hP hS hU hW⟩⟩
  exact vx_runS (Ts := TW) ⟨h.1, h.2.1, h.2.2.1, h.2.2.2.1, env_ws h⟩ hc ⟨⟨rfl, rfl, f1, f2, hws, List.mem_cons_self, env_w h w1, env_w h w3, w4, hlen, env_w h hpl⟩, env_w h w2⟩ hp rfl hna hl.1 rfl (lv_room hro) hd ⟨f3, f4⟩
end GX
