-- after: b0.ca
/-- the kinds that are thrown: none is another -/
def exL : List String := [iae, uoe, nsee, ioob, ise]
def NcOK (U : State) : Prop := ∀ a ∈ exL, ∀ b ∈ exL, a ≠ b → va_Nc a b U
theorem NcOK.moved {s U : State} (h : NcOK s) (ha : s.vm.Alike U.vm) : NcOK U := fun a x b y z => va_Nc.moved ha (h a x b y z)
/-- a contract of a method that has handlers -/
def CtW (E : EE) (L mc : Nat) (y : MethodName) (cc : ByteArray) (nL : Nat) (ret : Option FieldType) (hh : List (Nat × Nat × Nat × Nat)) (as : List Value) (u : Sto) (P : Res → Sto → Prop) : Prop :=
  vx_Met E.l y [.codeWith y cc nL ret hh] (rmL L mc) (va_Pc as (fun U => WOK E u U ∧ NcOK U)) (QcP E P) (XcP E P) mc (6 * mc) (A0 E)
theorem ctw_of {E : EE} {L mc : Nat} {y : MethodName} {cc : ByteArray} {nL : Nat} {ret : Option FieldType} {hh : List (Nat × Nat × Nat × Nat)} {as : List Value} {u : Sto} {P : Res → Sto → Prop} (hy : plainName y.cls = true) (hn : (lg_sl as).length ≤ nL)
    (body : ∀ X : XX, CX E X y.cls cc nL → X.R = rmL L mc → X.meth.sig.returnType = ret → X.c.exceptionTable.toList = tableOf hh → NcOK X.s → G E X (QMP E X P mc) nL 0 0 (lv_args 0 as) [] u) : CtW E L mc y cc nL ret hh as u P := by
  refine MetFree.of_bodyS (code := cc) (maxLocals := nL) (ret := ret) hy ?_ ?_
  · intro args s m h hm
    obtain ⟨m9, meth, c, hn9, h1, h2, h3, h4, _, h5, h6, _⟩ := Cond.codeWith_spec (atoms_spec (ws := [Cond.codeWith y cc nL ret hh]) h _ List.mem_cons_self)
    cases Option.some.inj (hn9.symm.trans hm)
    exact ⟨meth, c, h1, h2, h3, h4, h5, h6⟩
  · intro p e s m args below meth c s₁ B hml hP _
    have hh0 : s₁.heap = s.heap := by rw [B.state]; rfl
    have ht : c.exceptionTable.toList = tableOf hh := vx_table (x := y) (y := y) B (atoms_spec (ws := [Cond.codeWith y cc nL ret hh]) B.pre _ List.mem_cons_self)
    obtain ⟨rfl, ⟨hE, hPw⟩, hNc⟩ := hP
    have hl := lv_entry as (n := nL) hn
    have K := body (p, e, (rmL L mc), s, m, as.toArray, below, meth, c) ⟨B.exec, B.bytes, hml, findClass_of_methodNamed B.named, B.notSynchronized, hE⟩ rfl B.returns ht hNc s.heap [] _ hPw va_S.rf hl
    rw [← lg_entry_eq] at K
    obtain ⟨t, a1, o, b1, b2, b3⟩ := K s₁ hh0 (Stand.of_body B)
    exact ⟨t, o, a1, b1, b2, b3⟩
theorem ctw_met {E : EE} {L mc : Nat} {y : MethodName} {cc : ByteArray} {nL : Nat} {ret : Option FieldType} {hh : List (Nat × Nat × Nat × Nat)} {as : List Value} {u : Sto} {P : Res → Sto → Prop} (hc : CtW E L mc y cc nL ret hh as u P) (hx : ∀ Ex u', ¬ P (.inr Ex) u') : Met E.l y [.codeWith y cc nL ret hh] (rmL L mc) (va_Pc as (fun U => WOK E u U ∧ NcOK U)) (QcP E P) mc (6 * mc) (A0 E) := by
  intro p e ha hcas hk s m args below hf happ hP hK
  obtain ⟨n, o, h1, h2, h3, h4⟩ := hc p e ha hcas hk s m args below hf happ hP hK
  refine ⟨n, o, h1, h2, h3, ?_⟩
  rcases h4 with h | ⟨q, -, Ex, ce, L9, ⟨u', h, -⟩, -⟩
  · exact h
  · exact absurd h (hx _ _)
theorem wok_blindN {E : EE} {as : List Value} {u : Sto} : FrameBlind (va_Pc as (fun U => WOK E u U ∧ NcOK U)) := by
  intro a U g mk q
  obtain ⟨q0, ⟨q1, q2⟩, q3⟩ := q
  exact ⟨q0, ⟨q1.moved (State.WarmedH.refl U) (Nat.le_refl _) (fun _ _ _ => rfl), q2⟩, q3⟩
section GW
variable {E : EE} {X : XX} {Q : State → Prop} {own : String} {cc : ByteArray} {nL n pc : Nat} {ls ls' : List (Nat × Value)} {st : List Value} {u : Sto} {P : Res → Sto → Prop}
/-- where a throw of Ex at pc goes -/
def Hx (E : EE) (X : XX) (own : String) (pc : Nat) (Ex : String) (K : Nat → Prop) : Prop := ∃ (pre suf : List ExceptionTableEntry) (x : ExceptionTableEntry) (name : String), X.c.exceptionTable.toList = pre ++ x :: suf ∧ (∀ z ∈ pre, covers z pc = false ∨ (z.catchType ≠ 0 ∧ ∃ nm : String, (Cond.classLink own z.catchType nm).before X.args X.s = true ∧ va_Nc Ex nm X.s)) ∧ covers x pc = true ∧ x.catchType ≠ 0 ∧ (Cond.classLink own x.catchType name).before X.args X.s = true ∧ (Cond.castable Ex name).before X.args X.s = true ∧ K x.handlerPc
theorem g_runW {mc : Nat} {rest st0 : List Value} {a : Array Value} (h : CX E X own cc nL) (hr : ∀ (H : Heap) (locs : List Loc) (ar : Array Slot), va_P E.D vwCl (wsE E u) H → va_S (A0 E) X.s.heap H locs → lv_has ar nL ls → vx_Run X.p E.l X.e X.R X.s X.m X.args X.below X.meth X.c H locs n (6 * n) mc (6 * mc) (F0 X.m pc ar st0) rest (QcP E P a) (XcP E P) (A0 E))
    (kk : ∀ v u', P (.inl v) u' → G E X Q nL (n + mc) (pc + 3) ls (v.toList ++ rest) u') (kx : ∀ Ex u', P (.inr Ex) u' → Hx E X own pc Ex (fun hp => ∀ q, G E X Q nL (n + mc) hp ls [.ref q] u')) : G E X Q nL n pc ls st0 u := by
  intro H locs ar hP hS hl T hT XT
  rcases hr H locs ar hP hS hl T hT XT with ⟨v, st₀, t, T', L, h0, X', hL, e1, e2, ⟨v2, u', hv, hv2, hw, hF⟩, stp⟩ | ⟨q, st₀, t, T', L, Ex, ce, h0, X', hL, e1, e2, ⟨u', hx, hw, hF⟩, hce, hcv, hcl, stp⟩
  · cases hv2
    obtain ⟨k1, k2, k3⟩ := vx_keep h0 e1 hS (fun _ _ h => h) (fun _ h => h) hL hF
    have hP' : va_P E.D vwCl (wsE E u') T'.heap := by rw [e1]; exact hw.2
    rw [← Nat.mul_add] at X'
    obtain ⟨t2, a1, b1⟩ := kk _ _ hv T'.heap (locs ++ L) ar hP' k3 hl T' rfl X'
    exact ⟨t2, stp t2 a1, b1⟩
  · obtain ⟨pre, suf, x, name, s1, s2, s3, s4, s5, s6, s7⟩ := kx _ _ hx
    obtain ⟨k1, k2, k3⟩ := vx_keep h0 e1 hS (fun _ _ h => h) (fun _ h => h) hL hF
    have hP' : va_P E.D vwCl (wsE E u') T'.heap := by rw [e1]; exact hw
    rw [← Nat.mul_add] at X'
    obtain ⟨t2, a1, b1⟩ := vx_catch (p := X.p) (l := E.l) (e := X.e) (R := X.R) (s := X.s) (m := X.m) (args := X.args) (below := X.below) (meth := X.meth) (c := X.c) (H := T'.heap) (locs := locs ++ L) (cells := n + mc) (slots := 6 * (n + mc)) (Q := Q) (pc := pc) (ls := ar) (rest := rest) (own := own) (name := name) (E := Ex) (ce := ce) (q := q) h.2.2.2.1 pre x suf s1 s2 s3 s4 s5 s6 (by rw [e1]; exact hce) hcv hcl (s7 q T'.heap (locs ++ L) ar hP' k3 hl) T' rfl X'
    exact ⟨t2, stp.trans a1, b1⟩
set_option maxHeartbeats 1000000 in
theorem g_VW (h : CX E X own cc nL) {L mc k ci idx na nc : Nat} {C : String} {sl : List (Option Nat)} {y : MethodName} {cb : ByteArray} {ret : Option FieldType} {As rest : List Value} (hlk : LkV own idx C y na cb nc ret) (hpl : Cond.selects C y y ∈ TW ∧ Cond.methodLink own idx y ∈ TW) (hs : shp k = .inl (ci, sl)) (hk : k < shN) (hcl : (vwCl[ci]?).map (fun q => q.1) = some C)
    (hc : CtP E L mc y cb nc ret (.ref (E.ad k) :: As) u P) (hf : FitR X.R L nc n mc) (hst : st = As.reverse ++ .ref (E.ad k) :: rest) (hna : As.length = na) (hro : (rest.map fun v => v.category).sum ≤ 8) (hd : decode cc pc = .ok (.invokevirtual idx, 3))
    (kk : ∀ v u', P (.inl v) u' → G E X Q nL (n + mc) (pc + 3) ls (v.toList ++ rest) u') (kx : ∀ Ex u', P (.inr Ex) u' → Hx E X own pc Ex (fun hp => ∀ q, G E X Q nL (n + mc) hp ls [.ref q] u')) : G E X Q nL n pc ls st u := by
  subst hst
  obtain ⟨w1, w2, w3, w4, w5, -⟩ := hlk
  obtain ⟨f1, f2, f3, f4⟩ := hf
  have hlen : ∀ sig, parseMethodDescriptor y.desc = some sig → na = sig.parameters.length := fun sig hsig => by rw [hsig] at w5; exact (Option.some.inj w5).symm
  have hws : ∀ w ∈ [Cond.code y cb nc ret], ∀ (a' : Array Value) (U : State), X.s.WarmedH U.vm → w.before a' U = true := fun w hw a' U hW => by
    rcases List.mem_cons.mp hw with rfl | hw
    · exact stable_of (List.mem_filter.mp w1).2 hW (env_w h w1 (a := #[]))
    · cases hw
  refine g_runW (mc := mc) (rest := rest) (a := (Value.ref (E.ad k) :: As).toArray) h (fun H locs ar hP hS hl => ?_) kk kx
  have hp : PreV X.s H C (E.ad k) (va_Pc (.ref (E.ad k) :: As) (fun U => WOK E u U)) As := ⟨wok_blind, env_recv h hs hk hcl hP, fun U hU hW => ⟨rfl, wok_end h.2.2.2.2.2 hP hS hU hW⟩⟩
  exact vx_runV (Ts := TW) ⟨h.1, h.2.1, h.2.2.1, h.2.2.2.1, env_ws h⟩ hc ⟨⟨rfl, rfl, f1, f2, hws, List.mem_cons_self, env_w h w1, env_w h w3, w4, hlen, env_w h hpl.2⟩, env_w h w2, env_w h hpl.1⟩ hp rfl hna hl.1 rfl (lv_room hro) hd ⟨f3, f4⟩
def LkW (own : String) (idx : Nat) (y : MethodName) (na : Nat) (cb : ByteArray) (nc : Nat) (ret : Option FieldType) (hh : List (Nat × Nat × Nat × Nat)) : Prop :=
  Cond.codeWith y cb nc ret hh ∈ TW ∧ Cond.static y ∈ TW ∧ Cond.initialized y.cls ∈ TW ∧ (y.cls ≠ "java/lang/invoke/MethodHandle" ∧ y.cls ≠ "java/lang/invoke/VarHandle") ∧ (parseMethodDescriptor y.desc).map (fun d => d.parameters.length) = some na ∧ Cond.methodLink own idx y ∈ TW
set_option maxHeartbeats 1000000 in
theorem g_SW (h : CX E X own cc nL) (hN : NcOK X.s) {L mc idx na nc : Nat} {y : MethodName} {cb : ByteArray} {ret : Option FieldType} {hh : List (Nat × Nat × Nat × Nat)} {As rest : List Value} (hlk : LkW own idx y na cb nc ret hh)
    (hc : CtW E L mc y cb nc ret hh As u P) (hx : ∀ Ex u', ¬ P (.inr Ex) u') (hf : FitR X.R L nc n mc) (hst : st = As.reverse ++ rest) (hna : As.length = na) (hro : (rest.map fun v => v.category).sum ≤ 8) (hd : decode cc pc = .ok (.invokestatic idx, 3))
    (kk : ∀ v u', P (.inl v) u' → G E X Q nL (n + mc) (pc + 3) ls (v.toList ++ rest) u') : G E X Q nL n pc ls st u := by
  subst hst
  obtain ⟨w1, w2, w3, w4, w5, w6⟩ := hlk
  obtain ⟨f1, f2, f3, f4⟩ := hf
  have hlen : ∀ sig, parseMethodDescriptor y.desc = some sig → na = sig.parameters.length := fun sig hsig => by rw [hsig] at w5; exact (Option.some.inj w5).symm
  have hws : ∀ w ∈ [Cond.codeWith y cb nc ret hh], ∀ (a' : Array Value) (U : State), X.s.WarmedH U.vm → w.before a' U = true := fun w hw a' U hW => by
    rcases List.mem_cons.mp hw with rfl | hw
    · exact stable_of (List.mem_filter.mp w1).2 hW (env_w h w1 (a := #[]))
    · cases hw
  refine g_runP (a := As.toArray) (fun H locs ar hP hS hl => ?_) kk
  have hp : PreS X.s H (va_Pc As (fun U => WOK E u U ∧ NcOK U)) As := ⟨wok_blindN, fun U hU hW => ⟨rfl, wok_end h.2.2.2.2.2 hP hS hU hW, hN.moved hW.alike⟩⟩
  exact vx_runSW (Ts := TW) (hh := hh) (bytes := cb) (maxL := nc) (ret := ret) ⟨h.1, h.2.1, h.2.2.1, h.2.2.2.1, env_ws h⟩ (ctw_met hc hx) ⟨⟨rfl, rfl, f1, f2, hws, List.mem_cons_self⟩, env_w h w1, env_w h w3, w4, hlen, env_w h w6, env_w h w2⟩ hp rfl hna hl.1 rfl (lv_room hro) hd ⟨f3, f4⟩
/-- the law's own row of one long -/
theorem g_last (h : CX E X own cc nL) {x : Int32} (hd : decode cc pc = .ok (.lastore, 1)) (kk : G E X Q nL n (pc + 1) ls st (su u 197 0 x)) : G E X Q nL n pc ls (.long x.toInt64 :: .int (nI 0) :: .ref (E.ad 197) :: st) u := fun H locs ar hP hS hl => by
  have hw := env_at (E := E) (v := u) (show 197 < shN by decide) sh_197
  have e : (nI 0).toNatClampNeg = 0 := by decide
  refine va_last (D := E.D) (cl := vwCl) (tys := tysE E) h.1 h.2.1 h.2.2.2.2.2.2.1 hP (envD h.2.2.2.2.2 u) hS 197 2 (n := 1) (f := fun j => (u 197 j).toInt64) hw rfl (vp_in_nI (by decide) (by decide)) hd (fun H1 locs1 hP1 hD1 hS1 => ?_)
  rw [e] at hP1
  have hf : vp_updL (fun j => (u 197 j).toInt64) 0 x.toInt64 = fun j => (upd (u 197) 0 x j).toInt64 := by
    funext j
    unfold vp_updL upd
    split <;> rfl
  rw [hf, wsW_set (j := 0) (v := x) (by decide) (by rw [su_at, sh_197]; rfl)] at hP1
  exact kk H1 locs1 ar hP1 hS1 hl
theorem g_lald (h : CX E X own cc nL) (hd : decode cc pc = .ok (.laload, 1)) (kk : G E X Q nL n (pc + 1) ls (.long (u 197 0).toInt64 :: st) u) : G E X Q nL n pc ls (.int (nI 0) :: .ref (E.ad 197) :: st) u := fun H locs ar hP hS hl => by
  have hw := env_at (E := E) (v := u) (show 197 < shN by decide) sh_197
  have e : (nI 0).toNatClampNeg = 0 := by decide
  refine va_lald (D := E.D) (cl := vwCl) (tys := tysE E) h.1 h.2.1 h.2.2.2.2.2.2.1 hP 197 2 (n := 1) (f := fun j => (u 197 j).toInt64) hw rfl (vp_in_nI (by decide) (by decide)) hd ?_
  rw [e]
  exact kk H locs ar hP hS hl
/-- the script -/
def Scr (E : EE) (X : XX) (b L : Nat) (xs : Nat → Int32) : Prop := va_X b L xs X.s X.s.heap ∧ b < X.s.heap.size ∧ b < E.sz
theorem g_sld (h : CX E X own cc nL) {b L : Nat} {xs : Nat → Int32} (hX : Scr E X b L xs) (hL : L < 2 ^ 31) {i : Nat} (hi : i < L) {x : Int32} (hx : x = nI i) (hd : decode cc pc = .ok (.iaload, 1)) (kk : G E X Q nL n (pc + 1) ls (.int (xs i) :: st) u) : G E X Q nL n pc ls (.int x :: .ref b :: st) u := fun H locs ar hP hS hl => by
  subst hx
  have e : (nI i).toNatClampNeg = i := nI_clamp (Nat.lt_trans hi hL)
  refine va_sld h.1 h.2.1 hX.1 hX.2.1 (fun q => absurd q (Nat.not_le.mpr hX.2.2)) hS (vp_in_nI hi hL) hd ?_
  rw [e]
  exact kk H locs ar hP hS hl
theorem g_slen (h : CX E X own cc nL) {b L : Nat} {xs : Nat → Int32} (hX : Scr E X b L xs) (hd : decode cc pc = .ok (.arraylength, 1)) (kk : G E X Q nL n (pc + 1) ls (.int (nI L) :: st) u) : G E X Q nL n pc ls (.ref b :: st) u := fun H locs ar hP hS hl => va_slen h.1 h.2.1 hX.1 hX.2.1 (fun q => absurd q (Nat.not_le.mpr hX.2.2)) hS hd (kk H locs ar hP hS hl)
end GW
/-- what a helper of the law answers -/
def HP (cd : String → Nat) (P : Res → Sto → Prop) : Res → Sto → Prop := fun o' w' => ∃ o w, P o w ∧ (match o with
  | .inl v => ∃ x, v = some (.int x) ∧ o' = .inl (some (.int (nI 0))) ∧ w' = su w 197 0 x
  | .inr Ex => o' = .inl (some (.int (nI (cd Ex)))) ∧ w' = w)
def okO (cl : List String) : Res → Prop
  | .inl v => ∃ x, v = some (.int x)
  | .inr Ex => Ex ∈ cl
theorem hp_nx {cd : String → Nat} {P : Res → Sto → Prop} : ∀ Ex u', ¬ HP cd P (.inr Ex) u' := by
  rintro Ex u' ⟨o, w, -, h⟩
  cases o with
  | inl v => obtain ⟨x, -, h, -⟩ := h; cases h
  | inr e => cases h.1
