/-! contracts whose end is said by a relation; stores alike but for scratch places -/
def QcP (E : EE) (P : Res → Sto → Prop) : Array Value → State → Outcome → State → Prop := fun _ st oc t => ∃ v u', P (.inl v) u' ∧ oc = .returned v ∧ WOK E u' t ∧ va_F (A0 E) st t
def XcP (E : EE) (P : Res → Sto → Prop) : String → State → State → Prop := fun Ex st t => ∃ u', P (.inr Ex) u' ∧ va_P E.D vwCl (wsE E u') t.heap ∧ va_F (A0 E) st t
def CtP (E : EE) (L mc : Nat) (y : MethodName) (cc : ByteArray) (nL : Nat) (ret : Option FieldType) (as : List Value) (u : Sto) (P : Res → Sto → Prop) : Prop :=
  vx_Met E.l y [.code y cc nL ret] (rmL L mc) (va_Pc as (fun U => WOK E u U)) (QcP E P) (XcP E P) mc (6 * mc) (A0 E)
def QMP (E : EE) (X : XX) (P : Res → Sto → Prop) (mc : Nat) : State → Prop := vx_MQ X.below (QcP E P) (XcP E P) X.args X.s mc (6 * mc) (A0 E)
theorem ctp_of {E : EE} {L mc : Nat} {y : MethodName} {cc : ByteArray} {nL : Nat} {ret : Option FieldType} {as : List Value} {u : Sto} {P : Res → Sto → Prop} (hy : plainName y.cls = true) (hn : (lg_sl as).length ≤ nL)
    (body : ∀ X : XX, CX E X y.cls cc nL → X.R = rmL L mc → X.meth.sig.returnType = ret → (∀ x ∈ X.c.exceptionTable.toList, False) → X.args = as.toArray → G E X (QMP E X P mc) nL 0 0 (lv_args 0 as) [] u) : CtP E L mc y cc nL ret as u P := by
  refine vx_ofW (cc := cc) (maxL := nL) (ret := ret) hy rfl ?_
  intro p e s m args below meth c s₁ B hml hx hv
  obtain ⟨rfl, hE, hP⟩ := hv
  have hl := lv_entry as (n := nL) hn
  rw [lg_entry_eq]
  exact body (p, e, (rmL L mc), s, m, as.toArray, below, meth, c) ⟨B.exec, B.bytes, hml, findClass_of_methodNamed B.named, B.notSynchronized, hE⟩ rfl B.returns hx rfl s.heap [] _ hP va_S.rf hl
theorem ctp_met {E : EE} {L mc : Nat} {y : MethodName} {cc : ByteArray} {nL : Nat} {ret : Option FieldType} {as : List Value} {u : Sto} {P : Res → Sto → Prop} (hc : CtP E L mc y cc nL ret as u P) (hx : ∀ Ex u', ¬ P (.inr Ex) u') : Met E.l y [.code y cc nL ret] (rmL L mc) (va_Pc as (fun U => WOK E u U)) (QcP E P) mc (6 * mc) (A0 E) := by
  intro p e ha hcas hk s m args below hf happ hP hK
  obtain ⟨n, o, h1, h2, h3, h4⟩ := hc p e ha hcas hk s m args below hf happ hP hK
  refine ⟨n, o, h1, h2, h3, ?_⟩
  rcases h4 with h | ⟨q, -, Ex, ce, L9, ⟨u', h, -⟩, -⟩
  · exact h
  · exact absurd h (hx _ _)
theorem ct_ctp {E : EE} {L mc : Nat} {y : MethodName} {cc : ByteArray} {nL : Nat} {ret : Option FieldType} {as : List Value} {u u' : Sto} {o : Res} {P : Res → Sto → Prop} (hc : Ct E L mc y cc nL ret as u o u') (hP : P o u') : CtP E L mc y cc nL ret as u P := by
  intro p e ha hcas hk s m args below hf happ hP9 hK
  obtain ⟨n, o9, h1, h2, h3, h4⟩ := hc p e ha hcas hk s m args below hf happ hP9 hK
  refine ⟨n, o9, h1, h2, h3, ?_⟩
  rcases h4 with ⟨⟨v, hv, h5, h6, h7⟩, h8⟩ | ⟨q, h5, Ex, ce, L9, ⟨h, h6, h7⟩, h8⟩
  · exact Or.inl ⟨⟨v, u', by rw [← hv]; exact hP, h5, h6, h7⟩, h8⟩
  · exact Or.inr ⟨q, h5, Ex, ce, L9, ⟨u', by rw [← h]; exact hP, h6, h7⟩, h8⟩
theorem ctp_mono {E : EE} {L mc : Nat} {y : MethodName} {cc : ByteArray} {nL : Nat} {ret : Option FieldType} {as : List Value} {u : Sto} {P P' : Res → Sto → Prop} (hc : CtP E L mc y cc nL ret as u P) (h : ∀ o u', P o u' → P' o u') : CtP E L mc y cc nL ret as u P' := by
  intro p e ha hcas hk s m args below hf happ hP9 hK
  obtain ⟨n, o9, h1, h2, h3, h4⟩ := hc p e ha hcas hk s m args below hf happ hP9 hK
  refine ⟨n, o9, h1, h2, h3, ?_⟩
  rcases h4 with ⟨⟨v, u', hv, h5, h6, h7⟩, h8⟩ | ⟨q, h5, Ex, ce, L9, ⟨u', h9, h6, h7⟩, h8⟩
  · exact Or.inl ⟨⟨v, u', h _ _ hv, h5, h6, h7⟩, h8⟩
  · exact Or.inr ⟨q, h5, Ex, ce, L9, ⟨u', h _ _ h9, h6, h7⟩, h8⟩
section GP
variable {E : EE} {X : XX} {Q : State → Prop} {own : String} {cc : ByteArray} {nL n pc : Nat} {ls ls' : List (Nat × Value)} {st : List Value} {u : Sto} {P : Res → Sto → Prop}
theorem g_iretP (h : CX E X own cc nL) {mc : Nat} {v : Int32} (hr : X.meth.sig.returnType = some .int) (hd : decode cc pc = .ok (.ireturn, 1)) (hn : n ≤ mc) (ho : P (.inl (some (.int v))) u) : G E X (QMP E X P mc) nL n pc ls [.int v] u := fun H locs ar hP hS hl =>
  W.widen hn (Nat.mul_le_mul_left 6 hn) (vx_ret (W.iret (v := v) h.1 h.2.1 hr (fun t ht hW => ⟨some (.int v), u, ho, rfl, wok_end h.2.2.2.2.2 hP hS ht hW, hS.F ht⟩) hS.2.2 hd h.2.2.2.2.1))
theorem g_zretP (h : CX E X own cc nL) {mc : Nat} {v : Int32} (hr : X.meth.sig.returnType = some .boolean) (hd : decode cc pc = .ok (.ireturn, 1)) (hn : n ≤ mc) (hv : v = 0 ∨ v = 1) (ho : P (.inl (some (.int v))) u) : G E X (QMP E X P mc) nL n pc ls [.int v] u := fun H locs ar hP hS hl =>
  W.widen hn (Nat.mul_le_mul_left 6 hn) (vx_ret (W.zret (v := v) h.1 h.2.1 hr (nar_z hv).1 (fun t ht hW => ⟨some (.int v), u, ho, rfl, wok_end h.2.2.2.2.2 hP hS ht hW, hS.F ht⟩) hS.2.2 hd h.2.2.2.2.1))
theorem g_vretP (h : CX E X own cc nL) {mc : Nat} (hr : X.meth.sig.returnType = none) (hd : decode cc pc = .ok (.return_, 1)) (hn : n ≤ mc) (ho : P (.inl none) u) : G E X (QMP E X P mc) nL n pc ls [] u := fun H locs ar hP hS hl =>
  W.widen hn (Nat.mul_le_mul_left 6 hn) (vx_ret (W.vret h.1 h.2.1 hr (fun t ht hW => ⟨none, u, ho, rfl, wok_end h.2.2.2.2.2 hP hS ht hW, hS.F ht⟩) hS.2.2 hd h.2.2.2.2.1))
theorem g_runP {mc : Nat} {rest st0 : List Value} {a : Array Value} (hr : ∀ (H : Heap) (locs : List Loc) (ar : Array Slot), va_P E.D vwCl (wsE E u) H → va_S (A0 E) X.s.heap H locs → lv_has ar nL ls → va_Run X.p E.l X.e X.R X.s X.m X.args X.below X.meth X.c H locs n (6 * n) mc (6 * mc) (F0 X.m pc ar st0) rest (QcP E P a) (A0 E))
    (kk : ∀ v u', P (.inl v) u' → G E X Q nL (n + mc) (pc + 3) ls (v.toList ++ rest) u') : G E X Q nL n pc ls st0 u := by
  intro H locs ar hP hS hl T hT XT
  obtain ⟨v', st₀, t, T', L, h0, X', hL, e1, e2, ⟨v2, u', hv, hv2, hw, hF⟩, stp⟩ := hr H locs ar hP hS hl T hT XT
  cases hv2
  obtain ⟨k1, k2, k3⟩ := vx_keep h0 e1 hS (fun _ _ h => h) (fun _ h => h) hL hF
  have hP' : va_P E.D vwCl (wsE E u') T'.heap := by rw [e1]; exact hw.2
  rw [← Nat.mul_add] at X'
  obtain ⟨t2, a1, b1⟩ := kk _ _ hv T'.heap (locs ++ L) ar hP' k3 hl T' rfl X'
  exact ⟨t2, stp t2 a1, b1⟩
set_option maxHeartbeats 1000000 in
theorem g_VP (h : CX E X own cc nL) {L mc k ci idx na nc : Nat} {C : String} {sl : List (Option Nat)} {y : MethodName} {cb : ByteArray} {ret : Option FieldType} {As rest : List Value} (hlk : LkV own idx C y na cb nc ret) (hs : shp k = .inl (ci, sl)) (hk : k < shN) (hcl : (vwCl[ci]?).map (fun q => q.1) = some C)
    (hc : CtP E L mc y cb nc ret (.ref (E.ad k) :: As) u P) (hx : ∀ Ex u', ¬ P (.inr Ex) u') (hf : FitR X.R L nc n mc) (hst : st = As.reverse ++ .ref (E.ad k) :: rest) (hna : As.length = na) (hro : (rest.map fun v => v.category).sum ≤ 8) (hd : decode cc pc = .ok (.invokevirtual idx, 3))
    (kk : ∀ v u', P (.inl v) u' → G E X Q nL (n + mc) (pc + 3) ls (v.toList ++ rest) u') : G E X Q nL n pc ls st u := by
  subst hst
  obtain ⟨w1, w2, w3, w4, w5, w6⟩ := hlk
  obtain ⟨f1, f2, f3, f4⟩ := hf
  have hlen : ∀ sig, parseMethodDescriptor y.desc = some sig → na = sig.parameters.length := fun sig hsig => by rw [hsig] at w5; exact (Option.some.inj w5).symm
  have hws : ∀ w ∈ [Cond.code y cb nc ret], ∀ (a' : Array Value) (U : State), X.s.WarmedH U.vm → w.before a' U = true := fun w hw a' U hW => by
    rcases List.mem_cons.mp hw with rfl | hw
    · exact stable_of (List.mem_filter.mp w1).2 hW (env_w h w1 (a := #[]))
    · cases hw
  refine g_runP (a := (Value.ref (E.ad k) :: As).toArray) (fun H locs ar hP hS hl => ?_) kk
  have hp : PreV X.s H C (E.ad k) (va_Pc (.ref (E.ad k) :: As) (fun U => WOK E u U)) As := ⟨wok_blind, env_recv h hs hk hcl hP, fun U hU hW => ⟨rfl, wok_end h.2.2.2.2.2 hP hS hU hW⟩⟩
  rcases w6 with ⟨w6, w7 | ⟨host, w7⟩⟩ | ⟨x, w7, w8, w9, hx1, hx2⟩
  · exact va_runV (Ts := TW) ⟨h.1, h.2.1, h.2.2.1, h.2.2.2.1, env_ws h⟩ (ctp_met hc hx) ⟨⟨rfl, rfl, f1, f2, hws, List.mem_cons_self, env_w h w1, env_w h w3, w4, hlen, env_w h w7⟩, env_w h w2, env_w h w6⟩ hp rfl hna hl.1 rfl (lv_room hro) hd ⟨f3, f4⟩
  · exact va_runVN (Ts := TW) (host := host) ⟨h.1, h.2.1, h.2.2.1, h.2.2.2.1, env_ws h⟩ (ctp_met hc hx) ⟨⟨⟨rfl, rfl, f1, f2, hws, List.mem_cons_self⟩, env_w h w1, env_w h w3, w4, hlen, env_w h w7⟩, env_w h w2, env_w h w6⟩ hp rfl hna hl.1 rfl (lv_room hro) hd ⟨f3, f4⟩
  · have hyx : y = ⟨y.cls, x.name, x.desc⟩ := by rw [← hx1, ← hx2]
    exact va_runU (Ts := TW) (x := x) (owner := y.cls) ⟨h.1, h.2.1, h.2.2.1, h.2.2.2.1, env_ws h⟩ (ctp_met hc hx) ⟨⟨rfl, rfl, f1, f2, hws, List.mem_cons_self⟩, env_w h w1, env_w h w3, w4, fun sig hsig => hlen sig (by rw [hx2]; exact hsig), env_w h w7, env_w h w8, by rw [← hyx]; exact va_Decl.of (env_w h w2 (a := X.args)) (env_w h w1), env_w h w9, env_w h w2⟩ hp rfl hna hl.1 rfl (lv_room hro) hd ⟨f3, f4⟩
end GP
/-- the places that are scratch: class: law's stack, facts, costs, the deals' and the fitting's rows; model: facts, rows of its own, words of a reading -/
def scrB (k j : Nat) : Bool := (k == 24) || (k == 25) || (k == 163) || (decide (164 ≤ k) && decide (k ≤ 177)) || (decide (184 ≤ k) && decide (k ≤ 196)) || (k == 178 && (j == 9 || j == 10 || j == 11 || j == 13 || j == 15 || j == 16 || j == 17 || j == 18 || j == 19 || j == 26))
def sim (a b : Sto) : Prop := ∀ k j, scrB k j = false → a k j = b k j
theorem sim.refl (a : Sto) : sim a a := fun _ _ _ => rfl
theorem sim.trans {a b c : Sto} (h : sim a b) (g : sim b c) : sim a c := fun k j q => (h k j q).trans (g k j q)
theorem sim.symm {a b : Sto} (h : sim a b) : sim b a := fun k j q => (h k j q).symm
theorem sim_su {a b : Sto} (h : sim a b) (k j : Nat) (v : Int32) : sim (su a k j v) (su b k j v) := fun k' j' q => by
  unfold su
  split
  · rfl
  · exact h k' j' q
theorem sim.cell {a b : Sto} (h : sim a b) (k : Nat) (hk : ∀ j, scrB k j = false) : a k = b k := funext fun j => h k j (hk j)
/-- a scratch place is written -/
theorem sim_scr {a b : Sto} (h : sim a b) {k j : Nat} (v : Int32) (hk : scrB k j = true) : sim (su a k j v) b := fun k' j' q => by
  unfold su
  split
  · rename_i e
    rw [e.1, e.2, hk] at q
    cases q
  · exact h k' j' q
/-- a contract up to scratch -/
abbrev PS (o : Res) (U : Sto) : Res → Sto → Prop := fun o' u' => o' = o ∧ sim u' U
theorem ps_nx {v : Option Value} {U : Sto} : ∀ Ex u', ¬ PS (.inl v) U (.inr Ex) u' := fun _ _ h => nomatch h.1
