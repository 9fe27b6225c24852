/-! fields, returns, calls -/
/-- the entry idx of own's pool is the field j of the objects ci -/
def FLk (own : String) (idx ci j : Nat) : Prop := ∃ q : vw_C, vwCl[ci]? = some q ∧ j < q.2.2 ∧ (∀ w ∈ u_ws q.1 q.2.1 q.2.2, w ∈ TW) ∧
  (Cond.fieldLink own idx (q.2.1 j).1 (q.2.1 j).2.1 (q.2.1 j).2.2.1 ∈ TW ∨ ∃ host, Cond.fieldLinkNest own idx (q.2.1 j).1 (q.2.1 j).2.1 (q.2.1 j).2.2.1 host ∈ TW)
/-- and it may be written: no final one, of type ty -/
def PLk (own : String) (idx ci j : Nat) (ty : FieldType) : Prop := FLk own idx ci j ∧ ∃ q : vw_C, vwCl[ci]? = some q ∧ (q.2.1 j).2.2.2 = false ∧ parseFieldDescriptor (q.2.1 j).2.2.1 = some ty ∧ (∃ ty0 : Nat → FieldType, ∀ k, k < q.2.2 → parseFieldDescriptor (q.2.1 k).2.2.1 = some (ty0 k)) ∧ (∀ a, a < q.2.2 → ∀ b, b < q.2.2 → a ≠ b → (q.2.1 a).2.1 ≠ (q.2.1 b).2.1)
def FitR (R : Room) (L nc n mc : Nat) : Prop := L + 1 ≤ R.frames ∧ 8 + (nc + 11) + 40 * L ≤ R.locals ∧ n + mc ≤ R.cells ∧ 6 * n + 6 * mc ≤ R.slots
theorem fitR {R : Room} {Lx mx L nc n mc : Nat} (hR : R = rmL Lx mx) (h1 : L + 1 ≤ Lx) (h2 : nc ≤ 21) (h3 : n + mc ≤ mx) : FitR R L nc n mc := by
  subst hR
  refine ⟨h1, ?_, h3, ?_⟩
  · show 8 + (nc + 11) + 40 * L ≤ 40 * Lx
    omega
  · show 6 * n + 6 * mc ≤ 6 * mx
    omega
/-- a virtual call of y on an object of the class C, by the entry idx of own's pool: by a plain link, a nest mate's, or inherited -/
def LkV (own : String) (idx : Nat) (C : String) (y : MethodName) (na : Nat) (cb : ByteArray) (nc : Nat) (ret : Option FieldType) : Prop :=
  Cond.code y cb nc ret ∈ TW ∧ Cond.instanceMethod y ∈ TW ∧ Cond.initialized y.cls ∈ TW ∧ (y.cls ≠ "java/lang/invoke/MethodHandle" ∧ y.cls ≠ "java/lang/invoke/VarHandle") ∧ (parseMethodDescriptor y.desc).map (fun d => d.parameters.length) = some na ∧
  ((Cond.selects C y y ∈ TW ∧ (Cond.methodLink own idx y ∈ TW ∨ ∃ host, Cond.methodLinkNest own idx y host ∈ TW)) ∨
   ∃ x : MethodName, Cond.methodLink own idx x ∈ TW ∧ Cond.sameMethod x.cls y.cls x.name x.desc ∈ TW ∧ Cond.selects C x y ∈ TW ∧ y.name = x.name ∧ y.desc = x.desc)
def LkS (own : String) (idx : Nat) (y : MethodName) (na : Nat) (cb : ByteArray) (nc : Nat) (ret : Option FieldType) : Prop :=
  Cond.code y cb nc ret ∈ TW ∧ Cond.static y ∈ TW ∧ Cond.initialized y.cls ∈ TW ∧ (y.cls ≠ "java/lang/invoke/MethodHandle" ∧ y.cls ≠ "java/lang/invoke/VarHandle") ∧ (parseMethodDescriptor y.desc).map (fun d => d.parameters.length) = some na ∧
  (Cond.methodLink own idx y ∈ TW ∨ ∃ host, Cond.methodLinkNest own idx y host ∈ TW)
theorem ct_met {E : EE} {L mc : Nat} {y : MethodName} {cc : ByteArray} {nL : Nat} {ret : Option FieldType} {as : List Value} {u u' : Sto} {v : Option Value} (hc : Ct E L mc y cc nL ret as u (.inl v) u') : Met E.l y [.code y cc nL ret] (rmL L mc) (va_Pc as (fun U => WOK E u U)) (QcO E (.inl v) u') mc (6 * mc) (A0 E) := by
  intro p e ha hcas hk s m args below hf happ hP hK
  obtain ⟨n, o, h1, h2, h3, h4⟩ := hc p e ha hcas hk s m args below hf happ hP hK
  refine ⟨n, o, h1, h2, h3, ?_⟩
  rcases h4 with h | ⟨q, -, Ex, ce, L9, ⟨h, -⟩, -⟩
  · exact h
  · cases h
theorem wok_blind {E : EE} {as : List Value} {u : Sto} : FrameBlind (va_Pc as (fun U => WOK E u U)) := by
  intro a U g mk q
  obtain ⟨q0, q1, q2⟩ := q
  exact ⟨q0, q1.moved (State.WarmedH.refl U) (Nat.le_refl _) (fun _ _ _ => rfl), q2⟩
section GF
variable {E : EE} {X : XX} {Q : State → Prop} {own : String} {cc : ByteArray} {nL n pc : Nat} {ls ls' : List (Nat × Value)} {st : List Value} {u : Sto}
theorem env_w (h : CX E X own cc nL) {w : Cond} (hw : w ∈ TW) {a : Array Value} : w.before a X.s = true := stable_of (List.mem_filter.mp hw).2 (State.WarmedH.refl X.s) (h.2.2.2.2.2.1 w hw)
theorem env_ws (h : CX E X own cc nL) : ∀ w ∈ TW, w.before X.args X.s = true := fun w hw => env_w h hw
theorem g_get0 (h : CX E X own cc nL) {k idx ci j : Nat} {fs : List Value} {v : Value} (hf : FLk own idx ci j) (he : (wsE E u)[k]? = some (E.ad k, .inr (ci, fs))) (hv : fs[j]? = some v) (hd : decode cc pc = .ok (.getfield idx, 3))
    (kk : G E X Q nL n (pc + 3) ls (v :: st) u) : G E X Q nL n pc ls (.ref (E.ad k) :: st) u := fun H locs ar hP hS hl => by
  obtain ⟨⟨C, T, N⟩, h1, h2, h3, h4⟩ := hf
  rcases h4 with h4 | ⟨host, h4⟩
  · exact va_get (D := E.D) (cl := vwCl) (tys := tysE E) h.1 h.2.1 (env_ws h) h3 h.2.2.2.1 h.2.2.2.2.2.2.1 hP k he h1 j h2 (env_w h h4) (fun _ h9 => h9) hv hd (kk H locs ar hP hS hl)
  · exact va_getN (D := E.D) (cl := vwCl) (tys := tysE E) h.1 h.2.1 (env_ws h) h3 h.2.2.2.1 h.2.2.2.2.2.2.1 hP k he h1 j h2 (env_w h h4) (fun _ h9 => h9) hv hd (kk H locs ar hP hS hl)
theorem g_getI (h : CX E X own cc nL) {k idx ci j : Nat} {sl : List (Option Nat)} (hf : FLk own idx ci j) (hs : shp k = .inl (ci, sl)) (hk : k < shN) (hj : sl[j]? = some none) (hd : decode cc pc = .ok (.getfield idx, 3))
    (kk : G E X Q nL n (pc + 3) ls (.int (u k j) :: st) u) : G E X Q nL n pc ls (.ref (E.ad k) :: st) u := g_get0 h hf (env_at hk hs) (slot_i hj) hd kk
theorem g_getR (h : CX E X own cc nL) {k idx ci j c : Nat} {sl : List (Option Nat)} (hf : FLk own idx ci j) (hs : shp k = .inl (ci, sl)) (hk : k < shN) (hj : sl[j]? = some (some c)) (hd : decode cc pc = .ok (.getfield idx, 3))
    (kk : G E X Q nL n (pc + 3) ls (.ref (E.ad c) :: st) u) : G E X Q nL n pc ls (.ref (E.ad k) :: st) u := g_get0 h hf (env_at hk hs) (slot_r hj) hd kk
theorem g_put (h : CX E X own cc nL) {k idx ci j : Nat} {sl : List (Option Nat)} {ty : FieldType} {v : Int32} (hf : PLk own idx ci j ty) (hs : shp k = .inl (ci, sl)) (hk : k < shN) (hj : sl[j]? = some none) (hn : narrow ty (.int v) = .int v) (hfit : fits ty (.int v) = true) (hd : decode cc pc = .ok (.putfield idx, 3))
    (kk : G E X Q nL n (pc + 3) ls st (su u k j v)) : G E X Q nL n pc ls (.int v :: .ref (E.ad k) :: st) u := fun H locs ar hP hS hl => by
  obtain ⟨⟨⟨C, T, N⟩, h1, h2, h3, h4⟩, q, g1, g2, g3, ⟨ty0, g4⟩, g5⟩ := hf
  cases Option.some.inj (h1.symm.trans g1)
  have he : (wsE E u)[k]? = some (E.ad k, .inr (ci, sl.mapIdx (slF E.ad (u k)))) := env_at (E := E) (v := u) hk hs
  have hl9 : j < (sl.mapIdx (slF E.ad (u k))).length := by
    rw [List.length_mapIdx]
    exact (List.getElem?_eq_some_iff.mp hj).1
  have hx : cellE E.cy E.ad (shp k) (su u k j v k) = .inr (ci, (sl.mapIdx (slF E.ad (u k))).set j (.int v)) := by
    rw [su_at, hs, slot_set hj]
    rfl
  rcases h4 with h4 | ⟨host, h4⟩
  · refine va_put (D := E.D) (cl := vwCl) (tys := tysE E) h.1 h.2.1 (env_ws h) h3 ty0 g4 g5 h.2.2.2.1 h.2.2.2.2.2.2.1 hP (envD h.2.2.2.2.2 u) hS k he h1 j h2 (env_w h h4) (fun _ h9 => h9) g2 g3 hn hfit hl9 hd (fun H1 locs1 hP1 hD1 hS1 => ?_)
    rw [wsW_set (j := j) (v := v) hk hx] at hP1
    exact kk H1 locs1 ar hP1 hS1 hl
  · refine va_putN (D := E.D) (cl := vwCl) (tys := tysE E) h.1 h.2.1 (env_ws h) h3 ty0 g4 g5 h.2.2.2.1 h.2.2.2.2.2.2.1 hP (envD h.2.2.2.2.2 u) hS k he h1 j h2 (env_w h h4) (fun _ h9 => h9) g2 g3 hn hfit hl9 hd (fun H1 locs1 hP1 hD1 hS1 => ?_)
    rw [wsW_set (j := j) (v := v) hk hx] at hP1
    exact kk H1 locs1 ar hP1 hS1 hl
theorem g_putI (h : CX E X own cc nL) {k idx ci j : Nat} {sl : List (Option Nat)} {v : Int32} (hf : PLk own idx ci j .int) (hs : shp k = .inl (ci, sl)) (hk : k < shN) (hj : sl[j]? = some none) (hd : decode cc pc = .ok (.putfield idx, 3))
    (kk : G E X Q nL n (pc + 3) ls st (su u k j v)) : G E X Q nL n pc ls (.int v :: .ref (E.ad k) :: st) u := g_put h hf hs hk hj rfl rfl hd kk
theorem nar_z {v : Int32} (h : v = 0 ∨ v = 1) : narrow .boolean (.int v) = .int v ∧ fits .boolean (.int v) = true := by
  rcases h with rfl | rfl <;> exact ⟨by decide, by decide⟩
theorem g_putZ (h : CX E X own cc nL) {k idx ci j : Nat} {sl : List (Option Nat)} {v : Int32} (hf : PLk own idx ci j .boolean) (hs : shp k = .inl (ci, sl)) (hk : k < shN) (hj : sl[j]? = some none) (hv : v = 0 ∨ v = 1) (hd : decode cc pc = .ok (.putfield idx, 3))
    (kk : G E X Q nL n (pc + 3) ls st (su u k j v)) : G E X Q nL n pc ls (.int v :: .ref (E.ad k) :: st) u := g_put h hf hs hk hj (nar_z hv).1 (nar_z hv).2 hd kk
-- returns
theorem g_iret (h : CX E X own cc nL) {o : Res} {u' : Sto} {mc : Nat} {v : Int32} (hr : X.meth.sig.returnType = some .int) (hd : decode cc pc = .ok (.ireturn, 1)) (hn : n ≤ mc) (ho : o = .inl (some (.int v))) (hu : u' = u) : G E X (QM E X o u' mc) nL n pc ls [.int v] u := fun H locs ar hP hS hl => by
  subst ho; subst hu
  exact W.widen hn (Nat.mul_le_mul_left 6 hn) (vx_ret (W.iret (v := v) h.1 h.2.1 hr (fun t ht hW => ⟨some (.int v), rfl, rfl, wok_end h.2.2.2.2.2 hP hS ht hW, hS.F ht⟩) hS.2.2 hd h.2.2.2.2.1))
theorem g_zret (h : CX E X own cc nL) {o : Res} {u' : Sto} {mc : Nat} {v : Int32} (hr : X.meth.sig.returnType = some .boolean) (hd : decode cc pc = .ok (.ireturn, 1)) (hn : n ≤ mc) (hv : v = 0 ∨ v = 1) (ho : o = .inl (some (.int v))) (hu : u' = u) : G E X (QM E X o u' mc) nL n pc ls [.int v] u := fun H locs ar hP hS hl => by
  subst ho; subst hu
  exact W.widen hn (Nat.mul_le_mul_left 6 hn) (vx_ret (W.zret (v := v) h.1 h.2.1 hr (nar_z hv).1 (fun t ht hW => ⟨some (.int v), rfl, rfl, wok_end h.2.2.2.2.2 hP hS ht hW, hS.F ht⟩) hS.2.2 hd h.2.2.2.2.1))
theorem g_vret (h : CX E X own cc nL) {o : Res} {u' : Sto} {mc : Nat} (hr : X.meth.sig.returnType = none) (hd : decode cc pc = .ok (.return_, 1)) (hn : n ≤ mc) (ho : o = .inl none) (hu : u' = u) : G E X (QM E X o u' mc) nL n pc ls [] u := fun H locs ar hP hS hl => by
  subst ho; subst hu
  exact W.widen hn (Nat.mul_le_mul_left 6 hn) (vx_ret (W.vret h.1 h.2.1 hr (fun t ht hW => ⟨none, rfl, rfl, wok_end h.2.2.2.2.2 hP hS ht hW, hS.F ht⟩) hS.2.2 hd h.2.2.2.2.1))
theorem g_aret (h : CX E X own cc nL) {o : Res} {u' : Sto} {mc a : Nat} {rt : FieldType} (hr : X.meth.sig.returnType = some rt) (hrt : (∃ n, rt = .object n) ∨ ∃ t, rt = .array t) (hd : decode cc pc = .ok (.areturn, 1)) (hn : n ≤ mc) (ho : o = .inl (some (.ref a))) (hu : u' = u) : G E X (QM E X o u' mc) nL n pc ls [.ref a] u := fun H locs ar hP hS hl => by
  subst ho; subst hu
  exact W.widen hn (Nat.mul_le_mul_left 6 hn) (vx_ret (W.aret (v := .ref a) h.1 h.2.1 hr hrt (Or.inr ⟨a, rfl⟩) (fun t ht hW => ⟨some (.ref a), rfl, rfl, wok_end h.2.2.2.2.2 hP hS ht hW, hS.F ht⟩) hS.2.2 hd h.2.2.2.2.1))
-- calls that return
theorem g_run {mc : Nat} {v : Option Value} {u' : Sto} {rest st0 : List Value} {a : Array Value} (hr : ∀ (H : Heap) (locs : List Loc) (ar : Array Slot), va_P E.D vwCl (wsE E u) H → va_S (A0 E) X.s.heap H locs → lv_has ar nL ls → va_Run X.p E.l X.e X.R X.s X.m X.args X.below X.meth X.c H locs n (6 * n) mc (6 * mc) (F0 X.m pc ar st0) rest (QcO E (.inl v) u' a) (A0 E))
    (kk : G E X Q nL (n + mc) (pc + 3) ls (v.toList ++ rest) u') : G E X Q nL n pc ls st0 u := by
  intro H locs ar hP hS hl T hT XT
  obtain ⟨v', st₀, t, T', L, h0, X', hL, e1, e2, ⟨v2, hv, hv2, hw, hF⟩, stp⟩ := hr H locs ar hP hS hl T hT XT
  cases hv
  cases hv2
  obtain ⟨k1, k2, k3⟩ := vx_keep h0 e1 hS (fun _ _ h => h) (fun _ h => h) hL hF
  have hP' : va_P E.D vwCl (wsE E u') T'.heap := by rw [e1]; exact hw.2
  rw [← Nat.mul_add] at X'
  obtain ⟨t2, a1, b1⟩ := kk T'.heap (locs ++ L) ar hP' k3 hl T' rfl X'
  exact ⟨t2, stp t2 a1, b1⟩
theorem env_recv (h : CX E X own cc nL) {k ci : Nat} {sl : List (Option Nat)} {C : String} (hs : shp k = .inl (ci, sl)) (hk : k < shN) (hcl : (vwCl[ci]?).map (fun q => q.1) = some C) {H : Heap} (hP : va_P E.D vwCl (wsE E u) H) : ∃ cellB : Cell, H[E.ad k]? = some cellB ∧ cellB.vm.isStatics = false ∧ X.s.vm.findClass C = some cellB.cls := by
  cases hq : vwCl[ci]? with
  | none => rw [hq] at hcl; cases hcl
  | some q =>
    obtain ⟨C9, T, N⟩ := q
    rw [hq] at hcl
    cases hcl
    exact va_recv h.2.2.2.2.2.2.1 hP hq (env_at hk hs)
set_option maxHeartbeats 1000000 in
theorem g_V (h : CX E X own cc nL) {L mc k ci idx na nc : Nat} {C : String} {sl : List (Option Nat)} {y : MethodName} {cb : ByteArray} {ret : Option FieldType} {As rest : List Value} {v : Option Value} {u' : Sto} (hlk : LkV own idx C y na cb nc ret) (hs : shp k = .inl (ci, sl)) (hk : k < shN) (hcl : (vwCl[ci]?).map (fun q => q.1) = some C)
    (hc : Ct E L mc y cb nc ret (.ref (E.ad k) :: As) u (.inl v) u') (hf : FitR X.R L nc n mc) (hst : st = As.reverse ++ .ref (E.ad k) :: rest) (hna : As.length = na) (hro : (rest.map fun v => v.category).sum ≤ 8) (hd : decode cc pc = .ok (.invokevirtual idx, 3))
    (kk : G E X Q nL (n + mc) (pc + 3) ls (v.toList ++ rest) u') : G E X Q nL n pc ls st u := by
  subst hst
  obtain ⟨w1, w2, w3, w4, w5, w6⟩ := hlk
  obtain ⟨f1, f2, f3, f4⟩ := hf
  have hlen : ∀ sig, parseMethodDescriptor y.desc = some sig → na = sig.parameters.length := fun sig hsig => by rw [hsig] at w5; exact (Option.some.inj w5).symm
  have hws : ∀ w ∈ [Cond.code y cb nc ret], ∀ (a' : Array Value) (U : State), X.s.WarmedH U.vm → w.before a' U = true := fun w hw a' U hW => by
    rcases List.mem_cons.mp hw with rfl | hw
    · exact stable_of (List.mem_filter.mp w1).2 hW (env_w h w1 (a := #[]))
    · cases hw
  refine g_run (a := (Value.ref (E.ad k) :: As).toArray) (fun H locs ar hP hS hl => ?_) kk
  have hp : PreV X.s H C (E.ad k) (va_Pc (.ref (E.ad k) :: As) (fun U => WOK E u U)) As := ⟨wok_blind, env_recv h hs hk hcl hP, fun U hU hW => ⟨rfl, wok_end h.2.2.2.2.2 hP hS hU hW⟩⟩
  rcases w6 with ⟨w6, w7 | ⟨host, w7⟩⟩ | ⟨x, w7, w8, w9, hx1, hx2⟩
  · exact va_runV (Ts := TW) ⟨h.1, h.2.1, h.2.2.1, h.2.2.2.1, env_ws h⟩ (ct_met hc) ⟨⟨rfl, rfl, f1, f2, hws, List.mem_cons_self, env_w h w1, env_w h w3, w4, hlen, env_w h w7⟩, env_w h w2, env_w h w6⟩ hp rfl hna hl.1 rfl (lv_room hro) hd ⟨f3, f4⟩
  · exact va_runVN (Ts := TW) (host := host) ⟨h.1, h.2.1, h.2.2.1, h.2.2.2.1, env_ws h⟩ (ct_met hc) ⟨⟨⟨rfl, rfl, f1, f2, hws, List.mem_cons_self⟩, env_w h w1, env_w h w3, w4, hlen, env_w h w7⟩, env_w h w2, env_w h w6⟩ hp rfl hna hl.1 rfl (lv_room hro) hd ⟨f3, f4⟩
  · have hyx : y = ⟨y.cls, x.name, x.desc⟩ := by rw [← hx1, ← hx2]
    exact va_runU (Ts := TW) (x := x) (owner := y.cls) ⟨h.1, h.2.1, h.2.2.1, h.2.2.2.1, env_ws h⟩ (ct_met hc) ⟨⟨rfl, rfl, f1, f2, hws, List.mem_cons_self⟩, env_w h w1, env_w h w3, w4, fun sig hsig => hlen sig (by rw [hx2]; exact hsig), env_w h w7, env_w h w8, by rw [← hyx]; exact va_Decl.of (env_w h w2 (a := X.args)) (env_w h w1), env_w h w9, env_w h w2⟩ hp rfl hna hl.1 rfl (lv_room hro) hd ⟨f3, f4⟩
set_option maxHeartbeats 1000000 in
theorem g_S (h : CX E X own cc nL) {L mc idx na nc : Nat} {y : MethodName} {cb : ByteArray} {ret : Option FieldType} {As rest : List Value} {v : Option Value} {u' : Sto} (hlk : LkS own idx y na cb nc ret)
    (hc : Ct E L mc y cb nc ret As u (.inl v) u') (hf : FitR X.R L nc n mc) (hst : st = As.reverse ++ rest) (hna : As.length = na) (hro : (rest.map fun v => v.category).sum ≤ 8) (hd : decode cc pc = .ok (.invokestatic idx, 3))
    (kk : G E X Q nL (n + mc) (pc + 3) ls (v.toList ++ rest) u') : G E X Q nL n pc ls st u := by
  subst hst
  obtain ⟨w1, w2, w3, w4, w5, w6⟩ := hlk
  obtain ⟨f1, f2, f3, f4⟩ := hf
  have hlen : ∀ sig, parseMethodDescriptor y.desc = some sig → na = sig.parameters.length := fun sig hsig => by rw [hsig] at w5; exact (Option.some.inj w5).symm
  have hws : ∀ w ∈ [Cond.code y cb nc ret], ∀ (a' : Array Value) (U : State), X.s.WarmedH U.vm → w.before a' U = true := fun w hw a' U hW => by
    rcases List.mem_cons.mp hw with rfl | hw
    · exact stable_of (List.mem_filter.mp w1).2 hW (env_w h w1 (a := #[]))
    · cases hw
  refine g_run (a := As.toArray) (fun H locs ar hP hS hl => ?_) kk
  have hp : PreS X.s H (va_Pc As (fun U => WOK E u U)) As := ⟨wok_blind, fun U hU hW => ⟨rfl, wok_end h.2.2.2.2.2 hP hS hU hW⟩⟩
  rcases w6 with w7 | ⟨host, w7⟩
  · exact va_runS (Ts := TW) ⟨h.1, h.2.1, h.2.2.1, h.2.2.2.1, env_ws h⟩ (ct_met hc) ⟨⟨rfl, rfl, f1, f2, hws, List.mem_cons_self, env_w h w1, env_w h w3, w4, hlen, env_w h w7⟩, env_w h w2⟩ hp rfl hna hl.1 rfl (lv_room hro) hd ⟨f3, f4⟩
  · exact va_runSN (Ts := TW) (host := host) ⟨h.1, h.2.1, h.2.2.1, h.2.2.2.1, env_ws h⟩ (ct_met hc) ⟨⟨⟨rfl, rfl, f1, f2, hws, List.mem_cons_self⟩, env_w h w1, env_w h w3, w4, hlen, env_w h w7⟩, env_w h w2, trivial⟩ hp rfl hna hl.1 rfl (lv_room hro) hd ⟨f3, f4⟩
end GF
