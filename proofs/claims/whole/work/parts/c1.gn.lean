-- after: c0.gc
/-! rules of the making -/
def LkI (own : String) (idx : Nat) (y : MethodName) (na : Nat) (cb : ByteArray) (nc : Nat) : Prop :=
  Cond.code y cb nc none ∈ TW ∧ Cond.instanceMethod y ∈ TW ∧ Cond.initialized y.cls ∈ TW ∧ (y.cls ≠ "java/lang/invoke/MethodHandle" ∧ y.cls ≠ "java/lang/invoke/VarHandle") ∧ (parseMethodDescriptor y.desc).map (fun d => d.parameters.length) = some na ∧ y.name = "<init>" ∧ (Cond.methodLink own idx y ∈ TW ∨ ∃ host, Cond.methodLinkNest own idx y host ∈ TW)
def NLk (own : String) (idx ci N : Nat) (fs : List Value) : Prop := ∃ q : vw_C, vwCl[ci]? = some q ∧ q.2.2 = N ∧ (∀ w ∈ u_ws q.1 q.2.1 q.2.2, w ∈ TW) ∧ Cond.classLink own idx q.1 ∈ TW ∧ Cond.instantiable q.1 q.2.2 ∈ TW ∧ Cond.initialized q.1 ∈ TW ∧ ∃ ty : Nat → FieldType, (∀ k, k < q.2.2 → parseFieldDescriptor (q.2.1 k).2.2.1 = some (ty k)) ∧ ∀ j, j < q.2.2 → defaultValue (ty j) = vp_V fs j
theorem wc_blind {E : EE} {as : List Value} {w : CW} : FrameBlind (va_Pc as (fun U => WC E w U)) := by
  intro a U g mk q
  obtain ⟨q0, q1, q2⟩ := q
  exact ⟨q0, q1.moved (State.WarmedH.refl U) (Nat.le_refl _) (fun _ _ _ => rfl), q2⟩
section GCN
variable {E : EE} {X : XX} {Q : State → Prop} {own : String} {cc : ByteArray} {nL n pc : Nat} {ls ls' : List (Nat × Value)} {st : List Value} {w : CW}
theorem gc_sz {m0 : Nat} (hz : X.s.heap.size = E.sz + m0) (hm : m0 ≤ w.1) (kk : ∀ (H : Heap) (locs : List Loc) (ar : Array Slot), va_P E.D vwCl (cwC E w) H → H.size = E.sz + w.1 → va_S (A0 E) X.s.heap H locs → lv_has ar nL ls → W X.p E.l X.e X.R X.s X.m X.args X.below X.meth X.c H locs (E.sz + w.1 - X.s.heap.size) n Q (F0 X.m pc ar st)) : GC E X Q nL n pc ls st w := fun H locs ar hP hS hl T hT XT => kk H locs ar hP (sz_of hz hm hP hS hT rfl XT) hS hl T hT XT
theorem gc_oinit (h : CX E X own cc nL) {idx a : Nat} (hl9 : Cond.methodLink own idx Lib.objectInit ∈ TW) (hro : (st.map fun v => v.category).sum ≤ 8) (hR : 1 ≤ X.R.frames ∧ 20 ≤ X.R.locals) (hd : decode cc pc = .ok (.invokespecial idx, 3)) (kk : GC E X Q nL n (pc + 3) ls st w) : GC E X Q nL n pc ls (.ref a :: st) w := fun H locs ar hP hS hl =>
  W.objInit h.1 h.2.1 h.2.2.2.1 (env_w h hl9) (env_w h tw_1_35) (env_w h tw_1_36) rfl (hl.1.trans h.2.2.1.symm) rfl hd hR.1 (Nat.le_trans (Nat.add_le_add_right (lv_room hro) 12) hR.2) (kk H locs ar hP hS hl)
theorem gc_newa (h : CX E X own cc nL) (hA : AdC E) {m m0 k N : Nat} {O : OpC} {u : Sto} {x : Int32} (hz : X.s.heap.size = E.sz + m0) (hm : m0 ≤ m) (hk : invC m = k) (hw : Cond.arrayClass .int ∈ TW) (hs : shp k = .inr (.inl (0, N))) (ho : opL O k = none) (hu : u k = fun _ => 0) (hx : x = nI N) (hN : N < 2 ^ 20) (hR : m + 1 ≤ X.R.cells + m0 ∧ n + N ≤ X.R.slots) (hd : decode cc pc = .ok (.newarray .int, 2))
    (kk : GC E X Q nL (n + N) (pc + 2) ls (.ref (E.ad k) :: st) (m + 1, O, u)) : GC E X Q nL n pc ls (.int x :: st) (m, O, u) := by
  subst hx
  refine gc_sz hz hm (fun H locs ar hP hsz hS hl => ?_)
  have hsz : H.size = E.sz + m := hsz
  have ead : E.ad k = E.sz + m := by rw [hA k, ← hk, ord_inv]
  refine va_newaK (N := N) (atype := .int) (h := E.sz + m) h.1 h.2.1 (env_w h hw) rfl hd rfl (nI_pos (by omega)) (nI_clamp (by omega)) (by show N * 4 ≤ _; omega) (by show E.sz + m - X.s.heap.size + 1 ≤ _; omega) hR.2 hsz (fun H1 cA e1 z1 o1 hAr hNm => ?_)
  have hc : cA = E.cy 0 := by
    have := (h.2.2.2.2.2.2.1.2 0 (E.cy 0, .int) rfl).2
    exact Option.some.inj (hNm.symm.trans this)
  subst hc
  have hcell : ctC E O u k = .inl (E.cy 0, N, .inl (fun _ => 0)) := by rw [ct_n ho, hs, hu]; rfl
  obtain ⟨p1, s1⟩ := gc_came (O' := O) (e := .inl (E.cy 0, N, .inl (fun _ => 0))) (H1 := H1) hz hm hk hP hS hsz (by rw [z1, hsz]) (fun q hq => o1 q (by rw [← hsz]; exact hq)) hcell (fun _ _ => rfl) (by rw [hsz]; exact e1)
  have := kk H1 locs ar p1 s1 hl
  rw [ead] at this
  rw [show E.sz + (m + 1) - X.s.heap.size = E.sz + m - X.s.heap.size + 1 by omega] at this
  exact this
theorem gc_newz (h : CX E X own cc nL) (hA : AdC E) {m m0 k N : Nat} {O : OpC} {u : Sto} {x : Int32} (hz : X.s.heap.size = E.sz + m0) (hm : m0 ≤ m) (hk : invC m = k) (hw : Cond.arrayClass .boolean ∈ TW) (hs : shp k = .inr (.inl (1, N))) (ho : opL O k = none) (hu : u k = fun _ => 0) (hx : x = nI N) (hN : N < 2 ^ 20) (hR : m + 1 ≤ X.R.cells + m0 ∧ n + N ≤ X.R.slots) (hd : decode cc pc = .ok (.newarray .boolean, 2))
    (kk : GC E X Q nL (n + N) (pc + 2) ls (.ref (E.ad k) :: st) (m + 1, O, u)) : GC E X Q nL n pc ls (.int x :: st) (m, O, u) := by
  subst hx
  refine gc_sz hz hm (fun H locs ar hP hsz hS hl => ?_)
  have hsz : H.size = E.sz + m := hsz
  have ead : E.ad k = E.sz + m := by rw [hA k, ← hk, ord_inv]
  refine va_newaK (N := N) (atype := .boolean) (h := E.sz + m) h.1 h.2.1 (env_w h hw) rfl hd rfl (nI_pos (by omega)) (nI_clamp (by omega)) (by show N * 1 ≤ _; omega) (by show E.sz + m - X.s.heap.size + 1 ≤ _; omega) hR.2 hsz (fun H1 cA e1 z1 o1 hAr hNm => ?_)
  have hc : cA = E.cy 1 := by
    have := (h.2.2.2.2.2.2.1.2 1 (E.cy 1, .boolean) rfl).2
    exact Option.some.inj (hNm.symm.trans this)
  subst hc
  have hcell : ctC E O u k = .inl (E.cy 1, N, .inl (fun _ => 0)) := by rw [ct_n ho, hs, hu]; rfl
  obtain ⟨p1, s1⟩ := gc_came (O' := O) (e := .inl (E.cy 1, N, .inl (fun _ => 0))) (H1 := H1) hz hm hk hP hS hsz (by rw [z1, hsz]) (fun q hq => o1 q (by rw [← hsz]; exact hq)) hcell (fun _ _ => rfl) (by rw [hsz]; exact e1)
  have := kk H1 locs ar p1 s1 hl
  rw [ead] at this
  rw [show E.sz + (m + 1) - X.s.heap.size = E.sz + m - X.s.heap.size + 1 by omega] at this
  exact this
theorem gc_newl (h : CX E X own cc nL) (hA : AdC E) {m m0 k N : Nat} {O : OpC} {u : Sto} {x : Int32} (hz : X.s.heap.size = E.sz + m0) (hm : m0 ≤ m) (hk : invC m = k) (hw : Cond.arrayClass .long ∈ TW) (hs : shp k = .inr (.inl (2, N))) (ho : opL O k = none) (hu : u k = fun _ => 0) (hx : x = nI N) (hN : N < 2 ^ 20) (hR : m + 1 ≤ X.R.cells + m0 ∧ n + N ≤ X.R.slots) (hd : decode cc pc = .ok (.newarray .long, 2))
    (kk : GC E X Q nL (n + N) (pc + 2) ls (.ref (E.ad k) :: st) (m + 1, O, u)) : GC E X Q nL n pc ls (.int x :: st) (m, O, u) := by
  subst hx
  refine gc_sz hz hm (fun H locs ar hP hsz hS hl => ?_)
  have hsz : H.size = E.sz + m := hsz
  have ead : E.ad k = E.sz + m := by rw [hA k, ← hk, ord_inv]
  refine va_newaK (N := N) (atype := .long) (h := E.sz + m) h.1 h.2.1 (env_w h hw) rfl hd rfl (nI_pos (by omega)) (nI_clamp (by omega)) (by show N * 8 ≤ _; omega) (by show E.sz + m - X.s.heap.size + 1 ≤ _; omega) hR.2 hsz (fun H1 cA e1 z1 o1 hAr hNm => ?_)
  have hc : cA = E.cy 2 := by
    have := (h.2.2.2.2.2.2.1.2 2 (E.cy 2, .long) rfl).2
    exact Option.some.inj (hNm.symm.trans this)
  subst hc
  have hcell : ctC E O u k = .inl (E.cy 2, N, .inr (.inl (fun _ => 0))) := by rw [ct_n ho, hs, hu]; rfl
  obtain ⟨p1, s1⟩ := gc_came (O' := O) (e := .inl (E.cy 2, N, .inr (.inl (fun _ => 0)))) (H1 := H1) hz hm hk hP hS hsz (by rw [z1, hsz]) (fun q hq => o1 q (by rw [← hsz]; exact hq)) hcell (fun _ _ => rfl) (by rw [hsz]; exact e1)
  have := kk H1 locs ar p1 s1 hl
  rw [ead] at this
  rw [show E.sz + (m + 1) - X.s.heap.size = E.sz + m - X.s.heap.size + 1 by omega] at this
  exact this
theorem gc_new (h : CX E X own cc nL) (hA : AdC E) {m m0 k idx ci N : Nat} {O : OpC} {u : Sto} {fs : List Value} (hz : X.s.heap.size = E.sz + m0) (hm : m0 ≤ m) (hk : invC m = k) (hn : NLk own idx ci N fs) (hR : m + 1 ≤ X.R.cells + m0 ∧ n + N ≤ X.R.slots) (hd : decode cc pc = .ok (.new idx, 3))
    (kk : GC E X Q nL (n + N) (pc + 3) ls (.ref (E.ad k) :: st) (m + 1, (k, .inr (ci, fs)) :: O, u)) : GC E X Q nL n pc ls st (m, O, u) := by
  obtain ⟨⟨C, T0, N0⟩, h1, rfl, h3, h4, h5, h6, ty, h7, h8⟩ := hn
  refine gc_sz hz hm (fun H locs ar hP hsz hS hl => ?_)
  have hsz : H.size = E.sz + m := hsz
  have ead : E.ad k = E.sz + m := by rw [hA k, ← hk, ord_inv]
  have hKn := h.2.2.2.2.2.2.1.1 ci _ h1
  refine W.newcK (h := E.sz + m) h.1 h.2.1 h.2.2.2.1 (env_w h h4) (env_w h h5) (env_w h h6) rfl hd (by show E.sz + m - X.s.heap.size + 1 ≤ _; omega) hR.2 hKn.2.1 hsz (fun H1 kC hkC e1 z1 o1 => ?_)
  obtain ⟨p1, s1⟩ := gc_came (O' := (k, .inr (ci, fs)) :: O) (e := .inr (ci, fs)) (H1 := H1) hz hm hk hP hS hsz (by rw [z1, hsz]) (fun q hq => o1 q (by rw [← hsz]; exact hq)) ct_h (fun i hi => ct_t hi) (by
    rw [hsz]
    exact ⟨_, h1, (u_born ty (env_ws h) h3 hKn hkC e1 h7).to h8⟩)
  have := kk H1 locs ar p1 s1 hl
  rw [ead] at this
  rw [show E.sz + (m + 1) - X.s.heap.size = E.sz + m - X.s.heap.size + 1 by omega] at this
  exact this
theorem gc_anew (h : CX E X own cc nL) (hA : AdC E) {m m0 k idx N : Nat} {O : OpC} {u : Sto} {x : Int32} (hz : X.s.heap.size = E.sz + m0) (hm : m0 ≤ m) (hk : invC m = k) (hcl : Cond.classLink own idx "HourLets$Town" ∈ TW) (hov : (Cond.arrayOver (.object "HourLets$Town")).before X.args X.s = true) (hx : x = nI N) (hN : N < 2 ^ 20) (hR : m + 1 ≤ X.R.cells + m0 ∧ n + N ≤ X.R.slots) (hd : decode cc pc = .ok (.anewarray idx, 3))
    (kk : GC E X Q nL (n + N) (pc + 3) ls (.ref (E.ad k) :: st) (m + 1, (k, .inl (E.cy 3, N, .inr (.inr (.inr (.inr (fun _ => none)))))) :: O, u)) : GC E X Q nL n pc ls (.int x :: st) (m, O, u) := by
  subst hx
  refine gc_sz hz hm (fun H locs ar hP hsz hS hl => ?_)
  have hsz : H.size = E.sz + m := hsz
  have ead : E.ad k = E.sz + m := by rw [hA k, ← hk, ord_inv]
  have hcN : (nI N).toNatClampNeg = N := nI_clamp (by omega)
  refine W.anew (n := nI N) h.1 h.2.1 h.2.2.2.1 (env_w h hcl) hov rfl hd rfl (nI_pos (by omega)) (by rw [hcN]; omega) (by show E.sz + m - X.s.heap.size + 1 ≤ _; omega) (by rw [hcN]; exact hR.2) (fun cA kA comp f1 f2 f3 f4 => ?_)
  rw [hcN]
  have hc : cA = E.cy 3 := by
    obtain ⟨_, _, -, -, -, h9⟩ := (h.2.2.2.2.2.2.1.2 3 (E.cy 3, .object "HourLets$Town") rfl).2
    exact Option.some.inj (f1.symm.trans h9)
  subst hc
  generalize hH1 : H.push ({ cls := E.cy 3, slots := Array.replicate N .null, vm := .none } : Cell) = H1
  have z1 : H1.size = H.size + 1 := by rw [← hH1, Array.size_push]
  have e1 : H1[H.size]? = some (arrV (E.cy 3) N (fun _ => .null)) := by rw [← hH1, Array.getElem?_push_size, ← arrV_new]
  have o1 : ∀ q : Nat, q < H.size → H1[q]? = H[q]? := fun q hq => by rw [← hH1, Array.getElem?_push, if_neg (Nat.ne_of_lt hq)]
  obtain ⟨p1, s1⟩ := gc_came (O' := (k, .inl (E.cy 3, N, .inr (.inr (.inr (.inr (fun _ => none)))))) :: O) (e := .inl (E.cy 3, N, .inr (.inr (.inr (.inr (fun _ => none)))))) (H1 := H1) hz hm hk hP hS hsz z1 o1 ct_h (fun i hi => ct_t hi) e1
  have := kk H1 locs ar p1 s1 hl
  rw [ead] at this
  rw [show E.sz + (m + 1) - X.s.heap.size = E.sz + m - X.s.heap.size + 1 by omega] at this
  rw [hsz]
  exact this
theorem gc_vret (h : CX E X own cc nL) {L mc ms m0 : Nat} (hRC : RC E X L mc ms m0) (hm : m0 + mc = w.1) (hr : X.meth.sig.returnType = none) (hd : decode cc pc = .ok (.return_, 1)) (hn : n ≤ ms) : GC E X (QMC E X w mc ms) nL n pc ls [] w := by
  refine gc_sz hRC.2 (by omega) (fun H locs ar hP hsz hS hl => ?_)
  have hc : E.sz + w.1 - X.s.heap.size ≤ mc := by have := hRC.2; omega
  exact W.widen hc hn (W.vret h.1 h.2.1 hr (fun t ht hW => ⟨rfl, ⟨h.2.2.2.2.2.moved hW (by rw [ht]; exact hS.1) (fun q h1 h2 => by rw [ht]; exact hS.2.1 q h1 h2), by rw [ht]; exact hP, by rw [ht]; exact hsz⟩, hS.F ht⟩) hS.2.2 hd h.2.2.2.2.1)
theorem gc_run {L ms m0 : Nat} {rest st0 : List Value} {a : Array Value} {w' : CW} (hz : X.s.heap.size = E.sz + m0) (hm : m0 ≤ w.1) (hww : w.1 ≤ w'.1) (hr : ∀ (H : Heap) (locs : List Loc) (ar : Array Slot), va_P E.D vwCl (cwC E w) H → H.size = E.sz + w.1 → va_S (A0 E) X.s.heap H locs → lv_has ar nL ls → va_Run X.p E.l X.e X.R X.s X.m X.args X.below X.meth X.c H locs (E.sz + w.1 - X.s.heap.size) n (w'.1 - w.1) ms (F0 X.m pc ar st0) rest (QcC E w' a) (A0 E))
    (kk : GC E X Q nL (n + ms) (pc + 3) ls rest w') : GC E X Q nL n pc ls st0 w := by
  intro H locs ar hP hS hl T hT XT
  have hsz : H.size = E.sz + w.1 := sz_of (w := w) hz hm hP hS hT rfl XT
  obtain ⟨v', st₀, t, T', L, h0, X', hL, e1, e2, ⟨hv, ⟨-, hw, -⟩, hF⟩, stp⟩ := hr H locs ar hP hsz hS hl T hT XT
  cases hv
  obtain ⟨k1, k2, k3⟩ := vx_keep h0 e1 hS (fun _ _ h => h) (fun _ h => h) hL hF
  have hP' : va_P E.D vwCl (cwC E w') T'.heap := by rw [e1]; exact hw
  rw [show E.sz + w.1 - X.s.heap.size + (w'.1 - w.1) = E.sz + w'.1 - X.s.heap.size by omega] at X'
  obtain ⟨t2, a1, b1⟩ := kk T'.heap (locs ++ L) ar hP' k3 hl T' rfl X'
  exact ⟨t2, stp t2 a1, b1⟩
def FitC (E : EE) (X : XX) (L nc n ms m0 m' : Nat) : Prop := L + 1 ≤ X.R.frames ∧ 8 + (nc + 11) + 40 * L ≤ X.R.locals ∧ m' ≤ X.R.cells + m0 ∧ n + ms ≤ X.R.slots
theorem wc_end (hE : EnvOK E X.s) {H : Heap} {locs : List Loc} (hP : va_P E.D vwCl (cwC E w) H) (hsz : H.size = E.sz + w.1) (hS : va_S (A0 E) X.s.heap H locs) {t : State} (ht : t.heap = H) (hW : X.s.WarmedH t.vm) : WC E w t := by
  subst ht
  exact ⟨hE.moved hW hS.1 (fun q h1 h2 => hS.2.1 q h1 h2), hP, hsz⟩
set_option maxHeartbeats 1000000 in
theorem gc_I (h : CX E X own cc nL) {L ms m0 idx na nc b : Nat} {y : MethodName} {cb : ByteArray} {As rest : List Value} {w' : CW} (hz : X.s.heap.size = E.sz + m0) (hm : m0 ≤ w.1) (hww : w.1 ≤ w'.1) (hlk : LkI own idx y na cb nc) (hc : CtC E L ms y cb nc (.ref b :: As) w w') (hf : FitC E X L nc n ms m0 w'.1) (hst : st = As.reverse ++ .ref b :: rest) (hna : As.length = na) (hro : (rest.map fun v => v.category).sum ≤ 8) (hd : decode cc pc = .ok (.invokespecial idx, 3))
    (kk : GC E X Q nL (n + ms) (pc + 3) ls rest w') : GC E X Q nL n pc ls st w := by
  subst hst
  obtain ⟨w1, w2, w3, w4, w5, w6, w7⟩ := hlk
  obtain ⟨f1, f2, f3, f4⟩ := hf
  have hlen : ∀ sig, parseMethodDescriptor y.desc = some sig → na = sig.parameters.length := fun sig hsig => by rw [hsig] at w5; exact (Option.some.inj w5).symm
  have hws : ∀ w ∈ [Cond.code y cb nc none], ∀ (a' : Array Value) (U : State), X.s.WarmedH U.vm → w.before a' U = true := fun w hw a' U hW => by
    rcases List.mem_cons.mp hw with rfl | hw
    · exact stable_of (List.mem_filter.mp w1).2 hW (env_w h w1 (a := #[]))
    · cases hw
  refine gc_run (L := L) (a := (Value.ref b :: As).toArray) hz hm hww (fun H locs ar hP hsz hS hl => ?_) kk
  have hp : PreS X.s H (va_Pc (.ref b :: As) (fun U => WC E w U)) (.ref b :: As) := ⟨wc_blind, fun U hU hW => ⟨rfl, wc_end h.2.2.2.2.2 hP hsz hS hU hW⟩⟩
  have hcells : E.sz + w.1 - X.s.heap.size + (w'.1 - w.1) ≤ X.R.cells := by omega
  rcases w7 with w7 | ⟨host, w7⟩
  · exact va_runI (Ts := TW) ⟨h.1, h.2.1, h.2.2.1, h.2.2.2.1, env_ws h⟩ hc ⟨⟨rfl, rfl, f1, f2, hws, List.mem_cons_self, env_w h w1, env_w h w3, w4, hlen, env_w h w7⟩, w6, env_w h w2⟩ hp rfl hna hl.1 rfl (lv_room hro) hd ⟨hcells, f4⟩
  · exact va_runIN (Ts := TW) (host := host) ⟨h.1, h.2.1, h.2.2.1, h.2.2.2.1, env_ws h⟩ hc ⟨⟨⟨rfl, rfl, f1, f2, hws, List.mem_cons_self⟩, env_w h w1, env_w h w3, w4, hlen, env_w h w7⟩, w6, env_w h w2⟩ hp rfl hna hl.1 rfl (lv_room hro) hd ⟨hcells, f4⟩
set_option maxHeartbeats 1000000 in
theorem gc_S (h : CX E X own cc nL) {L ms m0 idx na nc : Nat} {y : MethodName} {cb : ByteArray} {As rest : List Value} {w' : CW} (hz : X.s.heap.size = E.sz + m0) (hm : m0 ≤ w.1) (hww : w.1 ≤ w'.1) (hlk : LkS own idx y na cb nc none) (hc : CtC E L ms y cb nc As w w') (hf : FitC E X L nc n ms m0 w'.1) (hst : st = As.reverse ++ rest) (hna : As.length = na) (hro : (rest.map fun v => v.category).sum ≤ 8) (hd : decode cc pc = .ok (.invokestatic idx, 3))
    (kk : GC E X Q nL (n + ms) (pc + 3) ls rest w') : GC E X Q nL n pc ls st w := by
  subst hst
  obtain ⟨w1, w2, w3, w4, w5, w7⟩ := hlk
  obtain ⟨f1, f2, f3, f4⟩ := hf
  have hlen : ∀ sig, parseMethodDescriptor y.desc = some sig → na = sig.parameters.length := fun sig hsig => by rw [hsig] at w5; exact (Option.some.inj w5).symm
  have hws : ∀ w ∈ [Cond.code y cb nc none], ∀ (a' : Array Value) (U : State), X.s.WarmedH U.vm → w.before a' U = true := fun w hw a' U hW => by
    rcases List.mem_cons.mp hw with rfl | hw
    · exact stable_of (List.mem_filter.mp w1).2 hW (env_w h w1 (a := #[]))
    · cases hw
  refine gc_run (L := L) (a := As.toArray) hz hm hww (fun H locs ar hP hsz hS hl => ?_) kk
  have hp : PreS X.s H (va_Pc As (fun U => WC E w U)) As := ⟨wc_blind, fun U hU hW => ⟨rfl, wc_end h.2.2.2.2.2 hP hsz hS hU hW⟩⟩
  have hcells : E.sz + w.1 - X.s.heap.size + (w'.1 - w.1) ≤ X.R.cells := by omega
  rcases w7 with w7 | ⟨host, w7⟩
  · exact va_runS (Ts := TW) ⟨h.1, h.2.1, h.2.2.1, h.2.2.2.1, env_ws h⟩ hc ⟨⟨rfl, rfl, f1, f2, hws, List.mem_cons_self, env_w h w1, env_w h w3, w4, hlen, env_w h w7⟩, env_w h w2⟩ hp rfl hna hl.1 rfl (lv_room hro) hd ⟨hcells, f4⟩
  · exact va_runSN (Ts := TW) (host := host) ⟨h.1, h.2.1, h.2.2.1, h.2.2.2.1, env_ws h⟩ hc ⟨⟨⟨rfl, rfl, f1, f2, hws, List.mem_cons_self⟩, env_w h w1, env_w h w3, w4, hlen, env_w h w7⟩, env_w h w2, trivial⟩ hp rfl hna hl.1 rfl (lv_room hro) hd ⟨hcells, f4⟩
/-- two open cells in the other order -/
theorem gc_swap {m a b : Nat} {ea eb : va_E} {O : OpC} {u : Sto} (hab : a ≠ b) (kk : GC E X Q nL n pc ls st (m, (b, eb) :: (a, ea) :: O, u)) : GC E X Q nL n pc ls st (m, (a, ea) :: (b, eb) :: O, u) := fun H locs ar hP hS hl => by
  refine kk H locs ar ?_ hS hl
  rw [cw_eq (O' := (b, eb) :: (a, ea) :: O) (u' := u)] at hP
  · exact hP
  · intro i
    by_cases h1 : i = a
    · subst h1
      rw [ct_t hab, ct_h, ct_h]
    · by_cases h2 : i = b
      · subst h2
        rw [ct_h, ct_t h1, ct_h]
      · rw [ct_t h2, ct_t h1, ct_t h1, ct_t h2]
theorem gc_w {w2 : CW} (e : w = w2) (kk : GC E X Q nL n pc ls st w2) : GC E X Q nL n pc ls st w := e ▸ kk
end GCN
