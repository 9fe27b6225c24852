-- after: b8.lp
/-! the world while it is being made: cells come one after another, some of them are still open -/
abbrev OpC : Type := List (Nat × va_E)
abbrev CW : Type := Nat × OpC × Sto
/-- which cell comes when, and back -/
def ordC (k : Nat) : Nat := if k ≤ 74 then k else if k ≤ 158 then k + 19 else if k ≤ 177 then k - 84 else k
def invC (i : Nat) : Nat := if i ≤ 74 then i else if i ≤ 93 then i + 84 else if i ≤ 177 then i - 19 else i
theorem inv_ord (k : Nat) : invC (ordC k) = k := by
  unfold ordC
  split
  · rw [invC, if_pos ‹_›]
  · split
    · rw [invC, if_neg (by omega), if_neg (by omega), if_pos (by omega)]; omega
    · split
      · rw [invC, if_neg (by omega), if_pos (by omega)]; omega
      · rw [invC, if_neg (by omega), if_neg (by omega), if_neg (by omega)]
theorem ord_inv (i : Nat) : ordC (invC i) = i := by
  unfold invC
  split
  · rw [ordC, if_pos ‹_›]
  · split
    · rw [ordC, if_neg (by omega), if_neg (by omega), if_pos (by omega)]; omega
    · split
      · rw [ordC, if_neg (by omega), if_pos (by omega)]; omega
      · rw [ordC, if_neg (by omega), if_neg (by omega), if_neg (by omega)]
def opL : OpC → Nat → Option va_E
  | [], _ => none
  | q :: t, k => if k = q.1 then some q.2 else opL t k
theorem opL_hd {k : Nat} {e : va_E} {O : OpC} : opL ((k, e) :: O) k = some e := if_pos rfl
theorem opL_tl {k a : Nat} {e : va_E} {O : OpC} (h : k ≠ a) : opL ((a, e) :: O) k = opL O k := if_neg h
def ctC (E : EE) (op : OpC) (u : Sto) (k : Nat) : va_E := match opL op k with
  | some e => e
  | none => cellE E.cy E.ad (shp k) (u k)
theorem ct_o {E : EE} {op : OpC} {u : Sto} {k : Nat} {e : va_E} (h : opL op k = some e) : ctC E op u k = e := by rw [ctC, h]
theorem ct_n {E : EE} {op : OpC} {u : Sto} {k : Nat} (h : opL op k = none) : ctC E op u k = cellE E.cy E.ad (shp k) (u k) := by rw [ctC, h]
theorem ct_h {E : EE} {O : OpC} {u : Sto} {k : Nat} {e : va_E} : ctC E ((k, e) :: O) u k = e := ct_o opL_hd
theorem ct_t {E : EE} {O : OpC} {u : Sto} {k a : Nat} {e : va_E} (h : k ≠ a) : ctC E ((a, e) :: O) u k = ctC E O u k := by unfold ctC; rw [opL_tl h]
def cwC (E : EE) (w : CW) : va_W := (List.range w.1).map (fun i => (E.sz + i, ctC E w.2.1 w.2.2 (invC i)))
theorem cw_len {E : EE} {w : CW} : (cwC E w).length = w.1 := by simp [cwC]
theorem cw_at {E : EE} {w : CW} {i : Nat} (h : i < w.1) : (cwC E w)[i]? = some (E.sz + i, ctC E w.2.1 w.2.2 (invC i)) := by simp [cwC, h]
theorem cw_of {E : EE} {w : CW} {i : Nat} {q : Nat × va_E} (h : (cwC E w)[i]? = some q) : i < w.1 ∧ q = (E.sz + i, ctC E w.2.1 w.2.2 (invC i)) := by
  have hi : i < w.1 := by
    have := (List.getElem?_eq_some_iff.mp h).1
    rwa [cw_len] at this
  rw [cw_at hi] at h
  exact ⟨hi, (Option.some.inj h).symm⟩
def AdC (E : EE) : Prop := ∀ k, E.ad k = E.sz + ordC k
theorem cw_k {E : EE} (hA : AdC E) {w : CW} {k : Nat} (h : ordC k < w.1) : (cwC E w)[ordC k]? = some (E.ad k, ctC E w.2.1 w.2.2 k) := by rw [cw_at h, inv_ord, hA k]
theorem cwD {E : EE} (w : CW) : va_D (A0 E) (cwC E w) := by
  refine ⟨fun i j p q hp hq e => ?_, fun k q hq => ?_⟩
  · have h1 := (cw_of hp).2
    have h2 := (cw_of hq).2
    rw [h1, h2] at e
    have e : E.sz + i = E.sz + j := e
    omega
  · rw [(cw_of hq).2]
    show E.sz ≤ E.sz + k
    omega
/-- one more cell -/
theorem cw_push {E : EE} {m : Nat} {O O' : OpC} {u : Sto} {e : va_E} (he : ctC E O' u (invC m) = e) (ho : ∀ i, i < m → ctC E O' u (invC i) = ctC E O u (invC i)) : cwC E (m, O, u) ++ [(E.sz + m, e)] = cwC E (m + 1, O', u) := by
  subst he
  simp only [cwC, List.range_succ, List.map_append, List.map_cons, List.map_nil]
  congr 1
  refine List.map_congr_left (fun i hi => ?_)
  rw [ho i (List.mem_range.mp hi)]
/-- a cell is changed -/
theorem cw_set {E : EE} (hA : AdC E) {m k : Nat} {O O' : OpC} {u u' : Sto} {e : va_E} (hk : ordC k < m) (he : ctC E O' u' k = e) (ho : ∀ i, i ≠ k → ctC E O' u' i = ctC E O u i) : (cwC E (m, O, u)).set (ordC k) (E.ad k, e) = cwC E (m, O', u') := by
  subst he
  apply List.ext_getElem?
  intro i
  rw [List.getElem?_set]
  by_cases hi : ordC k = i
  · subst hi
    rw [if_pos rfl, if_pos (by rw [cw_len]; exact hk), cw_k hA (w := (m, O', u')) hk]
  · rw [if_neg hi]
    by_cases hm : i < m
    · rw [cw_at (w := (m, O, u)) hm, cw_at (w := (m, O', u')) hm]
      have : invC i ≠ k := fun q => hi (by rw [← q, ord_inv])
      dsimp only
      rw [ho _ this]
    · rw [List.getElem?_eq_none (by rw [cw_len]; exact Nat.not_lt.mp hm), List.getElem?_eq_none (by rw [cw_len]; exact Nat.not_lt.mp hm)]
theorem cw_eq {E : EE} {m : Nat} {O O' : OpC} {u u' : Sto} (ho : ∀ i, ctC E O' u' i = ctC E O u i) : cwC E (m, O, u) = cwC E (m, O', u') := by
  unfold cwC
  refine List.map_congr_left (fun i _ => ?_)
  dsimp only
  rw [ho]
/-- a walk while the world is made: n slots may have been made, and just the world's cells -/
def GC (E : EE) (X : XX) (Q : State → Prop) (nL n pc : Nat) (ls : List (Nat × Value)) (st : List Value) (w : CW) : Prop :=
  ∀ (H : Heap) (locs : List Loc) (ar : Array Slot), va_P E.D vwCl (cwC E w) H → va_S (A0 E) X.s.heap H locs → lv_has ar nL ls → W X.p E.l X.e X.R X.s X.m X.args X.below X.meth X.c H locs (E.sz + w.1 - X.s.heap.size) n Q (F0 X.m pc ar st)
def rmC (L mc ms : Nat) : Room := { frames := L, cells := mc, slots := ms, locals := 40 * L }
def WC (E : EE) (w : CW) (U : State) : Prop := EnvOK E U ∧ va_P E.D vwCl (cwC E w) U.heap ∧ U.heap.size = E.sz + w.1
def QcC (E : EE) (w : CW) : Array Value → State → Outcome → State → Prop := fun _ st oc t => oc = .returned none ∧ WC E w t ∧ va_F (A0 E) st t
/-- the contract of what makes: from the world w to the world w' -/
def CtC (E : EE) (L ms : Nat) (y : MethodName) (cc : ByteArray) (nL : Nat) (as : List Value) (w w' : CW) : Prop :=
  Met E.l y [.code y cc nL none] (rmC L (w'.1 - w.1) ms) (va_Pc as (fun U => WC E w U)) (QcC E w') (w'.1 - w.1) ms (A0 E)
def QMC (E : EE) (X : XX) (w : CW) (mc ms : Nat) : State → Prop := MQ X.below (QcC E w) X.args X.s mc ms (A0 E)
/-- what a walk there stands on: its room, where the heap stood -/
def RC (E : EE) (X : XX) (L mc ms m0 : Nat) : Prop := X.R = rmC L mc ms ∧ X.s.heap.size = E.sz + m0
theorem ctc_of {E : EE} {L ms : Nat} {y : MethodName} {cc : ByteArray} {nL : Nat} {as : List Value} {w w' : CW} (hy : plainName y.cls = true) (hn : (lg_sl as).length ≤ nL)
    (body : ∀ X : XX, CX E X y.cls cc nL → RC E X L (w'.1 - w.1) ms w.1 → X.meth.sig.returnType = none → X.meth.name = y.name → GC E X (QMC E X w' (w'.1 - w.1) ms) nL 0 0 (lv_args 0 as) [] w) : CtC E L ms y cc nL as w w' := by
  refine Met.ofW (cc := cc) (maxL := nL) (ret := none) hy rfl ?_
  intro p e s m args below meth c s₁ B hml hv
  obtain ⟨rfl, hE, hP, hz⟩ := hv
  have hl := lv_entry as (n := nL) hn
  rw [lg_entry_eq]
  have hnm := name_of_methodNamed B.named B.method
  have K := body (p, e, (rmC L (w'.1 - w.1) ms), s, m, as.toArray, below, meth, c) ⟨B.exec, B.bytes, hml, findClass_of_methodNamed B.named, B.notSynchronized, hE⟩ ⟨rfl, hz⟩ B.returns hnm.1 s.heap [] _ hP va_S.rf hl
  rw [show E.sz + w.1 - s.heap.size = 0 by omega] at K
  exact K
theorem ctc_ofF {E : EE} {L ms : Nat} {y : MethodName} {cc : ByteArray} {nL : Nat} {as : List Value} {w w' : CW} (hy : plainFor y = true) (hn : (lg_sl as).length ≤ nL)
    (body : ∀ X : XX, CX E X y.cls cc nL → RC E X L (w'.1 - w.1) ms w.1 → X.meth.sig.returnType = none → X.meth.name = y.name → GC E X (QMC E X w' (w'.1 - w.1) ms) nL 0 0 (lv_args 0 as) [] w) : CtC E L ms y cc nL as w w' := by
  unfold CtC Met
  refine MetFree.of_bodySF (code := cc) (maxLocals := nL) (ret := none) hy ?_ ?_
  · intro args s m h hn
    obtain ⟨meth, c, h1, h2, h3, h4, h5, h6, -, -⟩ := Cond.code_spec hn (atoms_spec (ws := [.code y cc nL none]) h _ List.mem_cons_self)
    exact ⟨meth, c, h1, h2, h3, h4, h5, h6⟩
  · intro p e s m args below meth c s₁ B hml hv _
    have hh0 : s₁.heap = s.heap := by rw [B.state]; rfl
    obtain ⟨rfl, hE, hP, hz⟩ := hv
    have hl := lv_entry as (n := nL) hn
    have hnm := name_of_methodNamed B.named B.method
    have K := body (p, e, (rmC L (w'.1 - w.1) ms), s, m, as.toArray, below, meth, c) ⟨B.exec, B.bytes, hml, findClass_of_methodNamed B.named, B.notSynchronized, hE⟩ ⟨rfl, hz⟩ B.returns hnm.1 s.heap [] _ hP va_S.rf hl
    rw [show E.sz + w.1 - s.heap.size = 0 by omega] at K
    obtain ⟨t, a1, o9, b1, b2, b3⟩ := K s₁ hh0 (Stand.of_body B)
    rw [← lg_entry_eq] at a1
    exact ⟨t, o9, a1, b1, b2, b3⟩
section GCR
variable {E : EE} {X : XX} {Q : State → Prop} {own : String} {cc : ByteArray} {nL n pc : Nat} {ls ls' : List (Nat × Value)} {st : List Value} {w : CW}
theorem gc_iconst (h : CX E X own cc nL) {k : Int} {v : Int32} (hd : decode cc pc = .ok (.iconst k, 1)) (hv : Int32.ofInt k = v) (kk : GC E X Q nL n (pc + 1) ls (.int v :: st) w) : GC E X Q nL n pc ls (st) w := fun H locs ar hP hS hl => lv_iconst h.1 h.2.1 hd hv (kk H locs ar hP hS hl)
theorem gc_bipush (h : CX E X own cc nL) {k : Int} {v : Int32} (hd : decode cc pc = .ok (.bipush k, 2)) (hv : (Int8.ofInt k).toInt32 = v) (kk : GC E X Q nL n (pc + 2) ls (.int v :: st) w) : GC E X Q nL n pc ls (st) w := fun H locs ar hP hS hl => lv_bipush h.1 h.2.1 hd hv (kk H locs ar hP hS hl)
theorem gc_sipush (h : CX E X own cc nL) {k : Int} {v : Int32} (hd : decode cc pc = .ok (.sipush k, 3)) (hv : (Int16.ofInt k).toInt32 = v) (kk : GC E X Q nL n (pc + 3) ls (.int v :: st) w) : GC E X Q nL n pc ls (st) w := fun H locs ar hP hS hl => lv_sipush h.1 h.2.1 hd hv (kk H locs ar hP hS hl)
theorem gc_iload_n (h : CX E X own cc nL) {k : Fin 4} {i : Nat} {x : Int32} (hd : decode cc pc = .ok (.iload_n k, 1)) (hi : (k : Nat) = i) (hg : lkL ls i = some (.int x)) (kk : GC E X Q nL n (pc + 1) ls (.int x :: st) w) : GC E X Q nL n pc ls (st) w := fun H locs ar hP hS hl => lv_iload_n h.1 h.2.1 hd hi (lk_at hl hg) (kk H locs ar hP hS hl)
theorem gc_aload_n (h : CX E X own cc nL) {k : Fin 4} {i : Nat} {x : Nat} (hd : decode cc pc = .ok (.aload_n k, 1)) (hi : (k : Nat) = i) (hg : lkL ls i = some (.ref x)) (kk : GC E X Q nL n (pc + 1) ls (.ref x :: st) w) : GC E X Q nL n pc ls (st) w := fun H locs ar hP hS hl => lv_aload_n h.1 h.2.1 hd hi (lk_at hl hg) (kk H locs ar hP hS hl)
theorem gc_istore_n (h : CX E X own cc nL) {k : Fin 4} {i : Nat} {x : Int32} (hd : decode cc pc = .ok (.istore_n k, 1)) (hi : (k : Nat) = i) (hn : i < nL) (hc : cat1 ls = true) (hs : lset ls i (.int x) = ls') (kk : GC E X Q nL n (pc + 1) ls' st w) : GC E X Q nL n pc ls (.int x :: st) w := fun H locs ar hP hS hl => lv_istore_n h.1 h.2.1 hd hi hl hn rfl (fun ar9 hl9 => kk H locs ar9 hP hS (lset_has hc hs hl9))
theorem gc_astore_n (h : CX E X own cc nL) {k : Fin 4} {i : Nat} {x : Nat} (hd : decode cc pc = .ok (.astore_n k, 1)) (hi : (k : Nat) = i) (hn : i < nL) (hc : cat1 ls = true) (hs : lset ls i (.ref x) = ls') (kk : GC E X Q nL n (pc + 1) ls' st w) : GC E X Q nL n pc ls (.ref x :: st) w := fun H locs ar hP hS hl => lv_astore_n h.1 h.2.1 hd hi hl hn rfl (fun ar9 hl9 => kk H locs ar9 hP hS (lset_has hc hs hl9))
theorem gc_iadd (h : CX E X own cc nL) {x y : Int32} (hd : decode cc pc = .ok (.iadd, 1)) (kk : GC E X Q nL n (pc + 1) ls (.int (x + y) :: st) w) : GC E X Q nL n pc ls (.int y :: .int x :: st) w := fun H locs ar hP hS hl => lv_iadd h.1 h.2.1 hd (kk H locs ar hP hS hl)
theorem gc_imul (h : CX E X own cc nL) {x y : Int32} (hd : decode cc pc = .ok (.imul, 1)) (kk : GC E X Q nL n (pc + 1) ls (.int (x * y) :: st) w) : GC E X Q nL n pc ls (.int y :: .int x :: st) w := fun H locs ar hP hS hl => lv_imul h.1 h.2.1 hd (kk H locs ar hP hS hl)
theorem gc_dup (h : CX E X own cc nL) {a : Value} (hd : decode cc pc = .ok (.dup, 1)) (ha : a.category = 1) (kk : GC E X Q nL n (pc + 1) ls (a :: a :: st) w) : GC E X Q nL n pc ls (a :: st) w := fun H locs ar hP hS hl => lv_dup h.1 h.2.1 hd ha (kk H locs ar hP hS hl)
theorem gc_goto (h : CX E X own cc nL) {off : Int} {tgt : Nat} (hd : decode cc pc = .ok (.goto off, 3)) (ht : (pc : Int) + off = (tgt : Int)) (kk : GC E X Q nL n (tgt) ls (st) w) : GC E X Q nL n pc ls (st) w := fun H locs ar hP hS hl => lv_goto h.1 h.2.1 hd ht (kk H locs ar hP hS hl)
theorem gc_icmp_ge (h : CX E X own cc nL) {x y : Int32} {off : Int} {tgt : Nat} (hd : decode cc pc = .ok (.if_icmp .ge off, 3)) (ht : (pc : Int) + off = (tgt : Int)) (kt : y ≤ x → GC E X Q nL n tgt ls st w) (kf : ¬ y ≤ x → GC E X Q nL n (pc + 3) ls st w) : GC E X Q nL n pc ls (.int y :: .int x :: st) w := fun H locs ar hP hS hl => lv_icmp_ge h.1 h.2.1 hd ht (fun q => kt q H locs ar hP hS hl) (fun q => kf q H locs ar hP hS hl)
theorem gc_istore (h : CX E X own cc nL) {i : Nat} {x : Int32} (hd : decode cc pc = .ok (.istore i, 2)) (hn : i < nL) (hc : cat1 ls = true) (hs : lset ls i (.int x) = ls') (kk : GC E X Q nL n (pc + 2) ls' st w) : GC E X Q nL n pc ls (.int x :: st) w := fun H locs ar hP hS hl => lv_istore h.1 h.2.1 hd hl hn rfl (fun ar9 hl9 => kk H locs ar9 hP hS (lset_has hc hs hl9))
theorem gc_top {x y : Int32} (e : x = y) (kk : GC E X Q nL n pc ls (.int y :: st) w) : GC E X Q nL n pc ls (.int x :: st) w := e ▸ kk
theorem gc_ls (hs : ∀ q ∈ ls', lkL ls q.1 = some q.2) (kk : GC E X Q nL n pc ls' st w) : GC E X Q nL n pc ls st w := fun H locs ar hP hS hl => kk H locs ar hP hS (lv_fewer hl hs)
theorem gc_iinc (h : CX E X own cc nL) {i : Nat} {k : Int} {x v : Int32} (hd : decode cc pc = .ok (.iinc i k, 3)) (hg : lkL ls i = some (.int x)) (hv : x + Int32.ofInt k = v) (hn : i < nL) (hc : cat1 ls = true) (hs : lset ls i (.int v) = ls') (kk : GC E X Q nL n (pc + 3) ls' st w) : GC E X Q nL n pc ls st w := fun H locs ar hP hS hl => by
  obtain ⟨j, hj⟩ := List.getElem?_of_mem (lk_mem hg)
  exact lv_iinc (k := j) h.1 h.2.1 hd hl hj hv hn rfl (fun ar9 hl9 => kk H locs ar9 hP hS (lset_has hc hs hl9))
/-- how large the heap is: just the world's cells have come -/
theorem sz_of {m0 : Nat} {H : Heap} {locs : List Loc} {T : State} {k n : Nat} (hz : X.s.heap.size = E.sz + m0) (hm : m0 ≤ w.1) (hP : va_P E.D vwCl (cwC E w) H) (hS : va_S (A0 E) X.s.heap H locs) (hT : T.heap = H) (hk : k = E.sz + w.1 - X.s.heap.size) (XT : Stand X.p E.l X.e X.R X.s X.m X.args X.below X.meth X.c T locs k n) : H.size = E.sz + w.1 := by
  have h1 := XT.heapSize
  rw [hT, hk] at h1
  have h2 : E.sz + w.1 ≤ H.size := by
    by_cases c : w.1 = m0
    · rw [c, ← hz]; exact hS.1
    · have h3 := (hP (w.1 - 1) _ (cw_at (w := w) (i := w.1 - 1) (by omega))).lt
      have h3 : E.sz + (w.1 - 1) < H.size := h3
      omega
  omega
/-- an open cell is closed: it has its picture -/
theorem gc_close {m k : Nat} {e : va_E} {O : OpC} {u : Sto} (ho : opL O k = none) (he : e = cellE E.cy E.ad (shp k) (u k)) (kk : GC E X Q nL n pc ls st (m, O, u)) : GC E X Q nL n pc ls st (m, (k, e) :: O, u) := fun H locs ar hP hS hl => by
  refine kk H locs ar ?_ hS hl
  rw [cw_eq (O' := O) (u' := u)] at hP
  · exact hP
  · intro i
    by_cases hi : i = k
    · subst hi
      rw [ct_n ho, ct_o opL_hd, he]
    · unfold ctC
      rw [opL_tl hi]
theorem gc_more {k : Nat} (hk : n ≤ k) (kk : GC E X Q nL k pc ls st w) : GC E X Q nL n pc ls st w := fun H locs ar hP hS hl => W.widen (Nat.le_refl _) hk (kk H locs ar hP hS hl)
theorem gc_get (h : CX E X own cc nL) (hA : AdC E) {k idx ci j : Nat} {fs : List Value} {v : Value} (hf : FLk own idx ci j) (hk : ordC k < w.1) (he : ctC E w.2.1 w.2.2 k = .inr (ci, fs)) (hv : fs[j]? = some v) (hd : decode cc pc = .ok (.getfield idx, 3))
    (kk : GC E X Q nL n (pc + 3) ls (v :: st) w) : GC E X Q nL n pc ls (.ref (E.ad k) :: st) w := fun H locs ar hP hS hl => by
  obtain ⟨⟨C, T, N⟩, h1, h2, h3, h4⟩ := hf
  have hw : (cwC E w)[ordC k]? = some (E.ad k, .inr (ci, fs)) := by rw [cw_k hA hk, he]
  rcases h4 with h4 | ⟨host, h4⟩
  · exact va_get (D := E.D) (cl := vwCl) (tys := tysE E) h.1 h.2.1 (env_ws h) h3 h.2.2.2.1 h.2.2.2.2.2.2.1 hP (ordC k) hw h1 j h2 (env_w h h4) (fun _ h9 => h9) hv hd (kk H locs ar hP hS hl)
  · exact va_getN (D := E.D) (cl := vwCl) (tys := tysE E) h.1 h.2.1 (env_ws h) h3 h.2.2.2.1 h.2.2.2.2.2.2.1 hP (ordC k) hw h1 j h2 (env_w h h4) (fun _ h9 => h9) hv hd (kk H locs ar hP hS hl)
/-- a field that a constructor writes -/
def PFk (own : String) (idx ci j : Nat) (ty : FieldType) : Prop := ∃ q : vw_C, vwCl[ci]? = some q ∧ j < q.2.2 ∧ (∀ w ∈ u_ws q.1 q.2.1 q.2.2, w ∈ TW) ∧ Cond.fieldLink own idx (q.2.1 j).1 (q.2.1 j).2.1 (q.2.1 j).2.2.1 ∈ TW ∧ (q.2.1 j).1 = own ∧ parseFieldDescriptor (q.2.1 j).2.2.1 = some ty ∧ (∃ ty0 : Nat → FieldType, ∀ k, k < q.2.2 → parseFieldDescriptor (q.2.1 k).2.2.1 = some (ty0 k)) ∧ (∀ a, a < q.2.2 → ∀ b, b < q.2.2 → a ≠ b → (q.2.1 a).2.1 ≠ (q.2.1 b).2.1)
theorem gc_put (h : CX E X own cc nL) (hA : AdC E) (hi : X.meth.name = "<init>") {m k idx ci j : Nat} {O : OpC} {u : Sto} {fs fs' : List Value} {ty : FieldType} {v : Value} (hf : PFk own idx ci j ty) (hk : ordC k < m) (hn : narrow ty v = v) (hfit : fits ty v = true) (hj : j < fs.length) (hd : decode cc pc = .ok (.putfield idx, 3)) (hfs : fs.set j v = fs')
    (kk : GC E X Q nL n (pc + 3) ls st (m, (k, .inr (ci, fs')) :: O, u)) : GC E X Q nL n pc ls (v :: .ref (E.ad k) :: st) (m, (k, .inr (ci, fs)) :: O, u) := fun H locs ar hP hS hl => by
  subst hfs
  obtain ⟨⟨C, T, N⟩, h1, h2, h3, h4, h5, h6, ⟨ty0, h7⟩, h8⟩ := hf
  have hw : (cwC E (m, (k, .inr (ci, fs)) :: O, u))[ordC k]? = some (E.ad k, .inr (ci, fs)) := by rw [cw_k hA hk, ct_h]
  have hs : (cwC E (m, (k, .inr (ci, fs)) :: O, u)).set (ordC k) (E.ad k, .inr (ci, fs.set j v)) = cwC E (m, (k, .inr (ci, fs.set j v)) :: O, u) := cw_set hA hk ct_h (fun i hi => by rw [ct_t hi, ct_t hi])
  cases hfin : (T j).2.2.2 with
  | true =>
    refine va_putF (D := E.D) (cl := vwCl) (tys := tysE E) h.1 h.2.1 (env_ws h) h3 ty0 h7 h8 h.2.2.2.1 h.2.2.2.2.2.2.1 hP (cwD _) hS (ordC k) hw h1 j h2 (env_w h h4) (fun _ h9 => h9) hfin hi h5 h6 hn hfit hj hd (fun H1 locs1 hP1 hD1 hS1 => ?_)
    rw [hs] at hP1
    exact kk H1 locs1 ar hP1 hS1 hl
  | false =>
    refine va_put (D := E.D) (cl := vwCl) (tys := tysE E) h.1 h.2.1 (env_ws h) h3 ty0 h7 h8 h.2.2.2.1 h.2.2.2.2.2.2.1 hP (cwD _) hS (ordC k) hw h1 j h2 (env_w h h4) (fun _ h9 => h9) hfin h6 hn hfit hj hd (fun H1 locs1 hP1 hD1 hS1 => ?_)
    rw [hs] at hP1
    exact kk H1 locs1 ar hP1 hS1 hl
theorem gc_iast (h : CX E X own cc nL) (hA : AdC E) {m : Nat} {O : OpC} {u : Sto} (k i N : Nat) {x v : Int32} (hs : shp k = .inr (.inl (0, N))) (ho : opL O k = none) (hk : ordC k < m) (hN : N < 2 ^ 31) (hx : x = nI i) (hi : i < N) (hd : decode cc pc = .ok (.iastore, 1)) (kk : GC E X Q nL n (pc + 1) ls st (m, O, su u k i v)) : GC E X Q nL n pc ls (.int v :: .int x :: .ref (E.ad k) :: st) (m, O, u) := fun H locs ar hP hS hl => by
  subst hx
  have hw : (cwC E (m, O, u))[ordC k]? = some (E.ad k, .inl (E.cy 0, N, .inl (u k))) := by rw [cw_k hA hk, ct_n ho, hs]; rfl
  have e : (nI i).toNatClampNeg = i := nI_clamp (Nat.lt_trans hi hN)
  refine va_iast (D := E.D) (cl := vwCl) (tys := tysE E) h.1 h.2.1 h.2.2.2.2.2.2.1 hP (cwD _) hS (ordC k) 0 (n := N) (f := u k) hw rfl (vp_in_nI hi hN) hd (fun H1 locs1 hP1 hD1 hS1 => ?_)
  rw [e, cw_set hA (O' := O) (u' := su u k i v) hk (by rw [ct_n ho, hs, su_at]; rfl) (fun j hj => by unfold ctC; rw [su_cell _ _ hj])] at hP1
  exact kk H1 locs1 ar hP1 hS1 hl
theorem gc_alen (h : CX E X own cc nL) (hA : AdC E) {m : Nat} {O : OpC} {u : Sto} (k N : Nat) (hs : shp k = .inr (.inl (0, N))) (ho : opL O k = none) (hk : ordC k < m) (hd : decode cc pc = .ok (.arraylength, 1)) (kk : GC E X Q nL n (pc + 1) ls (.int (nI N) :: st) (m, O, u)) : GC E X Q nL n pc ls (.ref (E.ad k) :: st) (m, O, u) := fun H locs ar hP hS hl => by
  have hw : (cwC E (m, O, u))[ordC k]? = some (E.ad k, .inl (E.cy 0, N, .inl (u k))) := by rw [cw_k hA hk, ct_n ho, hs]; rfl
  exact va_alen (D := E.D) (cl := vwCl) (tys := tysE E) h.1 h.2.1 h.2.2.2.2.2.2.1 hP (ordC k) 0 (x := (N, .inl (u k))) hw rfl rfl hd (kk H locs ar hP hS hl)
/-- a cell comes -/
theorem gc_came {m m0 k : Nat} {O O' : OpC} {u : Sto} {e : va_E} {H H1 : Heap} {locs : List Loc} (hz : X.s.heap.size = E.sz + m0) (hm : m0 ≤ m) (hk : invC m = k) (hP : va_P E.D vwCl (cwC E (m, O, u)) H) (hS : va_S (A0 E) X.s.heap H locs) (hsz : H.size = E.sz + m) (z1 : H1.size = H.size + 1) (o1 : ∀ q : Nat, q < H.size → H1[q]? = H[q]?) (he : ctC E O' u k = e) (ho : ∀ i, i ≠ k → ctC E O' u i = ctC E O u i) (ha : va_at E.D vwCl (H.size, e) H1) : va_P E.D vwCl (cwC E (m + 1, O', u)) H1 ∧ va_S (A0 E) X.s.heap H1 locs := by
  subst hk
  refine ⟨?_, ⟨Nat.le_trans hS.1 (by omega), fun x h1 h2 => (o1 x (Nat.lt_of_lt_of_le h1 hS.1)).trans (hS.2.1 x h1 h2), hS.2.2⟩⟩
  rw [← cw_push he (fun i hi => ho _ (fun q => by
    have := congrArg ordC q
    rw [ord_inv, ord_inv] at this
    omega))]
  refine (hP.kept (fun k x hx => o1 x.1 ((hP k x hx).lt))).app (fun k x hx => ?_)
  have hz : k < 1 := (List.getElem?_eq_some_iff.mp hx).1
  rw [show k = 0 by omega] at hx
  cases hx
  rw [← hsz]
  exact ha
end GCR
