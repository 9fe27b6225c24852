/-! the run's own things: launch, where the classes and fields are, classes of rows, where the cells are, the heap's size at the start, where the texts are -/
abbrev EE : Type := Launch × va_G × (Nat → ClassId) × (Nat → Nat) × Nat × (Nat → Nat) × (Nat → Nat)
abbrev EE.l (E : EE) : Launch := E.1
abbrev EE.D (E : EE) : va_G := E.2.1
abbrev EE.cy (E : EE) : Nat → ClassId := E.2.2.1
abbrev EE.ad (E : EE) : Nat → Nat := E.2.2.2.1
abbrev EE.sz (E : EE) : Nat := E.2.2.2.2.1
abbrev EE.aK (E : EE) : Nat → Nat := E.2.2.2.2.2.1
abbrev EE.aV (E : EE) : Nat → Nat := E.2.2.2.2.2.2
def A0 (E : EE) : Nat → Prop := fun q => E.sz ≤ q
def tysE (E : EE) : List (ClassId × FieldType) := [(E.cy 0, .int), (E.cy 1, .boolean), (E.cy 2, .long), (E.cy 3, .object "HourLets$Town")]
abbrev wsE (E : EE) (u : Sto) : va_W := wsW shp shN E.cy E.ad u
/-- what holds of the machine in every state of the run -/
def EnvOK (E : EE) (U : State) : Prop :=
  (∀ w ∈ TW, w.before #[] U = true) ∧ va_K E.D vwCl (tysE E) U ∧ (∀ i j, i < shN → j < shN → E.ad i = E.ad j → i = j) ∧ (∀ i, i < shN → E.sz ≤ E.ad i) ∧ E.sz ≤ U.heap.size ∧ E.l.stackTraces = false
    ∧ vk_S strN strLen strByt E.aK E.aV (A0 E) U U.heap ∧ (∀ q ∈ strUse, vk_R q.1 q.2.1 q.2.2.1 (E.aK q.2.2.2) U)
    ∧ vx_Zq Bundle.tN "UNASSIGNED_STACK" Bundle.steD (A0 E) U U.heap ∧ vx_Zq Bundle.tN "SUPPRESSED_SENTINEL" Bundle.listD (A0 E) U U.heap
    ∧ va_Z "java/lang/String" "COMPACT_STRINGS" "Z" (.int 1) (A0 E) U U.heap
    ∧ va_Zq "jdk/internal/util/Preconditions" "SIOOBE_FORMATTER" "Ljava/util/function/BiFunction;" (A0 E) U U.heap
theorem EnvOK.moved {E : EE} {s U : State} (h : EnvOK E s) (hW : s.WarmedH U.vm) (hz : s.heap.size ≤ U.heap.size) (hq : ∀ q : Nat, q < s.heap.size → ¬ A0 E q → U.heap[q]? = s.heap[q]?) : EnvOK E U := by
  obtain ⟨h1, h2, h3, h4, h5, h6, h7, h8, h9, h10, h11, h12⟩ := h
  have ha := hW.alike
  exact ⟨fun w hw => stable_of (List.mem_filter.mp hw).2 hW (h1 w hw), va_K.moved ha h2, h3, h4, Nat.le_trans h5 hz, h6, vk_S.moved ha (h7.kept hq), fun q hq => vk_R.warm hW (h8 q hq), vx_Zq.moved ha (h9.kept hq), vx_Zq.moved ha (h10.kept hq), va_Z.moved ha (h11.kept hq), va_Zq.moved ha (h12.kept hq)⟩
def WOK (E : EE) (u : Sto) (U : State) : Prop := EnvOK E U ∧ va_P E.D vwCl (wsE E u) U.heap
abbrev Res : Type := Option Value ⊕ String
def QcO (E : EE) (o : Res) (u : Sto) : Array Value → State → Outcome → State → Prop := fun _ st oc t => ∃ v, o = .inl v ∧ oc = .returned v ∧ WOK E u t ∧ va_F (A0 E) st t
def XcO (E : EE) (o : Res) (u : Sto) : String → State → State → Prop := fun Ex st t => o = .inr Ex ∧ va_P E.D vwCl (wsE E u) t.heap ∧ va_F (A0 E) st t
abbrev rmL (L mc : Nat) : Room := { frames := L, cells := mc, slots := 6 * mc, locals := 40 * L }
/-- the contract: called with these in the world u, it ends with o, in the world u' -/
def Ct (E : EE) (L mc : Nat) (y : MethodName) (cc : ByteArray) (nL : Nat) (ret : Option FieldType) (as : List Value) (u : Sto) (o : Res) (u' : Sto) : Prop :=
  vx_Met E.l y [.code y cc nL ret] (rmL L mc) (va_Pc as (fun U => WOK E u U)) (QcO E o u') (XcO E o u') mc (6 * mc) (A0 E)
abbrev XX : Type := Program × Env × Room × State × MethodId × Array Value × List Frame × Method × Code
abbrev XX.p (X : XX) : Program := X.1
abbrev XX.e (X : XX) : Env := X.2.1
abbrev XX.R (X : XX) : Room := X.2.2.1
abbrev XX.s (X : XX) : State := X.2.2.2.1
abbrev XX.m (X : XX) : MethodId := X.2.2.2.2.1
abbrev XX.args (X : XX) : Array Value := X.2.2.2.2.2.1
abbrev XX.below (X : XX) : List Frame := X.2.2.2.2.2.2.1
abbrev XX.meth (X : XX) : Method := X.2.2.2.2.2.2.2.1
abbrev XX.c (X : XX) : Code := X.2.2.2.2.2.2.2.2
/-- where a walk stands: pc, the locals that are known, the stack, the store; so many cells may have been made -/
def G (E : EE) (X : XX) (Q : State → Prop) (nL n pc : Nat) (ls : List (Nat × Value)) (st : List Value) (u : Sto) : Prop :=
  ∀ (H : Heap) (locs : List Loc) (ar : Array Slot), va_P E.D vwCl (wsE E u) H → va_S (A0 E) X.s.heap H locs → lv_has ar nL ls → W X.p E.l X.e X.R X.s X.m X.args X.below X.meth X.c H locs n (6 * n) Q (F0 X.m pc ar st)
def CX (E : EE) (X : XX) (own : String) (cc : ByteArray) (nL : Nat) : Prop :=
  X.p.tables.exec = Jvm.exec ∧ X.c.code = cc ∧ X.c.maxLocals = nL ∧ X.s.vm.findClass own = some X.m.cls ∧ X.meth.locks = false ∧ EnvOK E X.s
def QM (E : EE) (X : XX) (o : Res) (u : Sto) (mc : Nat) : State → Prop := vx_MQ X.below (QcO E o u) (XcO E o u) X.args X.s mc (6 * mc) (A0 E)
/-- at a method's end -/
theorem wok_end {E : EE} {X : XX} {u : Sto} {H : Heap} {locs : List Loc} (hE : EnvOK E X.s) (hP : va_P E.D vwCl (wsE E u) H) (hS : va_S (A0 E) X.s.heap H locs) {t : State} (ht : t.heap = H) (hW : X.s.WarmedH t.vm) : WOK E u t := by
  subst ht
  exact ⟨hE.moved hW hS.1 (fun q h1 h2 => hS.2.1 q h1 h2), hP⟩
set_option maxHeartbeats 1000000 in
theorem ct_of {E : EE} {L mc : Nat} {y : MethodName} {cc : ByteArray} {nL : Nat} {ret : Option FieldType} {as : List Value} {u u' : Sto} {o : Res} (hy : plainName y.cls = true) (hn : (lg_sl as).length ≤ nL)
    (body : ∀ X : XX, CX E X y.cls cc nL → X.R = rmL L mc → X.meth.sig.returnType = ret → (∀ x ∈ X.c.exceptionTable.toList, False) → X.args = as.toArray → (y.name = "<init>" → X.meth.name = "<init>") → G E X (QM E X o u' mc) nL 0 0 (lv_args 0 as) [] u) : Ct E L mc y cc nL ret as u o u' := by
  refine vx_ofW (cc := cc) (maxL := nL) (ret := ret) hy rfl ?_
  intro p e s m args below meth c s₁ B hml hx hv
  obtain ⟨rfl, hE, hP⟩ := hv
  have hl := lv_entry as (n := nL) hn
  rw [lg_entry_eq]
  have hnm := name_of_methodNamed B.named B.method
  exact body (p, e, (rmL L mc), s, m, as.toArray, below, meth, c) ⟨B.exec, B.bytes, hml, findClass_of_methodNamed B.named, B.notSynchronized, hE⟩ rfl B.returns hx rfl (fun h => by rw [← h]; exact hnm.1) s.heap [] _ hP va_S.rf hl
