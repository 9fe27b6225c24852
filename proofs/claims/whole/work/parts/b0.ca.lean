-- after: a8.pm
/-! a throw that a handler of the walked method takes: the search resolves the classes of the rows as it goes -/
/-- the search ends with h, and leaves these tables -/
def fndT (e : Env) (s : State) (f : JFrame) (a : Addr) (L : List ExceptionTableEntry) (h : Handler) (vm' : Vm) : Prop := ∀ (Q : Handler → Pre) (E : CtlPost) (d : Bool) (acts : List Action), wp (findHandler.go f a L) Q E e d acts s ↔ Q h d acts (s.setVm vm')
/-- a row whose class is linked: it is noted; it takes the thing, or the search goes on -/
theorem row_link {e : Env} {s : State} {f : JFrame} {a : Addr} {Q : Handler → Pre} {E : CtlPost} {d : Bool} {acts : List Action} {x : ExceptionTableEntry} {t : List ExceptionTableEntry} {c : ClassId} {cell : Cell} (hx : covers x f.pc = true) (h0 : x.catchType ≠ 0) (hl : s.vm.ClassLinks e.platform f.method.cls x.catchType c) (hcell : s.heap[a]? = some cell) (hobj : ∀ k, cell.vm ≠ .statics k) (hk : ∃ k, s.vm.classes[cell.cls]? = some k) (hc : ∃ k, s.vm.classes[c]? = some k) :
    wp (findHandler.go f a (x :: t)) Q E e d acts s ↔ if s.vm.assignable cell.cls c = true then Q (.found x.handlerPc) d acts (s.setVm (s.vm.noted f.method.cls x.catchType (.cls c))) else wp (findHandler.go f a t) Q E e d acts (s.setVm (s.vm.noted f.method.cls x.catchType (.cls c))) := by
  have hx2 : (decide (x.startPc ≤ f.pc) && decide (f.pc < x.endPc)) = true := hx
  obtain ⟨ha, ht⟩ := (resolveClass_links e.toSetting hl).op (op := VmOp.resolveClass f.method.cls x.catchType) rfl
  have hal : s.vm.Alike (s.vm.noted f.method.cls x.catchType (.cls c)) := (Vm.Alike.refl s.vm).noted _ _ _
  obtain ⟨k1, hk1⟩ := hk
  obtain ⟨k2, hk2⟩ := hc
  obtain ⟨j1, hj1, -⟩ := hal.2.2 _ _ hk1
  obtain ⟨j2, hj2, -⟩ := hal.2.2 _ _ hk2
  have has : (s.vm.noted f.method.cls x.catchType (.cls c)).assignable cell.cls c = s.vm.assignable cell.cls c := hal.assignable _ _
  cases hfit : s.vm.assignable cell.cls c <;> simp [findHandler.go, hx2, h0, ha, ht, hcell, hobj, hj1, hj2, has, hfit, VmOp.dirties, VmOp.acts]
/-- through the rows ahead, to the row that takes it -/
theorem rows_to {e : Env} {s₀ : State} {f : JFrame} {a : Addr} {cell : Cell} {x : ExceptionTableEntry} {suf : List ExceptionTableEntry} {cx : ClassId} (hobj : ∀ k, cell.vm ≠ .statics k) (hk : ∃ k, s₀.vm.classes[cell.cls]? = some k) (hx : covers x f.pc = true) (hx0 : x.catchType ≠ 0) (hlx : s₀.vm.ClassLinks e.platform f.method.cls x.catchType cx) (hax : s₀.vm.assignable cell.cls cx = true) :
    ∀ (pre : List ExceptionTableEntry) (S : State), s₀.WarmedH S.vm → S.heap[a]? = some cell → (∀ z ∈ pre, covers z f.pc = false ∨ (z.catchType ≠ 0 ∧ ∃ cz, s₀.vm.ClassLinks e.platform f.method.cls z.catchType cz ∧ s₀.vm.assignable cell.cls cz = false)) →
      ∃ vm', s₀.WarmedH vm' ∧ fndT e S f a (pre ++ x :: suf) (.found x.handlerPc) vm' := by
  have kept : ∀ {S : State} {y : ExceptionTableEntry} {cy : ClassId}, s₀.WarmedH S.vm → s₀.vm.ClassLinks e.platform f.method.cls y.catchType cy → s₀.WarmedH (S.vm.noted f.method.cls y.catchType (.cls cy)) ∧ (∃ k, S.vm.classes[cell.cls]? = some k) ∧ (∃ k, S.vm.classes[cy]? = some k) ∧ S.vm.assignable cell.cls cy = s₀.vm.assignable cell.cls cy := by
    intro S y cy hW hl
    obtain ⟨k0, hk0⟩ := hk
    obtain ⟨dk, _, _, kt, hd, _, _, _, _, hkt, _, hopen⟩ := hl.here
    obtain ⟨j0, hj0, -⟩ := hW.alike.2.2 _ _ hk0
    obtain ⟨jt, hjt, -⟩ := hW.alike.2.2 _ _ hkt
    exact ⟨hW.noted hd hopen (State.rightAt_cls hl), ⟨j0, hj0⟩, ⟨jt, hjt⟩, hW.alike.assignable _ _⟩
  intro pre
  induction pre with
  | nil =>
    intro S hW hcell _
    obtain ⟨w1, w2, w3, w4⟩ := kept hW hlx
    refine ⟨_, w1, fun Q E d acts => ?_⟩
    rw [List.nil_append, row_link hx hx0 (hW.classLinks hlx) hcell hobj w2 w3, if_pos (by rw [w4]; exact hax)]
  | cons z pre ih =>
    intro S hW hcell hp
    have hp2 := fun y hy => hp y (List.mem_cons_of_mem _ hy)
    by_cases hz : covers z f.pc = true
    · rcases hp z List.mem_cons_self with h | ⟨h0, cz, hlz, haz⟩
      · rw [h] at hz
        cases hz
      · obtain ⟨w1, w2, w3, w4⟩ := kept hW hlz
        obtain ⟨vm', v1, v2⟩ := ih (S.setVm (S.vm.noted f.method.cls z.catchType (.cls cz))) w1 hcell hp2
        refine ⟨vm', v1, fun Q E d acts => ?_⟩
        rw [List.cons_append, row_link hz h0 (hW.classLinks hlz) hcell hobj w2 w3, if_neg (by rw [w4, haz]; decide)]
        exact v2 Q E d acts
    · obtain ⟨vm', v1, v2⟩ := ih S hW hcell hp2
      refine ⟨vm', v1, fun Q E d acts => ?_⟩
      rw [List.cons_append, W.findHandler_go_skip (by simpa using hz)]
      exact v2 Q E d acts
theorem frm_vm (u : State) (v : Vm) (F K : List Frame) : ((u.setFrames F).setVm v).setFrames K = (u.setVm v).setFrames K := by
  show ((u.setVm v).setFrames F).setFrames K = _
  rw [State.setFrames_setFrames]
/-- into the handler -/
theorem into_h {tb : Tables} {e : Env} {s target : State} {g : JFrame} {c : Code} {below : List Frame} {a : Addr} {meth : Method} {pc : Nat} {vm' : Vm} (h : At s g.method c below) (hm : s.vm.method? g.method = some meth) (hc : meth.code = some c) (hf : fndT e ((s.setTop g).pushFrame (.throwing a)) g a c.exceptionTable.toList (.found pc) vm') (hrest : Steps tb e below ((s.setVm vm').setTop { g with pc := pc, stack := [.ref a] }) target) :
    Steps tb e below ((s.setTop g).pushFrame (.throwing a)) target := by
  obtain ⟨hgo, hw⟩ := h.throwing a
  obtain ⟨g₀, hg⟩ := Option.isSome_iff_exists.mp h.top
  obtain ⟨r, hr⟩ := State.topJava?_eq_some.mp hg
  refine Steps.head hgo hw ?_
  have hm2 : ((s.setTop g).pushFrame (.throwing a)).vm.method? g.method = some meth := by rw [Stand.throwing_vm]; exact hm
  have hstep : (stepThrowing e ((s.setTop g).pushFrame (.throwing a)) a (.java g :: r)).Is ((((s.setTop g).pushFrame (.throwing a)).setVm vm').setFrames (.java { g with pc := pc, stack := [.ref a] } :: r)) [] := by
    simp only [stepThrowing, searchFrame, vmDo]
    generalize hres : Sem.go _ e false [] ((s.setTop g).pushFrame (.throwing a)) = res
    obtain ⟨as, rfl, ha⟩ := Sem.eq_ok_of hres (a := Handler.found pc) (s' := ((s.setTop g).pushFrame (.throwing a)).setVm vm') (acts' := []) (by simp [W.findHandler_eq hm2 hc, hf _ _ _ _])
    exact ⟨rfl, ha⟩
  have hr2 : (s.setVm vm').frames = .java g₀ :: r := hr
  rw [State.setTop_of_frames _ hr2] at hrest
  rw [stepThread_throwing (frames_entered h.top _), hr, List.tail_cons, hstep.1, State.pushFrame, frm_vm, State.setTop_of_frames _ hr, frm_vm]
  exact hrest
section CA
variable {p : Program} {l : Launch} {e : Env} {R : Room} {s : State} {m : MethodId} {args : Array Value} {below : List Frame} {meth : Method} {c : Code} {H : Heap} {locs : List Loc} {cells slots : Nat} {Q : State → Prop} {pc : Nat} {ls : Array Slot} {rest : List Value}
/-- a throw that comes to a walked frame, and the row of its table that takes it -/
theorem vx_catch {own name : String} {E : String} {ce : Cell} {q : Addr} (hown : s.vm.findClass own = some m.cls) (pre : List ExceptionTableEntry) (x : ExceptionTableEntry) (suf : List ExceptionTableEntry) (hsplit : c.exceptionTable.toList = pre ++ x :: suf)
    (hpass : ∀ z ∈ pre, covers z pc = false ∨ (z.catchType ≠ 0 ∧ ∃ nm : String, (Cond.classLink own z.catchType nm).before args s = true ∧ va_Nc E nm s)) (hx : covers x pc = true) (h0 : x.catchType ≠ 0)
    (hlink : (Cond.classLink own x.catchType name).before args s = true) (hcast : (Cond.castable E name).before args s = true) (hcell : H[q]? = some ce) (hv : ce.vm = .none) (hcl : s.vm.findClass E = some ce.cls)
    (kk : W p l e R s m args below meth c H locs cells slots Q (F0 m x.handlerPc ls [.ref q])) : vx_W p l e R s m args below meth c H locs cells slots Q (F0 m pc ls rest) q := by
  intro T hT X
  have hpl : e.platform.magicAccessors = ({} : Platform).magicAccessors := by rw [X.admits.platform]
  obtain ⟨c3, c4, hc3, hc4, hasg⟩ := Cond.castable_spec hcast
  cases Option.some.inj (hc3.symm.trans hcl)
  obtain ⟨c5, hc5, hl5⟩ := Cond.classLink_spec hown hlink e.platform hpl
  cases Option.some.inj (hc4.symm.trans hc5)
  obtain ⟨k9, hk9, -⟩ := Vm.findClass_spec hcl
  have hobj : ∀ k, ce.vm ≠ .statics k := fun k h => by rw [hv] at h; cases h
  obtain ⟨vm', w1, w2⟩ := rows_to (e := e) (s₀ := s) (f := F0 m pc ls rest) (a := q) (x := x) (suf := suf) hobj ⟨k9, hk9⟩ hx h0 hl5 hasg pre ((T.setTop (F0 m pc ls rest)).pushFrame (.throwing q)) (by rw [Stand.throwing_vm]; exact X.warmed) (by rw [Stand.throwing_heap, hT]; exact hcell) (fun z hz => by
    rcases hpass z hz with h | ⟨hz0, nm, hl1, hn1⟩
    · exact Or.inl h
    · obtain ⟨c6, hc6, hl6⟩ := Cond.classLink_spec hown hl1 e.platform hpl
      obtain ⟨a8, b8, h1, h2, h3⟩ := hn1
      cases Option.some.inj (h1.symm.trans hcl)
      cases Option.some.inj (h2.symm.trans hc6)
      exact Or.inr ⟨hz0, _, hl6, h3⟩)
  rw [← hsplit] at w2
  obtain ⟨t, a1, b1⟩ := kk (T.setVm vm') hT (X.noted w1)
  exact ⟨t, into_h X.here X.method' X.code w2 a1, b1⟩
end CA
