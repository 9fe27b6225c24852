/-- the same for a method of the JDK's for which no native stands in -/
theorem ct_ofF {E : EE} {L mc : Nat} {y : MethodName} {cc : ByteArray} {nL : Nat} {ret : Option FieldType} {as : List Value} {u u' : Sto} {o : Res} (hy : plainFor y = true) (hn : (lg_sl as).length ≤ nL)
    (body : ∀ X : XX, CX E X y.cls cc nL → X.R = rmL L mc → X.meth.sig.returnType = ret → (∀ x ∈ X.c.exceptionTable.toList, False) → X.args = as.toArray → G E X (QM E X o u' mc) nL 0 0 (lv_args 0 as) [] u) : Ct E L mc y cc nL ret as u o u' := by
  refine MetFree.of_bodySF (code := cc) (maxLocals := nL) (ret := ret) hy ?_ ?_
  · intro args s m h hn
    obtain ⟨meth, c, h1, h2, h3, h4, h5, h6, -, -⟩ := Cond.code_spec hn (atoms_spec (ws := [.code y cc nL ret]) h _ List.mem_cons_self)
    exact ⟨meth, c, h1, h2, h3, h4, h5, h6⟩
  · intro p e s m args below meth c s₁ B hml hv _
    have hh0 : s₁.heap = s.heap := by rw [B.state]; rfl
    have ht : ∀ x ∈ c.exceptionTable.toList, False := by
      obtain ⟨meth9, c9, h1, h2, -, -, -, -, h7, -⟩ := Cond.code_spec B.named (atoms_spec (ws := [.code y cc nL ret]) B.pre _ List.mem_cons_self)
      cases Option.some.inj (h1.symm.trans B.method)
      cases Option.some.inj (h2.symm.trans (Stand.of_body B).code)
      intro x hx
      rw [Array.isEmpty_iff] at h7
      rw [h7] at hx
      cases hx
    obtain ⟨rfl, hE, hP⟩ := hv
    have hl := lv_entry as (n := nL) hn
    have K := body (p, e, (rmL L mc), s, m, as.toArray, below, meth, c) ⟨B.exec, B.bytes, hml, findClass_of_methodNamed B.named, B.notSynchronized, hE⟩ rfl B.returns ht rfl s.heap [] _ hP va_S.rf hl
    obtain ⟨t, a1, o9, b1, b2, b3⟩ := K s₁ hh0 (Stand.of_body B)
    rw [← lg_entry_eq] at a1
    exact ⟨t, o9, a1, b1, b2, b3⟩
