-- after: b3.hp
/-- the pair of calls behind a helper -/
def PrH (E : EE) (i : Nat) (u : Sto) (cl : List String) (L1 : Nat) (y1 : MethodName) (c1 : ByteArray) (n1 L2 : Nat) (y2 : MethodName) (c2 : ByteArray) (n2 : Nat) (As : List Value) : Prop := ∃ PC, CtP E L1 1 y1 c1 n1 (some .int) (.ref (E.ad 0) :: As) u PC ∧ (∀ o w, PC o w → okO cl o) ∧ ∀ o w w', PC o w → IB w' w → ∃ PM, CtP E L2 0 y2 c2 n2 (some .int) (.ref (E.ad 178) :: As) w' PM ∧ ∀ o2 t, PM o2 t → agr i (cdL cl) o o2 t ∧ t 197 0 = w' 197 0
/-- the pair of calls with no helper -/
def PrD (E : EE) (i : Nat) (u : Sto) (ret : FieldType) (L1 : Nat) (y1 : MethodName) (c1 : ByteArray) (n1 L2 : Nat) (y2 : MethodName) (c2 : ByteArray) (n2 : Nat) (As : List Value) : Prop := ∃ PC, CtP E L1 0 y1 c1 n1 (some ret) (.ref (E.ad 0) :: As) u PC ∧ (∀ Ex w, ¬ PC (.inr Ex) w) ∧ ∀ o w, PC o w → ∃ PM, CtP E L2 0 y2 c2 n2 (some ret) (.ref (E.ad 178) :: As) w PM ∧ ∀ o2 t, PM o2 t → agd i o o2 t
section PR
variable {E : EE} {i : Nat} {u w w' : Sto} {o : Res} {R : Res × Sto} {T W pf pc tl : Nat}
theorem iWI (h : INVp i u T W pf pc tl) : WI u := ⟨h.2.1.1, fun r hr => by
  have hT := h.1.r.hT
  rcases h.1.ti.own r hr with e | ⟨a, h1, h2, -⟩
  · exact Or.inl e
  · exact Or.inr ⟨a, by omega, h2⟩, h.1.ti.ln⟩
theorem iLI (h : INVp i u T W pf pc tl) : LI u := fun r hr => by
  have hT := h.1.r.hT
  rcases h.1.ti.liv hr with e | ⟨a, h1, h2, -⟩
  · exact Or.inl e
  · exact Or.inr ⟨a, by omega, h2⟩
theorem iWW (h : INVp i u T W pf pc tl) : WW u W := ⟨h.1.r.hW, h.1.r.vw, fun k hk => by
  have hT := h.1.r.hT
  obtain ⟨a, h1, h2, -⟩ := h.1.ri.wof k hk
  exact ⟨a, by omega, h2⟩⟩
theorem iTB (hi : i ≤ 512) (h : INVp i u T W pf pc tl) : ∃ wk nw, u 3 9 = nI wk ∧ u 3 10 = nI nw ∧ nw < 168 ∧ wk * 168 + nw < 2 ^ 22 ∧ wk < 2 ^ 17 := by
  obtain ⟨wk, nw, h1, h2, h3, h4⟩ := h.2.2.1
  exact ⟨wk, nw, h1, h2, h3, by omega, by omega⟩
theorem q_IB (hR : R.2 = u) (hC : PSp R o w) (hw : IB w' w) : IB w' u := by
  have := hC.2
  rw [hR] at this
  exact hw.trans (sim_IB this)
theorem i179 {v : Sto} (h : IB w' v) : w' 179 = v 179 := h.1 179 (by unfold ibK; omega)
theorem i183 {v : Sto} (h : IB w' v) : w' 183 = v 183 := h.1 183 (by unfold ibK; omega)
theorem iJ (h : INVp i u T W pf pc tl) (e : w' 179 = u 179) : J u (w' 179) T W := by rw [e]; exact h.1
theorem iK (h : INVp i u T W pf pc tl) (e : w' 179 = u 179) : LK u w' T W := (iJ h e).k
theorem iG (h : INVp i u T W pf pc tl) (e : w' 179 = u 179) : LGt u 3 (w' 179) := by rw [e]; exact h.1.lg
theorem frm_m (h : frm i R u pf pc) : R.2 179 = u 179 ∧ R.2 178 = u 178 := by
  unfold frm at h
  split at h
  · exact ⟨by rw [h.1 179 (by omega), rmS_c (by omega) (by omega)], by rw [h.1 178 (by omega), rmS_c (by omega) (by omega)]⟩
  · rw [h]; exact ⟨rfl, rfl⟩
theorem a_IB (hC : PSp R o w) (hw : IB w' w) : IB w' R.2 := hw.trans (sim_IB hC.2)
theorem a179 (hF : frm i R u pf pc) (hC : PSp R o w) (hw : IB w' w) : w' 179 = u 179 := (i179 (a_IB hC hw)).trans (frm_m hF).1
theorem a6 (h : INVp i u T W pf pc tl) (hF : frm i R u pf pc) (hC : PSp R o w) (hw : IB w' w) : w' 178 6 = nI pc := by
  rw [(a_IB hC hw).2.2.1, (frm_m hF).2]
  exact h.2.2.2.2.1
theorem ct_cp {L mc : Nat} {y : MethodName} {cc : ByteArray} {nL : Nat} {ret : Option FieldType} {as : List Value} {v v' : Sto} (hc : Ct E L mc y cc nL ret as v o v') : CtP E L mc y cc nL ret as v (fun o' t => o' = o ∧ t = v') := ct_ctp hc ⟨rfl, rfl⟩
theorem pm197 {cd : String → Nat} {s : Res} {v t : Sto} {o2 : Res} (h : PMr cd s v o2 t) : t 197 0 = v 197 0 := by
  obtain ⟨x, th, -, h, -⟩ := h
  rw [h 197 0 (by decide), su_cell _ _ (by decide)]
theorem pa197 {cd : String → Nat} {v t : Sto} {o2 : Res} (h : PMa cd R v pc T W o2 t) : t 197 0 = v 197 0 := by
  obtain ⟨x, -, h⟩ := h
  split at h
  · obtain ⟨-, g, -, -, h⟩ := h
    rw [h 197 0 (by decide), sc_ne _ _ (by decide)]
    unfold rmM
    rw [su_cell _ _ (by decide), sc_ne _ _ (by decide), su_cell _ _ (by decide)]
  · rw [h 197 0 (by decide), su_cell _ _ (by decide)]
theorem lw197 {v t : Sto} {L : Nat} {r : Except Nat (List LN)} {o2 : Res} (h : lwQ v L r o2 t) : t 197 0 = v 197 0 := by
  unfold lwQ at h
  split at h
  · obtain ⟨x, -, h⟩ := h
    rw [h 197 0 (by decide), su_cell _ _ (by decide), su_cell _ _ (by decide), su_cell _ _ (by decide)]
  · rw [h.2 197 0 (by decide), su_cell _ _ (by decide), su_cell _ _ (by decide), su_cell _ _ (by decide), su_cell _ _ (by decide), sc_ne _ _ (by decide)]
theorem tw197 {v t : Sto} {r : Except Nat Sto} {o2 : Res} (h : twQ v r o2 t) : t 197 0 = v 197 0 := by
  obtain ⟨x, -, h⟩ := h
  split at h
  · rw [h 197 0 (by decide) (by decide), su_cell _ _ (by decide), su_cell _ _ (by decide), su_cell _ _ (by decide)]
  · split at h
    · rw [h 197 0 (by decide) (by decide), su_cell _ _ (by decide), su_cell _ _ (by decide), su_cell _ _ (by decide)]
    · rw [h.2 197 0 (by decide) (by decide), su_cell _ _ (by decide), su_cell _ _ (by decide), su_cell _ _ (by decide), su_cell _ _ (by decide), sc_ne _ _ (by decide)]
end PR
theorem ok_town {u : Sto} {T W tl : Nat} : ∀ o w, PD (townR u tl T W) o w → okO [iae, uoe] o := by
  rintro o w ⟨rfl, -⟩
  unfold townR
  split
  · exact List.mem_cons_self
  · split
    · exact ⟨_, rfl⟩
    · exact List.mem_cons_of_mem _ List.mem_cons_self
theorem pr_town {E : EE} {i : Nat} {u : Sto} {T W pf pc tl : Nat} (hi : i ≤ 512) (hI : INVp i u T W pf pc tl) (hTp : u 183 = u 1) : PrH E i u [iae, uoe] 12 yX10_town cX10_town 1 32 yX11_town cX11_town 2 [] := by
  obtain ⟨wk, nw, b1, b2, b3, b4, b5⟩ := iTB hi hI
  obtain ⟨lc, l1, l2⟩ := hI.1.ti.lc
  refine ⟨_, c_X10_town tl T W u hI.2.2.2.2.2.2.2.2.2.1 hI.2.2.2.2.2.2.2.2.1 hI.1.r.vt hI.1.r.hT hI.1.r.vw hI.1.r.hW (iWI hI).2.1, ok_town, fun o w w' hC hw => ?_⟩
  have hB := hw.trans (simD_IB hC.2)
  have hJ0 : J (dlw (dft u)) (u 179) T W := J_dft hI.1
  have hR : (townR u tl T W).2 179 = u 179 ∧ (townR u tl T W).2 178 = u 178 := by
    unfold townR
    rcases JD_twn (f := u 1) (L := tl) (v := dft u) (u := u) hJ0 with ⟨e, z1, _⟩ | ⟨v', _, _, _, z1, _, _, z4, _⟩
    · rw [z1]
      dsimp only
      exact ⟨by rw [su_cell _ _ (by decide), su_cell _ _ (by decide)], by rw [su_cell _ _ (by decide), su_cell _ _ (by decide)]⟩
    · rw [z1]
      dsimp only
      split
      · dsimp only
        exact ⟨by rw [fin_c (by omega) (by decide) (by decide), z4 179 (by omega), dft_o (by omega) (by decide)], by rw [fin_c (by omega) (by decide) (by decide), z4 178 (by omega), dft_o (by omega) (by decide)]⟩
      · dsimp only
        exact ⟨by rw [su_cell _ _ (by decide), su_cell _ _ (by decide)], by rw [su_cell _ _ (by decide), su_cell _ _ (by decide)]⟩
  have e179 : w' 179 = u 179 := (i179 hB).trans hR.1
  have e8 : w' 178 8 = nI tl := by
    rw [hB.2.2.2.1, hR.2]
    exact hI.2.2.2.2.2.2.2.2.2.2.1
  have t179 : twU w' 179 = u 179 := by
    unfold twU
    rw [su_cell _ _ (by decide), su_cell _ _ (by decide), sc_ne _ _ (by decide), e179]
  have hMI : MI (twU w') T W := by
    refine ⟨by rw [t179]; exact hI.1.r.ten, hI.1.r.hT, by rw [t179]; exact hI.1.r.wan, hI.1.r.hW, fun r hr => ?_⟩
    have := hI.1.ri.sht r hr
    rw [← hI.1.r.sht r hr, ← t179] at this
    exact this
  exact ⟨_, c_X11_town tl T W hI.2.2.2.2.2.2.2.2.1 hI.1.r.hT w' e8 hMI, fun o2 t hM => ⟨ag_town hI hTp hC hw hM, tw197 hM⟩⟩
theorem ok_law {u : Sto} {tl : Nat} : ∀ o w, PD (lawR u tl) o w → okO [iae] o := by
  rintro o w ⟨rfl, -⟩
  unfold lawR
  split
  · exact List.mem_cons_self
  · exact ⟨_, rfl⟩
theorem pr_law {E : EE} {i : Nat} {u : Sto} {T W pf pc tl : Nat} (hi : i ≤ 512) (hI : INVp i u T W pf pc tl) : PrH E i u [iae] 12 yX10_law cX10_law 1 32 yX11_law cX11_law 3 [] := by
  obtain ⟨wk, nw, b1, b2, b3, b4, b5⟩ := iTB hi hI
  obtain ⟨lc, l1, l2⟩ := hI.1.ti.lc
  refine ⟨_, c_X10_law tl u hI.2.2.2.2.2.2.2.2.2.1 hI.2.2.2.2.2.2.2.2.1, ok_law, fun o w w' hC hw => ?_⟩
  have hB := hw.trans (simD_IB hC.2)
  have e : (lawR u tl).2 178 = u 178 := by
    unfold lawR
    split
    · dsimp only
      rw [su_cell _ _ (by decide), su_cell _ _ (by decide)]
    · dsimp only
      rw [su_cell _ _ (by decide), cpL_c (by omega), su_cell _ _ (by decide), lnA_c (by omega)]
      unfold clS
      rw [su_cell _ _ (by decide), su_cell _ _ (by decide), su_cell _ _ (by decide)]
  have e8 : w' 178 8 = nI tl := by
    rw [hB.2.2.2.1, e]
    exact hI.2.2.2.2.2.2.2.2.2.2.1
  exact ⟨_, c_X11_law tl hI.2.2.2.2.2.2.2.2.1 w' e8, fun o2 t hM => ⟨ag_law hI hC hw hM, lw197 hM⟩⟩
theorem ok_tenant {u : Sto} {T W pf pc tl : Nat} {x0 x1 : Int32} : ∀ o w, PSp (tenR u x0 x1) o w → okO [ioob, nsee] o := by
  rintro o w ⟨rfl, -⟩
  unfold tenR
  repeat' split
  all_goals first | exact ⟨_, rfl⟩ | exact List.mem_cons_self | exact List.mem_cons_of_mem _ List.mem_cons_self | exact List.mem_cons_of_mem _ (List.mem_cons_of_mem _ List.mem_cons_self)
theorem pr_tenant {E : EE} {i : Nat} {u : Sto} {T W pf pc tl : Nat} (hi : i ≤ 512) (hI : INVp i u T W pf pc tl) (x0 x1 : Int32) : PrH E i u [ioob, nsee] 9 yX10_tenant cX10_tenant 3 35 yX11_tenant cX11_tenant 3 [.int x0, .int x1] := by
  obtain ⟨wk, nw, b1, b2, b3, b4, b5⟩ := iTB hi hI
  obtain ⟨lc, l1, l2⟩ := hI.1.ti.lc
  refine ⟨_, c_X10_tenant T hI.1.r.hT x0 x1 u (iWI hI) hI.1.r.vt, (ok_tenant (T := T) (W := W) (pf := pf) (pc := pc) (tl := tl)), fun o w w' hC hw => ?_⟩
  exact ⟨_, c_X11_tenant u T W x0 x1 w' (iK hI (i179 (q_IB r2_tenR hC hw))), fun o2 t hM => ⟨ag_Q ⟨T, W, pf, pc, tl, hI⟩ r2_tenR hC hw hM, pm197 hM⟩⟩
theorem ok_room {u : Sto} {T W pf pc tl : Nat} {x0 x1 : Int32} : ∀ o w, PSp (rooR u x0 x1) o w → okO [ioob, nsee] o := by
  rintro o w ⟨rfl, -⟩
  unfold rooR
  repeat' split
  all_goals first | exact ⟨_, rfl⟩ | exact List.mem_cons_self | exact List.mem_cons_of_mem _ List.mem_cons_self | exact List.mem_cons_of_mem _ (List.mem_cons_of_mem _ List.mem_cons_self)
theorem pr_room {E : EE} {i : Nat} {u : Sto} {T W pf pc tl : Nat} (hi : i ≤ 512) (hI : INVp i u T W pf pc tl) (x0 x1 : Int32) : PrH E i u [ioob, nsee] 9 yX10_room cX10_room 3 35 yX11_room cX11_room 3 [.int x0, .int x1] := by
  obtain ⟨wk, nw, b1, b2, b3, b4, b5⟩ := iTB hi hI
  obtain ⟨lc, l1, l2⟩ := hI.1.ti.lc
  refine ⟨_, c_X10_room T hI.1.r.hT x0 x1 u (iWI hI) hI.1.r.vt, (ok_room (T := T) (W := W) (pf := pf) (pc := pc) (tl := tl)), fun o w w' hC hw => ?_⟩
  exact ⟨_, c_X11_room u T W x0 x1 w' (iK hI (i179 (q_IB r2_rooR hC hw))), fun o2 t hM => ⟨ag_Q ⟨T, W, pf, pc, tl, hI⟩ r2_rooR hC hw hM, pm197 hM⟩⟩
theorem ok_rule {u : Sto} {T W pf pc tl : Nat} {x0 x1 x2 : Int32} : ∀ o w, PSp (rulR u x0 x1 x2) o w → okO [ioob, nsee] o := by
  rintro o w ⟨rfl, -⟩
  unfold rulR
  repeat' split
  all_goals first | exact ⟨_, rfl⟩ | exact List.mem_cons_self | exact List.mem_cons_of_mem _ List.mem_cons_self | exact List.mem_cons_of_mem _ (List.mem_cons_of_mem _ List.mem_cons_self)
theorem pr_rule {E : EE} {i : Nat} {u : Sto} {T W pf pc tl : Nat} (hi : i ≤ 512) (hI : INVp i u T W pf pc tl) (x0 x1 x2 : Int32) : PrH E i u [ioob, nsee] 9 yX10_rule cX10_rule 4 35 yX11_rule cX11_rule 4 [.int x0, .int x1, .int x2] := by
  obtain ⟨wk, nw, b1, b2, b3, b4, b5⟩ := iTB hi hI
  obtain ⟨lc, l1, l2⟩ := hI.1.ti.lc
  refine ⟨_, c_X10_rule T hI.1.r.hT x0 x1 x2 u (iWI hI) hI.1.r.vt, (ok_rule (T := T) (W := W) (pf := pf) (pc := pc) (tl := tl)), fun o w w' hC hw => ?_⟩
  exact ⟨_, c_X11_rule u T W x0 x1 x2 w' (iK hI (i179 (q_IB r2_rulR hC hw))), fun o2 t hM => ⟨ag_Q ⟨T, W, pf, pc, tl, hI⟩ r2_rulR hC hw hM, pm197 hM⟩⟩
theorem ok_roomOf {u : Sto} {T W pf pc tl : Nat} {x0 x1 x2 : Int32} : ∀ o w, PSp (rofR u x0 x1 x2) o w → okO [ioob] o := by
  rintro o w ⟨rfl, -⟩
  unfold rofR
  repeat' split
  all_goals first | exact ⟨_, rfl⟩ | exact List.mem_cons_self | exact List.mem_cons_of_mem _ List.mem_cons_self | exact List.mem_cons_of_mem _ (List.mem_cons_of_mem _ List.mem_cons_self)
theorem pr_roomOf {E : EE} {i : Nat} {u : Sto} {T W pf pc tl : Nat} (hi : i ≤ 512) (hI : INVp i u T W pf pc tl) (x0 x1 x2 : Int32) : PrH E i u [ioob] 9 yX10_roomOf cX10_roomOf 8 35 yX11_roomOf cX11_roomOf 6 [.int x0, .int x1, .int x2] := by
  obtain ⟨wk, nw, b1, b2, b3, b4, b5⟩ := iTB hi hI
  obtain ⟨lc, l1, l2⟩ := hI.1.ti.lc
  refine ⟨_, c_X10_roomOf T hI.1.r.hT x0 x1 x2 u (iWI hI) hI.1.r.vt, (ok_roomOf (T := T) (W := W) (pf := pf) (pc := pc) (tl := tl)), fun o w w' hC hw => ?_⟩
  exact ⟨_, c_X11_roomOf u T W x0 x1 x2 w' (iK hI (i179 (q_IB r2_rofR hC hw))), fun o2 t hM => ⟨ag_Q ⟨T, W, pf, pc, tl, hI⟩ r2_rofR hC hw hM, pm197 hM⟩⟩
theorem ok_take {u : Sto} {T W pf pc tl : Nat} {x0 x1 : Int32} : ∀ o w, PSp (tkeR u pf pc x0 x1) o w → okO [ioob, ise] o := by
  rintro o w ⟨rfl, -⟩
  unfold tkeR
  repeat' split
  all_goals first | exact ⟨_, rfl⟩ | exact List.mem_cons_self | exact List.mem_cons_of_mem _ List.mem_cons_self | exact List.mem_cons_of_mem _ (List.mem_cons_of_mem _ List.mem_cons_self)
theorem pr_take {E : EE} {i : Nat} {u : Sto} {T W pf pc tl : Nat} (hi : i ≤ 512) (hI : INVp i u T W pf pc tl) (x0 x1 : Int32) : PrH E i u [ioob, ise] 9 yX10_take cX10_take 3 35 yX11_take cX11_take 3 [.int x0, .int x1] := by
  obtain ⟨wk, nw, b1, b2, b3, b4, b5⟩ := iTB hi hI
  obtain ⟨lc, l1, l2⟩ := hI.1.ti.lc
  have hF : frm i (tkeR u pf pc x0 x1) u pf pc := frm_take hI.2.2.1
  refine ⟨_, c_X10_take T hI.1.r.hT pf pc x0 x1 u (iWI hI) hI.1.r.vt hI.2.2.2.1, (ok_take (T := T) (W := W) (pf := pf) (pc := pc) (tl := tl)), fun o w w' hC hw => ?_⟩
  exact ⟨_, c_X11_take u T W pf pc wk hI.2.2.2.1.2.1 b5 x0 x1 w' (iJ hI (a179 hF hC hw)) (a6 hI hF hC hw) b1, fun o2 t hM => ⟨ag_A hI hC hw hM hF, pa197 hM⟩⟩
theorem ok_leave {u : Sto} {T W pf pc tl : Nat} {x0 : Int32} : ∀ o w, PSp (leaR u pf pc x0) o w → okO [ioob, ise] o := by
  rintro o w ⟨rfl, -⟩
  unfold leaR
  repeat' split
  all_goals first | exact ⟨_, rfl⟩ | exact List.mem_cons_self | exact List.mem_cons_of_mem _ List.mem_cons_self | exact List.mem_cons_of_mem _ (List.mem_cons_of_mem _ List.mem_cons_self)
theorem pr_leave {E : EE} {i : Nat} {u : Sto} {T W pf pc tl : Nat} (hi : i ≤ 512) (hI : INVp i u T W pf pc tl) (x0 : Int32) : PrH E i u [ioob, ise] 9 yX10_leave cX10_leave 3 35 yX11_leave cX11_leave 3 [.int x0] := by
  obtain ⟨wk, nw, b1, b2, b3, b4, b5⟩ := iTB hi hI
  obtain ⟨lc, l1, l2⟩ := hI.1.ti.lc
  have hF : frm i (leaR u pf pc x0) u pf pc := frm_leave hI.2.2.1
  refine ⟨_, c_X10_leave T hI.1.r.hT pf pc x0 u (iWI hI) hI.1.r.vt hI.2.2.2.1, (ok_leave (T := T) (W := W) (pf := pf) (pc := pc) (tl := tl)), fun o w w' hC hw => ?_⟩
  exact ⟨_, c_X11_leave u T W pf pc wk hI.2.2.2.1.2.1 b5 x0 w' (iJ hI (a179 hF hC hw)) (a6 hI hF hC hw) b1, fun o2 t hM => ⟨ag_A hI hC hw hM hF, pa197 hM⟩⟩
theorem ok_sublet {u : Sto} {T W pf pc tl : Nat} {x0 x1 x2 : Int32} : ∀ o w, PSp (sblR u pf pc x0 x1 x2) o w → okO [ioob, iae, ise] o := by
  rintro o w ⟨rfl, -⟩
  unfold sblR
  repeat' split
  all_goals first | exact ⟨_, rfl⟩ | exact List.mem_cons_self | exact List.mem_cons_of_mem _ List.mem_cons_self | exact List.mem_cons_of_mem _ (List.mem_cons_of_mem _ List.mem_cons_self)
theorem pr_sublet {E : EE} {i : Nat} {u : Sto} {T W pf pc tl : Nat} (hi : i ≤ 512) (hI : INVp i u T W pf pc tl) (x0 x1 x2 : Int32) : PrH E i u [ioob, iae, ise] 9 yX10_sublet cX10_sublet 4 35 yX11_sublet cX11_sublet 6 [.int x0, .int x1, .int x2] := by
  obtain ⟨wk, nw, b1, b2, b3, b4, b5⟩ := iTB hi hI
  obtain ⟨lc, l1, l2⟩ := hI.1.ti.lc
  have hF : frm i (sblR u pf pc x0 x1 x2) u pf pc := frm_sublet hI.2.2.1
  refine ⟨_, c_X10_sublet T hI.1.r.hT pf pc x0 x1 x2 u (iWI hI) hI.1.r.vt hI.2.2.2.1, (ok_sublet (T := T) (W := W) (pf := pf) (pc := pc) (tl := tl)), fun o w w' hC hw => ?_⟩
  exact ⟨_, c_X11_sublet u T W pf pc wk hI.2.2.2.1.2.1 b5 x0 x1 x2 w' (iJ hI (a179 hF hC hw)) (a6 hI hF hC hw) b1, fun o2 t hM => ⟨ag_A hI hC hw hM hF, pa197 hM⟩⟩
theorem ok_ends {u : Sto} {T W pf pc tl : Nat} {x0 : Int32} : ∀ o w, PSp (ensR u pf pc x0) o w → okO [ioob, ise] o := by
  rintro o w ⟨rfl, -⟩
  unfold ensR
  repeat' split
  all_goals first | exact ⟨_, rfl⟩ | exact List.mem_cons_self | exact List.mem_cons_of_mem _ List.mem_cons_self | exact List.mem_cons_of_mem _ (List.mem_cons_of_mem _ List.mem_cons_self)
theorem pr_ends {E : EE} {i : Nat} {u : Sto} {T W pf pc tl : Nat} (hi : i ≤ 512) (hI : INVp i u T W pf pc tl) (x0 : Int32) : PrH E i u [ioob, ise] 9 yX10_ends cX10_ends 3 35 yX11_ends cX11_ends 3 [.int x0] := by
  obtain ⟨wk, nw, b1, b2, b3, b4, b5⟩ := iTB hi hI
  obtain ⟨lc, l1, l2⟩ := hI.1.ti.lc
  have hF : frm i (ensR u pf pc x0) u pf pc := frm_ends hI.2.2.1
  refine ⟨_, c_X10_ends T hI.1.r.hT pf pc x0 u (iWI hI) hI.1.r.vt hI.2.2.2.1, (ok_ends (T := T) (W := W) (pf := pf) (pc := pc) (tl := tl)), fun o w w' hC hw => ?_⟩
  exact ⟨_, c_X11_ends u T W pf pc wk hI.2.2.2.1.2.1 b5 x0 w' (iJ hI (a179 hF hC hw)) (a6 hI hF hC hw) b1, fun o2 t hM => ⟨ag_A hI hC hw hM hF, pa197 hM⟩⟩
theorem ok_evict {u : Sto} {T W pf pc tl : Nat} {x0 : Int32} : ∀ o w, PSp (eviR u pf pc x0) o w → okO [ioob, ise] o := by
  rintro o w ⟨rfl, -⟩
  unfold eviR
  repeat' split
  all_goals first | exact ⟨_, rfl⟩ | exact List.mem_cons_self | exact List.mem_cons_of_mem _ List.mem_cons_self | exact List.mem_cons_of_mem _ (List.mem_cons_of_mem _ List.mem_cons_self)
theorem pr_evict {E : EE} {i : Nat} {u : Sto} {T W pf pc tl : Nat} (hi : i ≤ 512) (hI : INVp i u T W pf pc tl) (x0 : Int32) : PrH E i u [ioob, ise] 9 yX10_evict cX10_evict 2 35 yX11_evict cX11_evict 4 [.int x0] := by
  obtain ⟨wk, nw, b1, b2, b3, b4, b5⟩ := iTB hi hI
  obtain ⟨lc, l1, l2⟩ := hI.1.ti.lc
  have hF : frm i (eviR u pf pc x0) u pf pc := frm_evict hI.2.2.1
  refine ⟨_, c_X10_evict T hI.1.r.hT pf pc x0 u (iWI hI) hI.1.r.vt hI.2.2.2.1, (ok_evict (T := T) (W := W) (pf := pf) (pc := pc) (tl := tl)), fun o w w' hC hw => ?_⟩
  exact ⟨_, c_X11_evict u T W pf pc wk hI.2.2.2.1.2.1 b5 x0 w' (iJ hI (a179 hF hC hw)) (a6 hI hF hC hw) b1, fun o2 t hM => ⟨ag_A hI hC hw hM hF, pa197 hM⟩⟩
theorem ok_carry {u : Sto} {T W pf pc tl : Nat} {x0 x1 x2 x3 : Int32} : ∀ o w, PSp (carR u pf pc x0 x1 x2 x3) o w → okO [ioob, iae, ise] o := by
  rintro o w ⟨rfl, -⟩
  unfold carR
  repeat' split
  all_goals first | exact ⟨_, rfl⟩ | exact List.mem_cons_self | exact List.mem_cons_of_mem _ List.mem_cons_self | exact List.mem_cons_of_mem _ (List.mem_cons_of_mem _ List.mem_cons_self)
theorem pr_carry {E : EE} {i : Nat} {u : Sto} {T W pf pc tl : Nat} (hi : i ≤ 512) (hI : INVp i u T W pf pc tl) (x0 x1 x2 x3 : Int32) : PrH E i u [ioob, iae, ise] 9 yX10_carry cX10_carry 7 35 yX11_carry cX11_carry 6 [.int x0, .int x1, .int x2, .int x3] := by
  obtain ⟨wk, nw, b1, b2, b3, b4, b5⟩ := iTB hi hI
  obtain ⟨lc, l1, l2⟩ := hI.1.ti.lc
  have hF : frm i (carR u pf pc x0 x1 x2 x3) u pf pc := frm_carry hI.2.2.1
  refine ⟨_, c_X10_carry T hI.1.r.hT pf pc x0 x1 x2 x3 u (iWI hI) hI.1.r.vt hI.2.2.2.1, (ok_carry (T := T) (W := W) (pf := pf) (pc := pc) (tl := tl)), fun o w w' hC hw => ?_⟩
  exact ⟨_, c_X11_carry u T W pf pc wk hI.2.2.2.1.2.1 b5 x0 x1 x2 x3 w' (iJ hI (a179 hF hC hw)) (a6 hI hF hC hw) b1, fun o2 t hM => ⟨ag_A hI hC hw hM hF, pa197 hM⟩⟩
theorem ok_swap {u : Sto} {T W pf pc tl : Nat} {x0 x1 : Int32} : ∀ o w, PSp (swaR u pf pc x0 x1) o w → okO [ioob, iae, ise] o := by
  rintro o w ⟨rfl, -⟩
  unfold swaR
  repeat' split
  all_goals first | exact ⟨_, rfl⟩ | exact List.mem_cons_self | exact List.mem_cons_of_mem _ List.mem_cons_self | exact List.mem_cons_of_mem _ (List.mem_cons_of_mem _ List.mem_cons_self)
theorem pr_swap {E : EE} {i : Nat} {u : Sto} {T W pf pc tl : Nat} (hi : i ≤ 512) (hI : INVp i u T W pf pc tl) (x0 x1 : Int32) : PrH E i u [ioob, iae, ise] 9 yX10_swap cX10_swap 5 35 yX11_swap cX11_swap 5 [.int x0, .int x1] := by
  obtain ⟨wk, nw, b1, b2, b3, b4, b5⟩ := iTB hi hI
  obtain ⟨lc, l1, l2⟩ := hI.1.ti.lc
  have hF : frm i (swaR u pf pc x0 x1) u pf pc := frm_swap hI.2.2.1
  refine ⟨_, c_X10_swap T hI.1.r.hT pf pc x0 x1 u (iWI hI) hI.1.r.vt hI.2.2.2.1, (ok_swap (T := T) (W := W) (pf := pf) (pc := pc) (tl := tl)), fun o w w' hC hw => ?_⟩
  exact ⟨_, c_X11_swap u T W pf pc wk hI.2.2.2.1.2.1 b5 x0 x1 w' (iJ hI (a179 hF hC hw)) (a6 hI hF hC hw) b1, fun o2 t hM => ⟨ag_A hI hC hw hM hF, pa197 hM⟩⟩
theorem ok_ticks {u : Sto} {T W pf pc tl : Nat} {x0 : Int32} : ∀ o w, PSp (ticR u T pf pc x0) o w → okO [iae] o := by
  rintro o w ⟨rfl, -⟩
  unfold ticR
  repeat' split
  all_goals first | exact ⟨_, rfl⟩ | exact List.mem_cons_self | exact List.mem_cons_of_mem _ List.mem_cons_self | exact List.mem_cons_of_mem _ (List.mem_cons_of_mem _ List.mem_cons_self)
theorem pr_ticks {E : EE} {i : Nat} {u : Sto} {T W pf pc tl : Nat} (hi : i ≤ 512) (hI : INVp i u T W pf pc tl) (x0 : Int32) : PrH E i u [iae] 9 yX10_ticks cX10_ticks 4 36 yX11_ticks cX11_ticks 4 [.int x0] := by
  obtain ⟨wk, nw, b1, b2, b3, b4, b5⟩ := iTB hi hI
  obtain ⟨lc, l1, l2⟩ := hI.1.ti.lc
  have hF : frm i (ticR u T pf pc x0) u pf pc := frm_ticks hI.2.2.1
  refine ⟨_, c_X10_ticks T hI.1.r.hT pf pc nw b3 x0 u (iWI hI) hI.1.r.vt hI.2.2.2.1 b2, (ok_ticks (T := T) (W := W) (pf := pf) (pc := pc) (tl := tl)), fun o w w' hC hw => ?_⟩
  exact ⟨_, c_X11_ticks u T W pf pc wk nw hI.2.2.2.1.2.1 b3 b4 x0 w' (iJ hI (a179 hF hC hw)) (a6 hI hF hC hw) b1 b2, fun o2 t hM => ⟨ag_A hI hC hw hM hF, pa197 hM⟩⟩
theorem ok_neighbours {u : Sto} {T W pf pc tl : Nat} {x0 x1 x2 : Int32} : ∀ o w, PSp (nbrR u x0 x1 x2) o w → okO [ioob] o := by
  rintro o w ⟨rfl, -⟩
  unfold nbrR
  repeat' split
  all_goals first | exact ⟨_, rfl⟩ | exact List.mem_cons_self | exact List.mem_cons_of_mem _ List.mem_cons_self | exact List.mem_cons_of_mem _ (List.mem_cons_of_mem _ List.mem_cons_self)
theorem pr_neighbours {E : EE} {i : Nat} {u : Sto} {T W pf pc tl : Nat} (hi : i ≤ 512) (hI : INVp i u T W pf pc tl) (x0 x1 x2 : Int32) : PrH E i u [ioob] 9 yX10_neighbours cX10_neighbours 4 35 yX11_neighbours cX11_neighbours 6 [.int x0, .int x1, .int x2] := by
  obtain ⟨wk, nw, b1, b2, b3, b4, b5⟩ := iTB hi hI
  obtain ⟨lc, l1, l2⟩ := hI.1.ti.lc
  refine ⟨_, c_X10_neighbours T hI.1.r.hT x0 x1 x2 u (iWI hI) hI.1.r.vt, (ok_neighbours (T := T) (W := W) (pf := pf) (pc := pc) (tl := tl)), fun o w w' hC hw => ?_⟩
  exact ⟨_, c_X11_neighbours u T W x0 x1 x2 w' (iK hI (i179 (q_IB r2_nbrR hC hw))), fun o2 t hM => ⟨ag_Q ⟨T, W, pf, pc, tl, hI⟩ r2_nbrR hC hw hM, pm197 hM⟩⟩
theorem ok_run {u : Sto} {T W pf pc tl : Nat} {x0 x1 : Int32} : ∀ o w, PSp (runR u x0 x1) o w → okO [ioob] o := by
  rintro o w ⟨rfl, -⟩
  unfold runR
  repeat' split
  all_goals first | exact ⟨_, rfl⟩ | exact List.mem_cons_self | exact List.mem_cons_of_mem _ List.mem_cons_self | exact List.mem_cons_of_mem _ (List.mem_cons_of_mem _ List.mem_cons_self)
theorem pr_run {E : EE} {i : Nat} {u : Sto} {T W pf pc tl : Nat} (hi : i ≤ 512) (hI : INVp i u T W pf pc tl) (x0 x1 : Int32) : PrH E i u [ioob] 9 yX10_run cX10_run 3 35 yX11_run cX11_run 3 [.int x0, .int x1] := by
  obtain ⟨wk, nw, b1, b2, b3, b4, b5⟩ := iTB hi hI
  obtain ⟨lc, l1, l2⟩ := hI.1.ti.lc
  refine ⟨_, c_X10_run T hI.1.r.hT x0 x1 u (iWI hI) hI.1.r.vt, (ok_run (T := T) (W := W) (pf := pf) (pc := pc) (tl := tl)), fun o w w' hC hw => ?_⟩
  exact ⟨_, c_X11_run u T W x0 x1 w' (iK hI (i179 (q_IB r2_runR hC hw))), fun o2 t hM => ⟨ag_Q ⟨T, W, pf, pc, tl, hI⟩ r2_runR hC hw hM, pm197 hM⟩⟩
theorem ok_wedding {u : Sto} {T W pf pc tl : Nat} {x0 x1 : Int32} : ∀ o w, PSp (wedR u x0 x1) o w → okO [ioob, iae] o := by
  rintro o w ⟨rfl, -⟩
  unfold wedR
  repeat' split
  all_goals first | exact ⟨_, rfl⟩ | exact List.mem_cons_self | exact List.mem_cons_of_mem _ List.mem_cons_self | exact List.mem_cons_of_mem _ (List.mem_cons_of_mem _ List.mem_cons_self)
theorem pr_wedding {E : EE} {i : Nat} {u : Sto} {T W pf pc tl : Nat} (hi : i ≤ 512) (hI : INVp i u T W pf pc tl) (x0 x1 : Int32) : PrH E i u [ioob, iae] 9 yX10_wedding cX10_wedding 3 35 yX11_wedding cX11_wedding 5 [.int x0, .int x1] := by
  obtain ⟨wk, nw, b1, b2, b3, b4, b5⟩ := iTB hi hI
  obtain ⟨lc, l1, l2⟩ := hI.1.ti.lc
  refine ⟨_, c_X10_wedding T hI.1.r.hT nw b3 x0 x1 u (iWI hI) hI.1.r.vt b2, (ok_wedding (T := T) (W := W) (pf := pf) (pc := pc) (tl := tl)), fun o w w' hC hw => ?_⟩
  exact ⟨_, c_X11_wedding u T W x0 x1 w' (iK hI (i179 (q_IB r2_wedR hC hw))) hI.1.ti, fun o2 t hM => ⟨ag_Q ⟨T, W, pf, pc, tl, hI⟩ r2_wedR hC hw hM, pm197 hM⟩⟩
theorem ok_cheap {u : Sto} {T W pf pc tl : Nat} {x0 x1 x2 : Int32} : ∀ o w, PSp (cheR u x0 x1 x2) o w → okO [ioob, iae] o := by
  rintro o w ⟨rfl, -⟩
  unfold cheR
  repeat' split
  all_goals first | exact ⟨_, rfl⟩ | exact List.mem_cons_self | exact List.mem_cons_of_mem _ List.mem_cons_self | exact List.mem_cons_of_mem _ (List.mem_cons_of_mem _ List.mem_cons_self)
theorem pr_cheap {E : EE} {i : Nat} {u : Sto} {T W pf pc tl : Nat} (hi : i ≤ 512) (hI : INVp i u T W pf pc tl) (x0 x1 x2 : Int32) : PrH E i u [ioob, iae] 9 yX10_cheap cX10_cheap 4 36 yX11_cheap cX11_cheap 8 [.int x0, .int x1, .int x2] := by
  obtain ⟨wk, nw, b1, b2, b3, b4, b5⟩ := iTB hi hI
  obtain ⟨lc, l1, l2⟩ := hI.1.ti.lc
  refine ⟨_, c_X10_cheap T hI.1.r.hT x0 x1 x2 u (iWI hI) hI.1.r.vt, (ok_cheap (T := T) (W := W) (pf := pf) (pc := pc) (tl := tl)), fun o w w' hC hw => ?_⟩
  exact ⟨_, c_X11_cheap u T W x0 x1 x2 w' (iK hI (i179 (q_IB r2_cheR hC hw))) hI.1.ri, fun o2 t hM => ⟨ag_Q ⟨T, W, pf, pc, tl, hI⟩ r2_cheR hC hw hM, pm197 hM⟩⟩
theorem ok_given {u : Sto} {T W pf pc tl : Nat} {x0 : Int32} : ∀ o w, PSp (givR u W x0) o w → okO [ioob] o := by
  rintro o w ⟨rfl, -⟩
  unfold givR
  repeat' split
  all_goals first | exact ⟨_, rfl⟩ | exact List.mem_cons_self | exact List.mem_cons_of_mem _ List.mem_cons_self | exact List.mem_cons_of_mem _ (List.mem_cons_of_mem _ List.mem_cons_self)
theorem pr_given {E : EE} {i : Nat} {u : Sto} {T W pf pc tl : Nat} (hi : i ≤ 512) (hI : INVp i u T W pf pc tl) (x0 : Int32) : PrH E i u [ioob] 9 yX10_given cX10_given 2 36 yX11_given cX11_given 2 [.int x0] := by
  obtain ⟨wk, nw, b1, b2, b3, b4, b5⟩ := iTB hi hI
  obtain ⟨lc, l1, l2⟩ := hI.1.ti.lc
  refine ⟨_, c_X10_given W x0 u hI.2.1.1 (iWW hI), (ok_given (T := T) (W := W) (pf := pf) (pc := pc) (tl := tl)), fun o w w' hC hw => ?_⟩
  exact ⟨_, c_X11_given u T W x0 w' (iK hI (i179 (q_IB r2_givR hC hw))) hI.1.ri, fun o2 t hM => ⟨ag_Q ⟨T, W, pf, pc, tl, hI⟩ r2_givR hC hw hM, pm197 hM⟩⟩
theorem ok_envies {u : Sto} {T W pf pc tl : Nat} {x0 : Int32} : ∀ o w, PSp (envR u x0) o w → okO [ioob] o := by
  rintro o w ⟨rfl, -⟩
  unfold envR
  repeat' split
  all_goals first | exact ⟨_, rfl⟩ | exact List.mem_cons_self | exact List.mem_cons_of_mem _ List.mem_cons_self | exact List.mem_cons_of_mem _ (List.mem_cons_of_mem _ List.mem_cons_self)
theorem pr_envies {E : EE} {i : Nat} {u : Sto} {T W pf pc tl : Nat} (hi : i ≤ 512) (hI : INVp i u T W pf pc tl) (x0 : Int32) : PrH E i u [ioob] 9 yX10_envies cX10_envies 2 36 yX11_envies cX11_envies 5 [.int x0] := by
  obtain ⟨wk, nw, b1, b2, b3, b4, b5⟩ := iTB hi hI
  obtain ⟨lc, l1, l2⟩ := hI.1.ti.lc
  refine ⟨_, c_X10_envies T hI.1.r.hT x0 u (iWI hI) hI.1.r.vt (iLI hI), (ok_envies (T := T) (W := W) (pf := pf) (pc := pc) (tl := tl)), fun o w w' hC hw => ?_⟩
  exact ⟨_, c_X11_envies u T W x0 w' (iK hI (i179 (q_IB r2_envR hC hw))) hI.1.ti, fun o2 t hM => ⟨ag_Q ⟨T, W, pf, pc, tl, hI⟩ r2_envR hC hw hM, pm197 hM⟩⟩
theorem ok_fair {u : Sto} {T W pf pc tl : Nat} {x0 x1 x2 : Int32} : ∀ o w, PSp (faiR u T x0 x1 x2) o w → okO [iae] o := by
  rintro o w ⟨rfl, -⟩
  unfold faiR
  repeat' split
  all_goals first | exact ⟨_, rfl⟩ | exact List.mem_cons_self | exact List.mem_cons_of_mem _ List.mem_cons_self | exact List.mem_cons_of_mem _ (List.mem_cons_of_mem _ List.mem_cons_self)
theorem pr_fair {E : EE} {i : Nat} {u : Sto} {T W pf pc tl : Nat} (hi : i ≤ 512) (hI : INVp i u T W pf pc tl) (x0 x1 x2 : Int32) : PrH E i u [iae] 9 yX10_fair cX10_fair 5 36 yX11_fair cX11_fair 10 [.int x0, .int x1, .int x2] := by
  obtain ⟨wk, nw, b1, b2, b3, b4, b5⟩ := iTB hi hI
  obtain ⟨lc, l1, l2⟩ := hI.1.ti.lc
  refine ⟨_, c_X10_fair T hI.1.r.hT x0 x1 x2 u (iWI hI) hI.1.r.vt, (ok_fair (T := T) (W := W) (pf := pf) (pc := pc) (tl := tl)), fun o w w' hC hw => ?_⟩
  exact ⟨_, c_X11_fair u T W x0 x1 x2 w' (iK hI (i179 (q_IB r2_faiR hC hw))), fun o2 t hM => ⟨ag_Q ⟨T, W, pf, pc, tl, hI⟩ r2_faiR hC hw hM, pm197 hM⟩⟩
theorem ok_ring {u : Sto} {T W pf pc tl : Nat} {x0 x1 : Int32} : ∀ o w, PSp (rinR u x0 x1) o w → okO [ioob, iae] o := by
  rintro o w ⟨rfl, -⟩
  unfold rinR
  repeat' split
  all_goals first | exact ⟨_, rfl⟩ | exact List.mem_cons_self | exact List.mem_cons_of_mem _ List.mem_cons_self | exact List.mem_cons_of_mem _ (List.mem_cons_of_mem _ List.mem_cons_self)
theorem pr_ring {E : EE} {i : Nat} {u : Sto} {T W pf pc tl : Nat} (hi : i ≤ 512) (hI : INVp i u T W pf pc tl) (x0 x1 : Int32) : PrH E i u [ioob, iae] 9 yX10_ring cX10_ring 4 36 yX11_ring cX11_ring 4 [.int x0, .int x1] := by
  obtain ⟨wk, nw, b1, b2, b3, b4, b5⟩ := iTB hi hI
  obtain ⟨lc, l1, l2⟩ := hI.1.ti.lc
  refine ⟨_, c_X10_ring T hI.1.r.hT x0 x1 u (iWI hI) hI.1.r.vt, (ok_ring (T := T) (W := W) (pf := pf) (pc := pc) (tl := tl)), fun o w w' hC hw => ?_⟩
  exact ⟨_, c_X11_ring u T W x0 x1 w' (iK hI (i179 (q_IB r2_rinR hC hw))) hI.1.ti, fun o2 t hM => ⟨ag_Q ⟨T, W, pf, pc, tl, hI⟩ r2_rinR hC hw hM, pm197 hM⟩⟩
theorem ok_turn {u : Sto} {T W pf pc tl : Nat} {x0 : Int32} : ∀ o w, PSp (turR u pf pc x0) o w → okO [ioob, ise] o := by
  rintro o w ⟨rfl, -⟩
  unfold turR
  repeat' split
  all_goals first | exact ⟨_, rfl⟩ | exact List.mem_cons_self | exact List.mem_cons_of_mem _ List.mem_cons_self | exact List.mem_cons_of_mem _ (List.mem_cons_of_mem _ List.mem_cons_self)
theorem pr_turn {E : EE} {i : Nat} {u : Sto} {T W pf pc tl : Nat} (hi : i ≤ 512) (hI : INVp i u T W pf pc tl) (x0 : Int32) : PrH E i u [ioob, ise] 9 yX10_turn cX10_turn 3 36 yX11_turn cX11_turn 4 [.int x0] := by
  obtain ⟨wk, nw, b1, b2, b3, b4, b5⟩ := iTB hi hI
  obtain ⟨lc, l1, l2⟩ := hI.1.ti.lc
  have hF : frm i (turR u pf pc x0) u pf pc := frm_turn hI.2.2.1
  refine ⟨_, c_X10_turn T hI.1.r.hT pf pc x0 u (iWI hI) hI.1.r.vt hI.2.2.2.1, (ok_turn (T := T) (W := W) (pf := pf) (pc := pc) (tl := tl)), fun o w w' hC hw => ?_⟩
  exact ⟨_, c_X11_turn u T W pf pc wk hI.2.2.2.1.2.1 b5 x0 w' (iJ hI (a179 hF hC hw)) (a6 hI hF hC hw) b1, fun o2 t hM => ⟨ag_A hI hC hw hM hF, pa197 hM⟩⟩
theorem ok_soonest {u : Sto} {T W pf pc tl : Nat} {x0 x1 : Int32} : ∀ o w, PSp (sooR u x0 x1) o w → okO [ioob] o := by
  rintro o w ⟨rfl, -⟩
  unfold sooR
  repeat' split
  all_goals first | exact ⟨_, rfl⟩ | exact List.mem_cons_self | exact List.mem_cons_of_mem _ List.mem_cons_self | exact List.mem_cons_of_mem _ (List.mem_cons_of_mem _ List.mem_cons_self)
theorem pr_soonest {E : EE} {i : Nat} {u : Sto} {T W pf pc tl : Nat} (hi : i ≤ 512) (hI : INVp i u T W pf pc tl) (x0 x1 : Int32) : PrH E i u [ioob] 9 yX10_soonest cX10_soonest 3 35 yX11_soonest cX11_soonest 5 [.int x0, .int x1] := by
  obtain ⟨wk, nw, b1, b2, b3, b4, b5⟩ := iTB hi hI
  obtain ⟨lc, l1, l2⟩ := hI.1.ti.lc
  refine ⟨_, c_X10_soonest T hI.1.r.hT nw b3 x0 x1 u (iWI hI) hI.1.r.vt b2, (ok_soonest (T := T) (W := W) (pf := pf) (pc := pc) (tl := tl)), fun o w w' hC hw => ?_⟩
  exact ⟨_, c_X11_soonest u T W x0 x1 w' (iK hI (i179 (q_IB r2_sooR hC hw))) hI.1.ti hI.1.ri, fun o2 t hM => ⟨ag_Q ⟨T, W, pf, pc, tl, hI⟩ r2_sooR hC hw hM, pm197 hM⟩⟩
theorem ok_heard {u : Sto} {T W pf pc tl : Nat} {x0 x1 : Int32} : ∀ o w, PSp (heaR u T x0 x1) o w → okO [ioob, iae] o := by
  rintro o w ⟨rfl, -⟩
  unfold heaR
  repeat' split
  all_goals first | exact ⟨_, rfl⟩ | exact List.mem_cons_self | exact List.mem_cons_of_mem _ List.mem_cons_self | exact List.mem_cons_of_mem _ (List.mem_cons_of_mem _ List.mem_cons_self)
theorem pr_heard {E : EE} {i : Nat} {u : Sto} {T W pf pc tl : Nat} (hi : i ≤ 512) (hI : INVp i u T W pf pc tl) (x0 x1 : Int32) : PrH E i u [ioob, iae] 9 yX10_heard cX10_heard 3 35 yX11_heard cX11_heard 5 [.int x0, .int x1] := by
  obtain ⟨wk, nw, b1, b2, b3, b4, b5⟩ := iTB hi hI
  obtain ⟨lc, l1, l2⟩ := hI.1.ti.lc
  refine ⟨_, c_X10_heard T hI.1.r.hT nw b3 x0 x1 u (iWI hI) hI.1.r.vt b2, (ok_heard (T := T) (W := W) (pf := pf) (pc := pc) (tl := tl)), fun o w w' hC hw => ?_⟩
  exact ⟨_, c_X11_heard u T W x0 x1 w' (iK hI (i179 (q_IB r2_heaR hC hw))) hI.1.ti hI.1.ri, fun o2 t hM => ⟨ag_Q ⟨T, W, pf, pc, tl, hI⟩ r2_heaR hC hw hM, pm197 hM⟩⟩
theorem ok_roomsFor {u : Sto} {T W pf pc tl : Nat} {x0 x1 x2 : Int32} : ∀ o w, PSp (rfrR u x0 x1 x2) o w → okO [ioob, iae] o := by
  rintro o w ⟨rfl, -⟩
  unfold rfrR
  repeat' split
  all_goals first | exact ⟨_, rfl⟩ | exact List.mem_cons_self | exact List.mem_cons_of_mem _ List.mem_cons_self | exact List.mem_cons_of_mem _ (List.mem_cons_of_mem _ List.mem_cons_self)
theorem pr_roomsFor {E : EE} {i : Nat} {u : Sto} {T W pf pc tl : Nat} (hi : i ≤ 512) (hI : INVp i u T W pf pc tl) (x0 x1 x2 : Int32) : PrH E i u [ioob, iae] 9 yX10_roomsFor cX10_roomsFor 4 35 yX11_roomsFor cX11_roomsFor 10 [.int x0, .int x1, .int x2] := by
  obtain ⟨wk, nw, b1, b2, b3, b4, b5⟩ := iTB hi hI
  obtain ⟨lc, l1, l2⟩ := hI.1.ti.lc
  refine ⟨_, c_X10_roomsFor T hI.1.r.hT x0 x1 x2 u (iWI hI) hI.1.r.vt, (ok_roomsFor (T := T) (W := W) (pf := pf) (pc := pc) (tl := tl)), fun o w w' hC hw => ?_⟩
  exact ⟨_, c_X11_roomsFor u T W x0 x1 x2 w' (iK hI (i179 (q_IB r2_rfrR hC hw))), fun o2 t hM => ⟨ag_Q ⟨T, W, pf, pc, tl, hI⟩ r2_rfrR hC hw hM, pm197 hM⟩⟩
theorem ok_thieves {u : Sto} {T W pf pc tl : Nat} {x9 : Int32} : ∀ o w, PSp (thiR u T tl) o w → okO [iae] o := by
  rintro o w ⟨rfl, -⟩
  unfold thiR
  repeat' split
  all_goals first | exact ⟨_, rfl⟩ | exact List.mem_cons_self | exact List.mem_cons_of_mem _ List.mem_cons_self | exact List.mem_cons_of_mem _ (List.mem_cons_of_mem _ List.mem_cons_self)
theorem pr_thieves {E : EE} {i : Nat} {u : Sto} {T W pf pc tl : Nat} (hi : i ≤ 512) (hI : INVp i u T W pf pc tl) : PrH E i u [iae] 10 yX10_thieves cX10_thieves 4 35 yX11_thieves cX11_thieves 7 [] := by
  obtain ⟨wk, nw, b1, b2, b3, b4, b5⟩ := iTB hi hI
  obtain ⟨lc, l1, l2⟩ := hI.1.ti.lc
  refine ⟨_, c_X10_thieves T hI.1.r.hT tl hI.2.2.2.2.2.2.2.2.1 u hI.1.r.vt hI.2.2.2.2.2.2.2.2.2.1, (ok_thieves (T := T) (W := W) (pf := pf) (pc := pc) (tl := tl) (x9 := 0)), fun o w w' hC hw => ?_⟩
  have hB : IB w' (tU u) := by
    have := a_IB hC hw
    rw [r2_thiR] at this
    exact this
  have e179 : w' 179 = u 179 := (i179 hB).trans (su_cell _ _ (by decide))
  have e8 : w' 178 8 = nI tl := by
    rw [hB.2.2.2.1]
    unfold tU
    rw [su_cell _ _ (by decide)]
    exact hI.2.2.2.2.2.2.2.2.2.2.1
  have e183 : ∀ j, j < tl → w' 183 j = u 1 j := fun j hj => by
    rw [i183 hB]
    unfold tU
    rw [su_cell _ _ (by decide)]
    exact (hI.2.2.2.2.2.2.2.2.2.2.2.1 j (by have := hI.2.2.2.2.2.2.2.2.1; omega)).symm
  exact ⟨_, c_X11_thieves u T W tl w' (iK hI e179) hI.1.ti e8 hI.2.2.2.2.2.2.2.2.1 e183, fun o2 t hM => ⟨ag_T hI r2_thiR hC hw hM, (pm197 hM).trans (by rw [su_cell _ _ (by decide)])⟩⟩
theorem ok_seen {u : Sto} {T W pf pc tl : Nat} {x9 : Int32} : ∀ o w, PSp (senR u T tl) o w → okO [iae] o := by
  rintro o w ⟨rfl, -⟩
  unfold senR
  repeat' split
  all_goals first | exact ⟨_, rfl⟩ | exact List.mem_cons_self | exact List.mem_cons_of_mem _ List.mem_cons_self | exact List.mem_cons_of_mem _ (List.mem_cons_of_mem _ List.mem_cons_self)
theorem pr_seen {E : EE} {i : Nat} {u : Sto} {T W pf pc tl : Nat} (hi : i ≤ 512) (hI : INVp i u T W pf pc tl) : PrH E i u [iae] 10 yX10_seen cX10_seen 3 35 yX11_seen cX11_seen 4 [] := by
  obtain ⟨wk, nw, b1, b2, b3, b4, b5⟩ := iTB hi hI
  obtain ⟨lc, l1, l2⟩ := hI.1.ti.lc
  refine ⟨_, c_X10_seen T hI.1.r.hT tl hI.2.2.2.2.2.2.2.2.1 u hI.1.r.vt hI.2.2.2.2.2.2.2.2.2.1, (ok_seen (T := T) (W := W) (pf := pf) (pc := pc) (tl := tl) (x9 := 0)), fun o w w' hC hw => ?_⟩
  have hB : IB w' (tU u) := by
    have := a_IB hC hw
    rw [r2_senR] at this
    exact this
  have e179 : w' 179 = u 179 := (i179 hB).trans (su_cell _ _ (by decide))
  have e8 : w' 178 8 = nI tl := by
    rw [hB.2.2.2.1]
    unfold tU
    rw [su_cell _ _ (by decide)]
    exact hI.2.2.2.2.2.2.2.2.2.2.1
  have e183 : ∀ j, j < tl → w' 183 j = u 1 j := fun j hj => by
    rw [i183 hB]
    unfold tU
    rw [su_cell _ _ (by decide)]
    exact (hI.2.2.2.2.2.2.2.2.2.2.2.1 j (by have := hI.2.2.2.2.2.2.2.2.1; omega)).symm
  exact ⟨_, c_X11_seen u T W tl w' (iK hI e179) e8 hI.2.2.2.2.2.2.2.2.1 e183, fun o2 t hM => ⟨ag_T hI r2_senR hC hw hM, (pm197 hM).trans (by rw [su_cell _ _ (by decide)])⟩⟩
theorem ok_changed {u : Sto} {T W pf pc tl : Nat} {x0 x1 x2 : Int32} : ∀ o w, PSp (chgR u T x0 x1 x2) o w → okO [ioob, iae] o := by
  rintro o w ⟨rfl, -⟩
  unfold chgR
  repeat' split
  all_goals first | exact ⟨_, rfl⟩ | exact List.mem_cons_self | exact List.mem_cons_of_mem _ List.mem_cons_self | exact List.mem_cons_of_mem _ (List.mem_cons_of_mem _ List.mem_cons_self)
theorem pr_changed {E : EE} {i : Nat} {u : Sto} {T W pf pc tl : Nat} (hi : i ≤ 512) (hI : INVp i u T W pf pc tl) (x0 x1 x2 : Int32) : PrH E i u [ioob, iae] 9 yX10_changed cX10_changed 4 35 yX11_changed cX11_changed 7 [.int x0, .int x1, .int x2] := by
  obtain ⟨wk, nw, b1, b2, b3, b4, b5⟩ := iTB hi hI
  obtain ⟨lc, l1, l2⟩ := hI.1.ti.lc
  refine ⟨_, c_X10_changed T hI.1.r.hT x0 x1 x2 u (iWI hI) hI.1.r.vt, (ok_changed (T := T) (W := W) (pf := pf) (pc := pc) (tl := tl)), fun o w w' hC hw => ?_⟩
  exact ⟨_, c_X11_changed u T W x0 x1 x2 w' (iK hI (i179 (q_IB r2_chgR hC hw))) hI.1.ti hI.1.ri, fun o2 t hM => ⟨ag_Q ⟨T, W, pf, pc, tl, hI⟩ r2_chgR hC hw hM, pm197 hM⟩⟩
theorem ok_log {u : Sto} {T W pf pc tl : Nat} {x0 x1 : Int32} : ∀ o w, PSp (logR u x0 x1) o w → okO [nsee] o := by
  rintro o w ⟨rfl, -⟩
  unfold logR
  repeat' split
  all_goals first | exact ⟨_, rfl⟩ | exact List.mem_cons_self | exact List.mem_cons_of_mem _ List.mem_cons_self | exact List.mem_cons_of_mem _ (List.mem_cons_of_mem _ List.mem_cons_self)
theorem pr_log {E : EE} {i : Nat} {u : Sto} {T W pf pc tl : Nat} (hi : i ≤ 512) (hI : INVp i u T W pf pc tl) (x0 x1 : Int32) : PrH E i u [nsee] 9 yX10_log cX10_log 4 35 yX11_log cX11_log 3 [.int x0, .int x1] := by
  obtain ⟨wk, nw, b1, b2, b3, b4, b5⟩ := iTB hi hI
  obtain ⟨lc, l1, l2⟩ := hI.1.ti.lc
  refine ⟨_, c_X10_log x0 x1 u (iWI hI) lc l1 l2, (ok_log (T := T) (W := W) (pf := pf) (pc := pc) (tl := tl)), fun o w w' hC hw => ?_⟩
  exact ⟨_, c_X11_log u T W x0 x1 w' (iK hI (i179 (q_IB r2_logR hC hw))) hI.1.ti (iG hI (i179 (q_IB r2_logR hC hw))), fun o2 t hM => ⟨ag_Q ⟨T, W, pf, pc, tl, hI⟩ r2_logR hC hw hM, pm197 hM⟩⟩
theorem ok_led {u : Sto} {T W pf pc tl : Nat} {x0 x1 : Int32} : ∀ o w, PSp (ledR u x0 x1) o w → okO [ioob, iae] o := by
  rintro o w ⟨rfl, -⟩
  unfold ledR
  repeat' split
  all_goals first | exact ⟨_, rfl⟩ | exact List.mem_cons_self | exact List.mem_cons_of_mem _ List.mem_cons_self | exact List.mem_cons_of_mem _ (List.mem_cons_of_mem _ List.mem_cons_self)
theorem pr_led {E : EE} {i : Nat} {u : Sto} {T W pf pc tl : Nat} (hi : i ≤ 512) (hI : INVp i u T W pf pc tl) (x0 x1 : Int32) : PrH E i u [ioob, iae] 9 yX10_led cX10_led 6 35 yX11_led cX11_led 5 [.int x0, .int x1] := by
  obtain ⟨wk, nw, b1, b2, b3, b4, b5⟩ := iTB hi hI
  obtain ⟨lc, l1, l2⟩ := hI.1.ti.lc
  refine ⟨_, c_X10_led x0 x1 u (iWI hI) lc l1 l2, (ok_led (T := T) (W := W) (pf := pf) (pc := pc) (tl := tl)), fun o w w' hC hw => ?_⟩
  exact ⟨_, c_X11_led u T W x0 x1 w' (iK hI (i179 (q_IB r2_ledR hC hw))) hI.1.ti (iG hI (i179 (q_IB r2_ledR hC hw))), fun o2 t hM => ⟨ag_Q ⟨T, W, pf, pc, tl, hI⟩ r2_ledR hC hw hM, pm197 hM⟩⟩
theorem pr_feed {E : EE} {i : Nat} {u : Sto} {T W pf pc tl : Nat} (hi : i ≤ 512) (hI : INVp i u T W pf pc tl) (a b c d e : Int32) : PrD E i u .int 2 yX10_feed cX10_feed 6 1 yX11_feed cX11_feed 8 [.int a, .int b, .int c, .int d, .int e] := by
  refine ⟨_, ct_cp (c_X10_feed tl hI.2.2.2.2.2.2.2.2.1 a b c d e u hI.2.2.2.2.2.2.2.2.2.1), (fun Ex w h => nomatch h.1), fun o w hC => ?_⟩
  obtain ⟨rfl, hw⟩ := hC
  obtain ⟨h1, h2⟩ := ag_feed (a := a) (b := b) (c := c) (d := d) (e := e) hI w hw
  exact ⟨_, ct_cp (c_X11_feed tl hI.2.2.2.2.2.2.2.2.1 a b c d e w h1), fun o2 t hM => by rw [hM.1, hM.2]; exact h2⟩
theorem pr_end {E : EE} {i : Nat} {u : Sto} {T W pf pc tl : Nat} (hi : i ≤ 512) (hI : INVp i u T W pf pc tl) (x : Int32) : PrD E i u .boolean 1 yX10_end cX10_end 2 2 yX11_end cX11_end 2 [.int x] := by
  refine ⟨_, ct_cp (c_X10_end tl hI.2.2.2.2.2.2.2.2.1 x u hI.2.2.2.2.2.2.2.2.2.1), (fun Ex w h => nomatch h.1), fun o w hC => ?_⟩
  obtain ⟨rfl, hw⟩ := hC
  obtain ⟨h1, h2⟩ := ag_end (x := x) hI w hw
  exact ⟨_, ct_cp (c_X11_end tl hI.2.2.2.2.2.2.2.2.1 x w h1), fun o2 t hM => by rw [hM.1, hM.2]; exact h2⟩
theorem pr_fault {E : EE} {i : Nat} {u : Sto} {T W pf pc tl : Nat} (hi : i ≤ 512) (hI : INVp i u T W pf pc tl) : PrD E i u .int 1 yX10_fault cX10_fault 1 1 yX11_fault cX11_fault 1 [] := by
  refine ⟨_, ct_cp (c_X10_fault u), (fun Ex w h => nomatch h.1), fun o w hC => ?_⟩
  obtain ⟨rfl, rfl⟩ := hC
  exact ⟨_, ct_cp (c_X11_fault w), fun o2 t hM => by rw [hM.1, hM.2]; exact ag_fault ⟨T, W, pf, pc, tl, hI⟩⟩
theorem pr_seed {E : EE} {i : Nat} {u : Sto} {T W pf pc tl : Nat} (hi : i ≤ 512) (hI : INVp i u T W pf pc tl) (x : Int32) : PrD E i u .int 1 yX10_seed cX10_seed 3 1 yX11_seed cX11_seed 3 [.int x] := by
  refine ⟨_, ct_cp (c_X10_seed x u), (fun Ex w h => nomatch h.1), fun o w hC => ?_⟩
  obtain ⟨rfl, rfl⟩ := hC
  exact ⟨_, ct_cp (c_X11_seed x _), fun o2 t hM => by rw [hM.1, hM.2]; exact ag_seed ⟨T, W, pf, pc, tl, hI⟩⟩
theorem pr_empty {E : EE} {i : Nat} {u : Sto} {T W pf pc tl : Nat} (hi : i ≤ 512) (hI : INVp i u T W pf pc tl) (z : Int32) : PrD E i u .int 3 yX10_empty cX10_empty 2 3 yX11_empty cX11_empty 2 [.int z] := by
  refine ⟨_, ct_cp (c_X10_empty z u), (fun Ex w h => nomatch h.1), fun o w hC => ?_⟩
  obtain ⟨rfl, rfl⟩ := hC
  exact ⟨_, c_X11_empty w T W z w (iK hI rfl) hI.1.ti, fun o2 t hM => ag_D ⟨T, W, pf, pc, tl, hI⟩ ⟨rfl, sim.refl _⟩ hM⟩
theorem pr_court {E : EE} {i : Nat} {u : Sto} {T W pf pc tl : Nat} (hi : i ≤ 512) (hI : INVp i u T W pf pc tl) (x z : Int32) : PrD E i u .int 4 yX10_court cX10_court 3 3 yX11_court cX11_court 9 [.int x, .int z] := by
  refine ⟨_, ct_cp (c_X10_court T hI.1.r.hT x z u hI.1.r.vt), (fun Ex w h => nomatch h.1), fun o w hC => ?_⟩
  obtain ⟨rfl, rfl⟩ := hC
  exact ⟨_, c_X11_court w T W x z w (iK hI rfl) hI.1.ti, fun o2 t hM => ag_D ⟨T, W, pf, pc, tl, hI⟩ ⟨rfl, sim.refl _⟩ hM⟩
theorem pr_fitted {E : EE} {i : Nat} {u : Sto} {T W pf pc tl : Nat} (hi : i ≤ 512) (hI : INVp i u T W pf pc tl) (z : Int32) : PrD E i u .int 8 yX10_fitted cX10_fitted 3 36 yX11_fitted cX11_fitted 4 [.int z] := by
  refine ⟨_, c_X10_fitted W z u hI.2.1.1 (iWW hI), ps_nx, fun o w hC => ?_⟩
  exact ⟨_, c_X11_fitted u T W z w (iK hI (hC.2.cell 179 (fun j => by simp [scrB]))) hI.1.ri, fun o2 t hM => ag_D ⟨T, W, pf, pc, tl, hI⟩ hC hM⟩
theorem pr_count {E : EE} {i : Nat} {u : Sto} {T W pf pc tl : Nat} (hi : i ≤ 512) (hI : INVp i u T W pf pc tl) (x : Int32) : PrD E i u .int 3 yX10_count cX10_count 2 4 yX11_count cX11_count 2 [.int x] := by
  refine ⟨_, ct_cp (c_X10_count x u), (fun Ex w h => nomatch h.1), fun o w hC => ?_⟩
  obtain ⟨rfl, rfl⟩ := hC
  exact ⟨_, c_X11_count w T W x w (iK hI rfl) hI.1.ti (by rw [hI.2.2.2.2.1, hI.2.2.2.1.2.2.2]), fun o2 t hM => ag_D ⟨T, W, pf, pc, tl, hI⟩ ⟨rfl, sim.refl _⟩ hM⟩
theorem pr_undo {E : EE} {i : Nat} {u : Sto} {T W pf pc tl : Nat} (hi : i ≤ 512) (hI : INVp i u T W pf pc tl) : PrD E i u .boolean 4 yX10_undo cX10_undo 1 1 yX11_undo cX11_undo 2 [] := by
  obtain ⟨p1, p2, p3, p4⟩ := id hI.2.2.2.1
  refine ⟨_, ct_cp (c_X10_undo pf p1 pc p2 u p3 p4), (fun Ex w h => nomatch h.1), fun o w hC => ?_⟩
  obtain ⟨rfl, hw⟩ := hC
  cases pc with
  | zero =>
    rw [if_neg (Nat.lt_irrefl 0)] at hw
    subst hw
    exact ⟨_, ct_cp (c_X11_undo_0 w hI.2.2.2.2.1), fun o2 t hM => by rw [hM.1, hM.2]; exact ag_undo0 ⟨T, W, pf, 0, tl, hI⟩⟩
  | succ a =>
    rw [if_pos (Nat.succ_pos a), Nat.add_sub_cancel] at hw
    obtain ⟨h1, h2⟩ := ag_undo hI w hw
    exact ⟨_, ct_cp (c_X11_undo_s a (by omega) w h1), fun o2 t hM => by rw [hM.1, hM.2]; exact h2⟩
theorem pr_back {E : EE} {i : Nat} {u : Sto} {T W pf pc tl : Nat} (hi : i ≤ 512) (hI : INVp i u T W pf pc tl) : PrD E i u .boolean 5 yX10_back cX10_back 1 1 yX11_back cX11_back 2 [] := by
  refine ⟨_, ct_cp (c_X10_back u), (fun Ex w h => nomatch h.1), fun o w hC => ?_⟩
  obtain ⟨rfl, hw⟩ := hC
  by_cases z : u 0 6 = 0
  · rw [if_pos z] at hw
    subst hw
    obtain ⟨h1, h2⟩ := ag_back0 ⟨T, W, pf, pc, tl, hI⟩ z
    exact ⟨_, ct_cp (c_X11_back_0 w h1), fun o2 t hM => by rw [hM.1, hM.2]; exact h2⟩
  · rw [if_neg z] at hw
    obtain ⟨h1, h2⟩ := ag_back ⟨T, W, pf, pc, tl, hI⟩ z w hw
    exact ⟨_, ct_cp (c_X11_back_1 w h1), fun o2 t hM => by rw [hM.1, hM.2]; exact h2⟩
