-- after: c6.cx
def strTmL : List Term := [.string "HourLets$TownText" 45, .string "HourLets$TownText" 106, .string "HourLets$TownText" 175, .string "HourLets$TownText" 54, .string "HourLets$TownText" 136, .string "HourLets$TownText" 59, .string "HourLets$TownText" 64, .string "HourLets$TownText" 69, .string "HourLets$TownText" 74, .string "HourLets$TownText" 79, .string "HourLets$TownText" 168, .string "HourLets$TownText" 84, .string "HourLets" 116, .string "HourLets" 126, .string "HourLets$LawText" 50, .string "HourLets$LawText" 63, .string "HourLets$LawText" 65, .string "HourLets$LawText" 74, .string "HourLets$LawText" 86, .string "HourLets$LawText" 121, .string "HourLets$LawText" 139, .string "HourLets$LawText" 141, .string "HourLets$LawText" 143, .string "HourLets$LawText" 145, .string "HourLets$LawText" 149, .string "HourLets$LawText" 100, .string "HourLets$LawText" 102, .string "HourLets" 405, .string "HourLets" 175, .string "HourLets" 411, .string "HourLets" 419, .string "HourLets" 413, .string "HourLets" 415, .string "HourLets" 310, .string "HourLets" 333, .string "HourLets" 338, .string "HourLets" 367]
def strTm (i : Nat) : Term := strTmL.getD i (.int 0)
abbrev strVal (i : Nat) : Term := .field (strTm i) "java/lang/String" "value" "[B"
/-- what the start says of the text i -/
def gA (i : Nat) : List Cond := [.exactly (strTm i) "java/lang/String", .eq (.field (strTm i) "java/lang/String" "coder" "B") (.int 0), .arrayOf (strVal i) .byte, .eq (.length (strVal i)) (.int (Int32.ofNat (strLen.getD i 0)))] ++ (List.range (strLen.getD i 0)).map (fun j => .eq (.elem (strVal i) (.int (Int32.ofNat j))) (.int ((strByt.getD i []).getD j 0)))
abbrev startC : Cond := Jvm.Cond.and given_1 narrow_1
theorem gA_sub : ((List.range 37).flatMap gA).isSublist (flatC startC) = true := by decide +kernel
theorem gA_in {i : Nat} (hi : i < 37) {c : Cond} (hc : c ∈ gA i) : c ∈ flatC startC := (List.isSublist_iff_sublist.mp gA_sub).subset (List.mem_flatMap.mpr ⟨i, List.mem_range.mpr hi, hc⟩)
theorem nc_in : ∀ a ∈ exL, ∀ b ∈ exL, a ≠ b → Cond.not (.castable a b) ∈ flatC startC := by decide +kernel
theorem st_len : ∀ i, i < 37 → strLen.getD i 0 < 100 := by decide +kernel
theorem st_inj : ∀ i, i < 37 → ∀ j, j < 37 → strLen.getD i 0 = strLen.getD j 0 → (∀ k, k < strLen.getD i 0 → (strByt.getD i []).getD k 0 = (strByt.getD j []).getD k 0) → i = j := by decide +kernel
/-- each use of a text is its first one, or the start says that they are one -/
theorem st_use : ∀ q ∈ strUse, q.2.2.2 < 37 ∧ (Term.string q.1 q.2.1 = strTm q.2.2.2 ∨ Cond.eq (strTm q.2.2.2) (.string q.1 q.2.1) ∈ flatC startC) := by decide +kernel
theorem st_ref : ∀ q ∈ strUse, Cond.stringRef q.1 q.2.1 q.2.2.1 ∈ lw_tbl := by
  unfold strUse
  refine List.forall_mem_cons.mpr ⟨in_t3 (List.mem_of_getElem? (i := 183) rfl), ?_⟩
  refine List.forall_mem_cons.mpr ⟨in_t4 (List.mem_of_getElem? (i := 31) rfl), ?_⟩
  refine List.forall_mem_cons.mpr ⟨in_t4 (List.mem_of_getElem? (i := 43) rfl), ?_⟩
  refine List.forall_mem_cons.mpr ⟨in_t4 (List.mem_of_getElem? (i := 58) rfl), ?_⟩
  refine List.forall_mem_cons.mpr ⟨in_t4 (List.mem_of_getElem? (i := 63) rfl), ?_⟩
  refine List.forall_mem_cons.mpr ⟨in_t4 (List.mem_of_getElem? (i := 68) rfl), ?_⟩
  refine List.forall_mem_cons.mpr ⟨in_t4 (List.mem_of_getElem? (i := 85) rfl), ?_⟩
  refine List.forall_mem_cons.mpr ⟨in_t4 (List.mem_of_getElem? (i := 94) rfl), ?_⟩
  refine List.forall_mem_cons.mpr ⟨in_t4 (List.mem_of_getElem? (i := 99) rfl), ?_⟩
  refine List.forall_mem_cons.mpr ⟨in_t4 (List.mem_of_getElem? (i := 104) rfl), ?_⟩
  refine List.forall_mem_cons.mpr ⟨in_t4 (List.mem_of_getElem? (i := 109) rfl), ?_⟩
  refine List.forall_mem_cons.mpr ⟨in_t4 (List.mem_of_getElem? (i := 114) rfl), ?_⟩
  refine List.forall_mem_cons.mpr ⟨in_t4 (List.mem_of_getElem? (i := 180) rfl), ?_⟩
  refine List.forall_mem_cons.mpr ⟨in_t4 (List.mem_of_getElem? (i := 216) rfl), ?_⟩
  refine List.forall_mem_cons.mpr ⟨in_t5 (List.mem_of_getElem? (i := 8) rfl), ?_⟩
  refine List.forall_mem_cons.mpr ⟨in_t5 (List.mem_of_getElem? (i := 19) rfl), ?_⟩
  refine List.forall_mem_cons.mpr ⟨in_t5 (List.mem_of_getElem? (i := 20) rfl), ?_⟩
  refine List.forall_mem_cons.mpr ⟨in_t5 (List.mem_of_getElem? (i := 34) rfl), ?_⟩
  refine List.forall_mem_cons.mpr ⟨in_t5 (List.mem_of_getElem? (i := 35) rfl), ?_⟩
  refine List.forall_mem_cons.mpr ⟨in_t5 (List.mem_of_getElem? (i := 52) rfl), ?_⟩
  refine List.forall_mem_cons.mpr ⟨in_t5 (List.mem_of_getElem? (i := 53) rfl), ?_⟩
  refine List.forall_mem_cons.mpr ⟨in_t5 (List.mem_of_getElem? (i := 79) rfl), ?_⟩
  refine List.forall_mem_cons.mpr ⟨in_t5 (List.mem_of_getElem? (i := 80) rfl), ?_⟩
  refine List.forall_mem_cons.mpr ⟨in_t5 (List.mem_of_getElem? (i := 81) rfl), ?_⟩
  refine List.forall_mem_cons.mpr ⟨in_t5 (List.mem_of_getElem? (i := 82) rfl), ?_⟩
  refine List.forall_mem_cons.mpr ⟨in_t5 (List.mem_of_getElem? (i := 83) rfl), ?_⟩
  refine List.forall_mem_cons.mpr ⟨in_t5 (List.mem_of_getElem? (i := 84) rfl), ?_⟩
  refine List.forall_mem_cons.mpr ⟨in_t5 (List.mem_of_getElem? (i := 93) rfl), ?_⟩
  refine List.forall_mem_cons.mpr ⟨in_t5 (List.mem_of_getElem? (i := 94) rfl), ?_⟩
  refine List.forall_mem_cons.mpr ⟨in_t5 (List.mem_of_getElem? (i := 132) rfl), ?_⟩
  refine List.forall_mem_cons.mpr ⟨in_t5 (List.mem_of_getElem? (i := 168) rfl), ?_⟩
  refine List.forall_mem_cons.mpr ⟨in_t5 (List.mem_of_getElem? (i := 188) rfl), ?_⟩
  refine List.forall_mem_cons.mpr ⟨in_t5 (List.mem_of_getElem? (i := 239) rfl), ?_⟩
  refine List.forall_mem_cons.mpr ⟨in_t6 (List.mem_of_getElem? (i := 46) rfl), ?_⟩
  refine List.forall_mem_cons.mpr ⟨in_t6 (List.mem_of_getElem? (i := 86) rfl), ?_⟩
  refine List.forall_mem_cons.mpr ⟨in_t7 (List.mem_of_getElem? (i := 8) rfl), ?_⟩
  refine List.forall_mem_cons.mpr ⟨in_t7 (List.mem_of_getElem? (i := 104) rfl), ?_⟩
  refine List.forall_mem_cons.mpr ⟨in_t7 (List.mem_of_getElem? (i := 120) rfl), ?_⟩
  refine List.forall_mem_cons.mpr ⟨in_t7 (List.mem_of_getElem? (i := 170) rfl), ?_⟩
  refine List.forall_mem_cons.mpr ⟨in_t8 (List.mem_of_getElem? (i := 81) rfl), ?_⟩
  refine List.forall_mem_cons.mpr ⟨in_t8 (List.mem_of_getElem? (i := 88) rfl), ?_⟩
  refine List.forall_mem_cons.mpr ⟨in_t8 (List.mem_of_getElem? (i := 89) rfl), ?_⟩
  refine List.forall_mem_cons.mpr ⟨in_t8 (List.mem_of_getElem? (i := 98) rfl), ?_⟩
  refine List.forall_mem_cons.mpr ⟨in_t8 (List.mem_of_getElem? (i := 111) rfl), ?_⟩
  refine List.forall_mem_cons.mpr ⟨in_t8 (List.mem_of_getElem? (i := 120) rfl), ?_⟩
  refine List.forall_mem_cons.mpr ⟨in_t8 (List.mem_of_getElem? (i := 121) rfl), ?_⟩
  refine List.forall_mem_cons.mpr ⟨in_t8 (List.mem_of_getElem? (i := 130) rfl), ?_⟩
  refine List.forall_mem_cons.mpr ⟨in_t8 (List.mem_of_getElem? (i := 131) rfl), ?_⟩
  refine List.forall_mem_cons.mpr ⟨in_t8 (List.mem_of_getElem? (i := 132) rfl), ?_⟩
  refine List.forall_mem_cons.mpr ⟨in_t8 (List.mem_of_getElem? (i := 133) rfl), ?_⟩
  refine List.forall_mem_cons.mpr ⟨in_t8 (List.mem_of_getElem? (i := 134) rfl), ?_⟩
  refine List.forall_mem_cons.mpr ⟨in_t8 (List.mem_of_getElem? (i := 135) rfl), ?_⟩
  refine List.forall_mem_cons.mpr ⟨in_t8 (List.mem_of_getElem? (i := 136) rfl), ?_⟩
  refine List.forall_mem_cons.mpr ⟨in_t8 (List.mem_of_getElem? (i := 137) rfl), ?_⟩
  refine List.forall_mem_cons.mpr ⟨in_t8 (List.mem_of_getElem? (i := 142) rfl), ?_⟩
  refine List.forall_mem_cons.mpr ⟨in_t8 (List.mem_of_getElem? (i := 151) rfl), ?_⟩
  refine List.forall_mem_cons.mpr ⟨in_t8 (List.mem_of_getElem? (i := 156) rfl), ?_⟩
  refine List.forall_mem_cons.mpr ⟨in_t8 (List.mem_of_getElem? (i := 157) rfl), ?_⟩
  refine List.forall_mem_cons.mpr ⟨in_t8 (List.mem_of_getElem? (i := 170) rfl), ?_⟩
  refine List.forall_mem_cons.mpr ⟨in_t8 (List.mem_of_getElem? (i := 183) rfl), ?_⟩
  refine List.forall_mem_cons.mpr ⟨in_t8 (List.mem_of_getElem? (i := 188) rfl), ?_⟩
  refine List.forall_mem_cons.mpr ⟨in_t8 (List.mem_of_getElem? (i := 189) rfl), ?_⟩
  refine List.forall_mem_cons.mpr ⟨in_t8 (List.mem_of_getElem? (i := 194) rfl), ?_⟩
  refine List.forall_mem_cons.mpr ⟨in_t8 (List.mem_of_getElem? (i := 195) rfl), ?_⟩
  exact fun _ h => nomatch h
theorem sel_priv {C : String} {xA yA y : MethodName} {s : State} {args : Array Value} (hy : y.cls ≠ "java/lang/invoke/MethodHandle" ∧ y.cls ≠ "java/lang/invoke/VarHandle") (hA : (Cond.selects C xA yA).before args s = true) (hcls : yA.cls = y.cls) (hpriv : (Cond.privateMethod y).before args s = true) (hinst : (Cond.instanceMethod y).before args s = true) : (Cond.selects C y y).before args s = true := by
  obtain ⟨c, r, m, hc, -, hnA, -, k0, hk0, hni⟩ := Cond.selects_spec hA
  obtain ⟨mk, methM, hnamed, hmethM, -, -⟩ := Cond.instanceMethod_spec hinst
  have hfound : s.methodFound? y.cls y.name y.desc = some mk := State.methodFound?_of_named hnamed hy
  have h1 := findClass_of_methodNamed hnA
  rw [hcls] at h1
  have hcl : mk.cls = m.cls := Option.some.inj ((findClass_of_methodNamed hnamed).symm.trans h1)
  have hsel : selectMethod {} s.vm c mk = .method mk := selectMethod_private hmethM (Cond.privateMethod_at hpriv mk methM hnamed hmethM)
  simp only [Cond.before, Cond.holds, Cond.value, hc, hfound, hnamed, hsel, hcl, hk0]
  simp; exact hni
theorem xsel_ok {s : State} {args : Array Value} (hts : ∀ w ∈ lw_tbl, w.before args s = true) : ∀ w ∈ xSel, w.before args s = true := by
  have hp := hts _ (in_t3 (List.mem_of_getElem? (i := 170) rfl))
  have hi := hts _ (in_t3 (List.mem_of_getElem? (i := 171) rfl))
  unfold xSel
  refine List.forall_mem_cons.mpr ⟨sel_priv ⟨by decide, by decide⟩ (hts _ (in_t3 (List.mem_of_getElem? (i := 159) rfl))) rfl hp hi, List.forall_mem_cons.mpr ⟨sel_priv ⟨by decide, by decide⟩ (hts _ (in_t3 (List.mem_of_getElem? (i := 166) rfl))) rfl hp hi, fun _ h => nomatch h⟩⟩
theorem tbl_ok {s : State} {args a' : Array Value} (hts : ∀ w ∈ lw_tbl, w.before args s = true) : ∀ w ∈ TW, w.before a' s = true := fun w hw => by
  obtain ⟨h1, h2⟩ := List.mem_filter.mp hw
  refine stable_of h2 (State.WarmedH.refl s) (A := args) ?_
  rcases List.mem_append.mp h1 with h | h
  · exact xsel_ok hts w h
  · exact hts w h
theorem str_start {s : State} {args : Array Value} {A : Nat → Prop} (hs : ∀ c ∈ flatC startC, c.before args s = true) (hA : ∀ a : Nat, a < s.heap.size → ¬ A a) : ∃ adK adV : Nat → Nat, vk_S strN strLen strByt adK adV A s s.heap ∧ ∀ i : Nat, i < 37 → (strTm i).eval args s none [] s = some (.ref (adK i)) := by
  have h0 : ∀ i : Nat, ∃ q : Nat × Nat, i < 37 → (strTm i).eval args s none [] s = some (.ref q.1) ∧ va_O "java/lang/String" q.1 A s s.heap ∧ va_OF "java/lang/String" "coder" "B" (.int 0) q.1 A s s.heap ∧ va_OF "java/lang/String" "value" "[B" (.ref q.2) q.1 A s s.heap ∧ va_T .byte q.2 (strLen.getD i 0) (fun j => .int ((strByt.getD i []).getD j 0)) A s s.heap := by
    intro i
    by_cases hi : i < 37
    · have hl := st_len i hi
      obtain ⟨k, v, hS, he⟩ := vk_Sof (args := args) (s := s) (N := 1) (tm := fun _ => strTm i) (len := [strLen.getD i 0]) (byt := [strByt.getD i []]) (A := A)
        (fun j hj => by obtain rfl : j = 0 := by omega
                        show strLen.getD i 0 < 2 ^ 31
                        omega)
        (fun j hj => hs _ (gA_in hi (List.mem_append_left _ (List.mem_of_getElem? (i := 0) rfl))))
        (fun j hj => hs _ (gA_in hi (List.mem_append_left _ (List.mem_of_getElem? (i := 1) rfl))))
        (fun j hj => hs _ (gA_in hi (List.mem_append_left _ (List.mem_of_getElem? (i := 2) rfl))))
        (fun j hj => by obtain rfl : j = 0 := by omega
                        exact hs _ (gA_in hi (List.mem_append_left _ (List.mem_of_getElem? (i := 3) rfl))))
        (fun j hj k hk => by obtain rfl : j = 0 := by omega
                             exact hs _ (gA_in hi (List.mem_append_right _ (List.mem_map.mpr ⟨k, List.mem_range.mpr hk, rfl⟩))))
        (fun a b ha hb hab => absurd (show a = b by omega) hab) hA
      exact ⟨(k 0, v 0), fun _ => ⟨he 0 (by decide), hS.1 0 (by decide)⟩⟩
    · exact ⟨(0, 0), fun h => absurd h hi⟩
  obtain ⟨ad, had⟩ := Classical.axiomOfChoice h0
  refine ⟨fun i => (ad i).1, fun i => (ad i).2, ⟨fun i hi => (had i hi).2, fun i j hi hj e => ?_⟩, fun i hi => (had i hi).1⟩
  obtain ⟨-, -, -, ⟨cf, k, fi, f, cell, a1, a2, a3, a4, a5, -⟩, ⟨ci, b1, -, -, b4, b5, b6, -⟩⟩ := had i hi
  obtain ⟨-, -, -, ⟨cf', k', fi', f', cell', a1', a2', a3', a4', a5', -⟩, ⟨cj, b1', -, -, b4', b5', b6', -⟩⟩ := had j hj
  have e : (ad i).1 = (ad j).1 := e
  rw [a1] at a1'
  cases a1'
  rw [e] at a3
  rw [a3] at a3'
  cases a3'
  rw [a5] at a5'
  have ev : (ad i).2 = (ad j).2 := Value.ref.inj (Option.some.inj a5')
  rw [ev] at b1
  rw [b1] at b1'
  cases b1'
  have hli := st_len i hi
  have hlj := st_len j hj
  have el : strLen.getD i 0 = strLen.getD j 0 := by
    have := b5.symm.trans b5'
    exact (nI_eq (by omega) (by omega)).mp this
  refine st_inj i hi j hj el (fun k hk => ?_)
  have h1 := b6 k hk
  have h2 := b6' k (by omega)
  rw [h1] at h2
  exact Value.int.inj (Option.some.inj h2)
set_option maxHeartbeats 2000000 in
theorem env_start {s : State} {b : Nat} (l : Launch) (hl : l.stackTraces = false) (hts : ∀ w ∈ lw_tbl, w.before #[Value.ref b] s = true) (hgv : startC.before #[Value.ref b] s = true) : ∃ E : EE, E.l = l ∧ E.sz = s.heap.size ∧ AdC E ∧ EnvOK E s ∧ NcOK s ∧ va_AO "HourLets$Town" s := by
  have hTW : ∀ w ∈ TW, w.before #[Value.ref b] s = true := tbl_ok hts
  have hs := flat_of_before _ hgv
  obtain ⟨c0, i0, k0⟩ := u_known (C := RX0) (T := TX0) (N := 11) (n := 11) hTW uw_X0 (hTW _ tw_2_95)
  obtain ⟨c1, i1, k1⟩ := u_known (C := RX1) (T := TX1) (N := 6) (n := 6) hTW uw_X1 (hTW _ tw_2_135)
  obtain ⟨c2, i2, k2⟩ := u_known (C := RX2) (T := TX2) (N := 6) (n := 6) hTW uw_X2 (hTW _ tw_1_190)
  obtain ⟨c3, i3, k3⟩ := u_known (C := RX3) (T := TX3) (N := 12) (n := 12) hTW uw_X3 (hTW _ tw_2_50)
  obtain ⟨c4, i4, k4⟩ := u_known (C := RX4) (T := TX4) (N := 13) (n := 13) hTW uw_X4 (hTW _ tw_1_118)
  obtain ⟨c5, i5, k5⟩ := u_known (C := RX5) (T := TX5) (N := 3) (n := 3) hTW uw_X5 (hTW _ tw_2_79)
  obtain ⟨c6, i6, k6⟩ := u_known (C := RX7) (T := TX7) (N := 12) (n := 12) hTW uw_X7 (hTW _ tw_1_44)
  obtain ⟨c7, i7, k7⟩ := u_known (C := RX8) (T := TX8) (N := 13) (n := 13) hTW uw_X8 (hTW _ tw_2_1)
  obtain ⟨c8, i8, k8⟩ := u_known (C := RX9) (T := TX9) (N := 4) (n := 4) hTW uw_X9 (hTW _ tw_1_38)
  obtain ⟨c9, i9, k9⟩ := u_known (C := RX10) (T := TX10) (N := 15) (n := 15) hTW uw_X10 (hTW _ tw_1_30)
  obtain ⟨c10, i10, k10⟩ := u_known (C := RX11) (T := TX11) (N := 33) (n := 33) hTW uw_X11 (hTW _ tw_7_162)
  obtain ⟨a0, ka0, co0, p1, p2, p3⟩ := Cond.arrayClass_spec (hTW _ tw_1_116)
  obtain ⟨a1, ka1, co1, q1, q2, q3⟩ := Cond.arrayClass_spec (hTW _ tw_8_27)
  obtain ⟨a2, ka2, co2, r1, r2, r3⟩ := Cond.arrayClass_spec (hTW _ tw_10_20)
  have hao : va_AO "HourLets$Town" s := va_AO.of (hts _ ao_in)
  obtain ⟨co3, a3, ka3, t4, -, t2, t3, t1⟩ := Cond.arrayOver_spec (hts _ ao_in)
  obtain ⟨adK, adV, hS, hK⟩ := str_start (A := fun q => s.heap.size ≤ q) hs (fun a ha h => absurd h (Nat.not_le.mpr ha))
  refine ⟨(l, (fun k => ([c0, c1, c2, c3, c4, c5, c6, c7, c8, c9, c10] : List ClassId).getD k c0, fun k => ([i0, i1, i2, i3, i4, i5, i6, i7, i8, i9, i10] : List (Nat → Nat)).getD k i0), fun k => ([a0, a1, a2, a3] : List ClassId).getD k a0, fun k => s.heap.size + ordC k, s.heap.size, adK, adV), rfl, rfl, fun _ => rfl, ?_, fun a ha b hb hab => va_Nc.of (hs _ (nc_in a ha b hb hab)), hao⟩
  have hA : ∀ a : Nat, a < s.heap.size → ¬ s.heap.size ≤ a := fun a ha => Nat.not_le.mpr ha
  refine ⟨tbl_ok hts, ⟨?_, ?_⟩, ?_, ?_, Nat.le_refl _, hl, hS, ?_, ?_, ?_, ?_, ?_⟩
  · intro k q hq
    match k, hq with
    | 0, hq => cases hq; exact k0
    | 1, hq => cases hq; exact k1
    | 2, hq => cases hq; exact k2
    | 3, hq => cases hq; exact k3
    | 4, hq => cases hq; exact k4
    | 5, hq => cases hq; exact k5
    | 6, hq => cases hq; exact k6
    | 7, hq => cases hq; exact k7
    | 8, hq => cases hq; exact k8
    | 9, hq => cases hq; exact k9
    | 10, hq => cases hq; exact k10
    | k + 11, hq => simp at hq
  · intro k q hq
    match k, hq with
    | 0, hq => cases hq; exact ⟨fun n z => ⟨fun k h => (by cases h), ka0, p2, co0, p3⟩, p1⟩
    | 1, hq => cases hq; exact ⟨fun n z => ⟨fun k h => (by cases h), ka1, q2, co1, q3⟩, q1⟩
    | 2, hq => cases hq; exact ⟨fun n z => ⟨fun k h => (by cases h), ka2, r2, co2, r3⟩, r1⟩
    | 3, hq => cases hq; exact ⟨fun n z => ⟨fun k h => (by cases h), ka3, t2, co3, t3⟩, ka3, co3, t2, t3, t4, t1⟩
    | k + 4, hq => simp [tysE] at hq
  · intro i j _ _ e
    have e : s.heap.size + ordC i = s.heap.size + ordC j := e
    rw [← inv_ord i, ← inv_ord j, show ordC i = ordC j by omega]
  · intro i _
    exact Nat.le_add_right _ _
  · intro q hq
    obtain ⟨h1, h2⟩ := st_use q hq
    have hk := hK q.2.2.2 h1
    refine vk_R.of (A := #[Value.ref b]) (hts _ (st_ref q hq)) ?_
    rcases h2 with h2 | h2
    · rw [h2]; exact hk
    · exact va_eqR (hs _ h2) hk
  · exact vx_Zqof (args := #[Value.ref b]) (hts _ (in_t4 (List.mem_of_getElem? (i := 164) rfl))) (hts _ (in_t1 (List.mem_of_getElem? (i := 20) rfl))) (hs _ (by decide +kernel)) hA
  · exact vx_Zqof (args := #[Value.ref b]) (hts _ (in_t4 (List.mem_of_getElem? (i := 166) rfl))) (hts _ (in_t1 (List.mem_of_getElem? (i := 20) rfl))) (hs _ (by decide +kernel)) hA
  · exact va_Zof (args := #[Value.ref b]) (hts _ (in_t3 (List.mem_of_getElem? (i := 199) rfl))) (hts _ (in_t1 (List.mem_of_getElem? (i := 16) rfl))) (va_eqi (hs _ (by decide +kernel))) hA
  · exact va_Zqof (args := #[Value.ref b]) (hts _ (in_t3 (List.mem_of_getElem? (i := 215) rfl))) (hts _ (in_t1 (List.mem_of_getElem? (i := 18) rfl))) (hs _ (by decide +kernel)) hA
