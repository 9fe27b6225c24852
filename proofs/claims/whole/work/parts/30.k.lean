/-! throwing, the text by a wide index; the five kinds that are thrown -/
theorem g_throwW {E : EE} {X : XX} {own : String} {cc : ByteArray} {nL n pc : Nat} {ls : List (Nat × Value)} {st : List Value} {u : Sto} (h : CX E X own cc nL) {o : Res} {u' : Sto} {mc : Nat} {cls text : String} {ik is ic k : Nat} {names : List String} (hT : ThL own cls text ik is ic k names)
    (d0 : decode cc pc = .ok (.new ik, 3)) (d3 : decode cc (pc + 3) = .ok (.dup, 1)) (d4 : decode cc (pc + 4) = .ok (.ldc_w is, 3)) (d6 : decode cc (pc + 7) = .ok (.invokespecial ic, 3)) (d9 : decode cc (pc + 10) = .ok (.athrow, 1))
    (htab : ∀ x ∈ X.c.exceptionTable.toList, False) (hF : names.length + 3 < X.R.frames) (hL : (st.map fun v => v.category).sum + (13 * (names.length + 1) + 43) ≤ X.R.locals) (hC : n + 1 ≤ X.R.cells) (hSl : 6 * n + 6 ≤ X.R.slots) (hn : n + 1 ≤ mc) (ho : o = .inr cls) (hu : u' = u) : G E X (QM E X o u' mc) nL n pc ls st u := fun H locs ar hP hS hl => by
  subst ho; subst hu
  obtain ⟨t1, t2, t3, t4, t5, t6, t7⟩ := hT
  obtain ⟨-, -, -, -, -, e6, -, e8, e9, e10, -⟩ := id h.2.2.2.2.2
  exact vx_throwSW h.1 h.2.1 e6 h.2.2.2.1 t1 t2 (env_w h t3) (env_w h t4) (e8 _ t5) (fun w hw => env_w h (t6 w hw)) t7 e9 e10 hS (hl.1.trans h.2.2.1.symm) d0 d3 d4 d6 d9 (fun x hx => (htab x hx).elim) hF hL hC hSl h.2.2.2.2.1
    (fun t ha hz hq => ⟨rfl, wsE_kept hP hq, ⟨Nat.le_trans hS.1 hz, fun q h1 h2 => by rw [hq q (Nat.lt_of_lt_of_le h1 hS.1)]; exact hS.2.1 q h1 h2⟩⟩) hS.2.2 hn (by omega)
def exN : List String := ["java/lang/RuntimeException", "java/lang/Exception"]
theorem th_w {own cls : String} {ic : Nat} (h : (vx_atS own ic cls exN).all (fun w => decide (w ∈ lw_tbl) && stableB w && vx_ot w) = true) : (∀ w ∈ vx_atS own ic cls exN, w ∈ TW) ∧ ∀ w ∈ vx_atS own ic cls exN, vx_ot w = true := by
  refine ⟨fun w hw => ?_, fun w hw => ?_⟩
  · have := List.all_eq_true.mp h w hw
    simp only [Bool.and_eq_true, decide_eq_true_eq] at this
    exact inTW this.1.1 this.1.2
  · have := List.all_eq_true.mp h w hw
    simp only [Bool.and_eq_true, decide_eq_true_eq] at this
    exact this.2
theorem thL_of {own cls text : String} {ik is ic k : Nat} (h1 : Bundle.fit cls = true) (h3 : Cond.classLink own ik cls ∈ TW) (h4 : Cond.initialized cls ∈ TW) (h5 : (own, is, text, k) ∈ strUse) (h6 : (∀ w ∈ vx_atS own ic cls exN, w ∈ TW) ∧ ∀ w ∈ vx_atS own ic cls exN, vx_ot w = true) (h7 : vx_ot (Cond.classLink own ik cls) = true ∧ vx_ot (Cond.initialized cls) = true) : ThL own cls text ik is ic k exN :=
  ⟨h1, by decide +kernel, h3, h4, h5, h6.1, fun w hw => by
    rcases List.mem_cons.mp hw with rfl | hw
    · exact h7.1
    · rcases List.mem_cons.mp hw with rfl | hw
      · exact h7.2
      · exact h6.2 w hw⟩
theorem ex_118 : (∀ w ∈ vx_atS "HourLets" 118 "java/lang/IllegalArgumentException" exN, w ∈ TW) ∧ ∀ w ∈ vx_atS "HourLets" 118 "java/lang/IllegalArgumentException" exN, vx_ot w = true := th_w (by decide +kernel)
theorem ex_128 : (∀ w ∈ vx_atS "HourLets" 128 "java/lang/UnsupportedOperationException" exN, w ∈ TW) ∧ ∀ w ∈ vx_atS "HourLets" 128 "java/lang/UnsupportedOperationException" exN, vx_ot w = true := th_w (by decide +kernel)
theorem ex_407 : (∀ w ∈ vx_atS "HourLets" 407 "java/lang/IndexOutOfBoundsException" exN, w ∈ TW) ∧ ∀ w ∈ vx_atS "HourLets" 407 "java/lang/IndexOutOfBoundsException" exN, vx_ot w = true := th_w (by decide +kernel)
theorem ex_421 : (∀ w ∈ vx_atS "HourLets" 421 "java/lang/IllegalStateException" exN, w ∈ TW) ∧ ∀ w ∈ vx_atS "HourLets" 421 "java/lang/IllegalStateException" exN, vx_ot w = true := th_w (by decide +kernel)
theorem th_X10_116_118 : ThL RX10 "java/lang/IllegalArgumentException" "the text is wrong" 114 116 118 12 exN := thL_of (by decide +kernel) tw_4_131 tw_1_23 (by decide) ex_118 ⟨by decide +kernel, by decide +kernel⟩
theorem th_X10_126_128 : ThL RX10 "java/lang/UnsupportedOperationException" "there are 12 texts" 124 126 128 13 exN := thL_of (by decide +kernel) tw_4_201 tw_1_24 (by decide) ex_128 ⟨by decide +kernel, by decide +kernel⟩
theorem th_X10_310_118 : ThL RX10 "java/lang/IllegalArgumentException" "k is below NONE" 114 310 118 33 exN := thL_of (by decide +kernel) tw_4_131 tw_1_23 (by decide) ex_118 ⟨by decide +kernel, by decide +kernel⟩
theorem th_X10_333_118 : ThL RX10 "java/lang/IllegalArgumentException" "one room at least" 114 333 118 34 exN := thL_of (by decide +kernel) tw_4_131 tw_1_23 (by decide) ex_118 ⟨by decide +kernel, by decide +kernel⟩
theorem th_X10_338_118 : ThL RX10 "java/lang/IllegalArgumentException" "each time has two bytes" 114 338 118 35 exN := thL_of (by decide +kernel) tw_4_131 tw_1_23 (by decide) ex_118 ⟨by decide +kernel, by decide +kernel⟩
theorem th_X10_367_118 : ThL RX10 "java/lang/IllegalArgumentException" "k is below 0" 114 367 118 36 exN := thL_of (by decide +kernel) tw_4_131 tw_1_23 (by decide) ex_118 ⟨by decide +kernel, by decide +kernel⟩
theorem th_X10_405_407 : ThL RX10 "java/lang/IndexOutOfBoundsException" "no such tenant" 403 405 407 27 exN := thL_of (by decide +kernel) tw_5_113 tw_1_25 (by decide) ex_407 ⟨by decide +kernel, by decide +kernel⟩
theorem th_X10_411_407 : ThL RX10 "java/lang/IndexOutOfBoundsException" "no such room" 403 411 407 29 exN := thL_of (by decide +kernel) tw_5_113 tw_1_25 (by decide) ex_407 ⟨by decide +kernel, by decide +kernel⟩
theorem th_X10_413_118 : ThL RX10 "java/lang/IllegalArgumentException" "a number is none" 114 413 118 31 exN := thL_of (by decide +kernel) tw_4_131 tw_1_23 (by decide) ex_118 ⟨by decide +kernel, by decide +kernel⟩
theorem th_X10_415_118 : ThL RX10 "java/lang/IllegalArgumentException" "both are one" 114 415 118 32 exN := thL_of (by decide +kernel) tw_4_131 tw_1_23 (by decide) ex_118 ⟨by decide +kernel, by decide +kernel⟩
theorem th_X10_419_421 : ThL RX10 "java/lang/IllegalStateException" "it is refused" 417 419 421 30 exN := thL_of (by decide +kernel) tw_5_220 tw_1_27 (by decide) ex_421 ⟨by decide +kernel, by decide +kernel⟩
