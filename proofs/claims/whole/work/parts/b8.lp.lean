-- after: b7.cs
theorem lt6 {L : Nat} (h : L < 6) : nI L - nI 6 < 0 := by
  rcases (by omega : L = 0 ∨ L = 1 ∨ L = 2 ∨ L = 3 ∨ L = 4 ∨ L = 5) with rfl | rfl | rfl | rfl | rfl | rfl <;> decide
theorem le6 {L r : Nat} (hL : L ≤ 3072) (hr : r ≤ 512) (h : ¬ nI L - nI 6 < nI (6 * r)) : 6 * r + 5 < L := by
  by_cases q : L < 6
  · exact absurd (Int32.lt_of_lt_of_le (lt6 q) (nI_pos' (by omega))) h
  · have e : nI L - nI 6 = nI (L - 6) := by
      have := nI_add (L - 6) 6
      rw [show L - 6 + 6 = L by omega] at this
      rw [← this, Int32.add_sub_cancel]
    rw [e, nI_ltI (by omega) (by omega)] at h
    omega
section LP
variable {E : EE} {X : XX} {Q : State → Prop} {own : String} {cc : ByteArray} {nL n pc : Nat} {ls : List (Nat × Value)} {st : List Value} {u : Sto}
theorem g_swI (h : CX E X own cc nL) {dflt lo hi : Int} {offs : Array Int} {len i : Nat} {v : Int32} {off : Int} {tgt : Nat} (hd : decode cc pc = .ok (.tableswitch dflt lo hi offs, len)) (hv : v.toInt = lo + i) (hhi : lo + i ≤ hi) (ho : offs[i]? = some off) (ht : (pc : Int) + off = (tgt : Int)) (k : G E X Q nL n tgt ls st u) : G E X Q nL n pc ls (.int v :: st) u := g_swV h hd hv hhi ho ht (fun _ => k) (fun q => absurd rfl q)
theorem lw_case {b L r : Nat} {xs : Nat → Int32} (C : LwX E X b L xs) (hr : 6 * r + 5 < L) (hn : n ≤ 100000) (hI : INV r u) (hTp : u 183 = u 1) (kk : ∀ t, INV (r + 1) t → G E X Q 7 (n + 1) 2669 (LSv E b r) [] t) (x : Int32) : G E X Q 7 n 40 (LSv E b r) [.int x] u := by
  have h := C.1
  by_cases hx : ¬ x < 0 ∧ x ≤ nI 41
  · obtain ⟨j, hj, e⟩ := nI_of2 (n := 41) (M := nI 41) (by decide) hx.1 hx.2
    subst e
    rcases (by omega : j = 0 ∨ j = 1 ∨ j = 2 ∨ j = 3 ∨ j = 4 ∨ j = 5 ∨ j = 6 ∨ j = 7 ∨ j = 8 ∨ j = 9 ∨ j = 10 ∨ j = 11 ∨ j = 12 ∨ j = 13 ∨ j = 14 ∨ j = 15 ∨ j = 16 ∨ j = 17 ∨ j = 18 ∨ j = 19 ∨ j = 20 ∨ j = 21 ∨ j = 22 ∨ j = 23 ∨ j = 24 ∨ j = 25 ∨ j = 26 ∨ j = 27 ∨ j = 28 ∨ j = 29 ∨ j = 30 ∨ j = 31 ∨ j = 32 ∨ j = 33 ∨ j = 34 ∨ j = 35 ∨ j = 36 ∨ j = 37 ∨ j = 38 ∨ j = 39 ∨ j = 40 ∨ j = 41) with rfl | rfl | rfl | rfl | rfl | rfl | rfl | rfl | rfl | rfl | rfl | rfl | rfl | rfl | rfl | rfl | rfl | rfl | rfl | rfl | rfl | rfl | rfl | rfl | rfl | rfl | rfl | rfl | rfl | rfl | rfl | rfl | rfl | rfl | rfl | rfl | rfl | rfl | rfl | rfl | rfl | rfl
    · exact g_swI (i := 0) (tgt := 224) h dL_law__40 (by decide) (by decide) rfl (by decide) (cs_feed C hr hn hI kk)
    · exact g_swI (i := 1) (tgt := 297) h dL_law__40 (by decide) (by decide) rfl (by decide) (cs_end C hr hn hI kk)
    · exact g_swI (i := 2) (tgt := 322) h dL_law__40 (by decide) (by decide) rfl (by decide) (cs_town C hr hn hI hTp kk)
    · exact g_swI (i := 3) (tgt := 366) h dL_law__40 (by decide) (by decide) rfl (by decide) (cs_law C hr hn hI hTp kk)
    · exact g_swI (i := 4) (tgt := 410) h dL_law__40 (by decide) (by decide) rfl (by decide) (cs_fault C hr hn hI kk)
    · exact g_swI (i := 5) (tgt := 423) h dL_law__40 (by decide) (by decide) rfl (by decide) (cs_tenant C hr hn hI hTp kk)
    · exact g_swI (i := 6) (tgt := 491) h dL_law__40 (by decide) (by decide) rfl (by decide) (cs_room C hr hn hI hTp kk)
    · exact g_swI (i := 7) (tgt := 559) h dL_law__40 (by decide) (by decide) rfl (by decide) (cs_rule C hr hn hI hTp kk)
    · exact g_swI (i := 8) (tgt := 639) h dL_law__40 (by decide) (by decide) rfl (by decide) (cs_roomOf C hr hn hI hTp kk)
    · exact g_swI (i := 9) (tgt := 735) h dL_law__40 (by decide) (by decide) rfl (by decide) (cs_take C hr hn hI hTp kk)
    · exact g_swI (i := 10) (tgt := 803) h dL_law__40 (by decide) (by decide) rfl (by decide) (cs_leave C hr hn hI hTp kk)
    · exact g_swI (i := 11) (tgt := 859) h dL_law__40 (by decide) (by decide) rfl (by decide) (cs_sublet C hr hn hI hTp kk)
    · exact g_swI (i := 12) (tgt := 939) h dL_law__40 (by decide) (by decide) rfl (by decide) (cs_ends C hr hn hI hTp kk)
    · exact g_swI (i := 13) (tgt := 995) h dL_law__40 (by decide) (by decide) rfl (by decide) (cs_evict C hr hn hI hTp kk)
    · exact g_swI (i := 14) (tgt := 1051) h dL_law__40 (by decide) (by decide) rfl (by decide) (cs_carry C hr hn hI hTp kk)
    · exact g_swI (i := 15) (tgt := 1143) h dL_law__40 (by decide) (by decide) rfl (by decide) (cs_swap C hr hn hI hTp kk)
    · exact g_swI (i := 16) (tgt := 1211) h dL_law__40 (by decide) (by decide) rfl (by decide) (cs_ticks C hr hn hI hTp kk)
    · exact g_swI (i := 17) (tgt := 1267) h dL_law__40 (by decide) (by decide) rfl (by decide) (cs_neighbours C hr hn hI hTp kk)
    · exact g_swI (i := 18) (tgt := 1363) h dL_law__40 (by decide) (by decide) rfl (by decide) (cs_run C hr hn hI hTp kk)
    · exact g_swI (i := 19) (tgt := 1447) h dL_law__40 (by decide) (by decide) rfl (by decide) (cs_empty C hr hn hI kk)
    · exact g_swI (i := 20) (tgt := 1488) h dL_law__40 (by decide) (by decide) rfl (by decide) (cs_wedding C hr hn hI hTp kk)
    · exact g_swI (i := 21) (tgt := 1556) h dL_law__40 (by decide) (by decide) rfl (by decide) (cs_court C hr hn hI kk)
    · exact g_swI (i := 22) (tgt := 1609) h dL_law__40 (by decide) (by decide) rfl (by decide) (cs_cheap C hr hn hI hTp kk)
    · exact g_swI (i := 23) (tgt := 1689) h dL_law__40 (by decide) (by decide) rfl (by decide) (cs_fitted C hr hn hI kk)
    · exact g_swI (i := 24) (tgt := 1730) h dL_law__40 (by decide) (by decide) rfl (by decide) (cs_given C hr hn hI hTp kk)
    · exact g_swI (i := 25) (tgt := 1786) h dL_law__40 (by decide) (by decide) rfl (by decide) (cs_envies C hr hn hI hTp kk)
    · exact g_swI (i := 26) (tgt := 1842) h dL_law__40 (by decide) (by decide) rfl (by decide) (cs_fair C hr hn hI hTp kk)
    · exact g_swI (i := 27) (tgt := 1922) h dL_law__40 (by decide) (by decide) rfl (by decide) (cs_ring C hr hn hI hTp kk)
    · exact g_swI (i := 28) (tgt := 1990) h dL_law__40 (by decide) (by decide) rfl (by decide) (cs_turn C hr hn hI hTp kk)
    · exact g_swI (i := 29) (tgt := 2046) h dL_law__40 (by decide) (by decide) rfl (by decide) (cs_soonest C hr hn hI hTp kk)
    · exact g_swI (i := 30) (tgt := 2114) h dL_law__40 (by decide) (by decide) rfl (by decide) (cs_heard C hr hn hI hTp kk)
    · exact g_swI (i := 31) (tgt := 2182) h dL_law__40 (by decide) (by decide) rfl (by decide) (cs_roomsFor C hr hn hI hTp kk)
    · exact g_swI (i := 32) (tgt := 2278) h dL_law__40 (by decide) (by decide) rfl (by decide) (cs_thieves C hr hn hI hTp kk)
    · exact g_swI (i := 33) (tgt := 2322) h dL_law__40 (by decide) (by decide) rfl (by decide) (cs_seen C hr hn hI hTp kk)
    · exact g_swI (i := 34) (tgt := 2366) h dL_law__40 (by decide) (by decide) rfl (by decide) (cs_changed C hr hn hI hTp kk)
    · exact g_swI (i := 35) (tgt := 2446) h dL_law__40 (by decide) (by decide) rfl (by decide) (cs_log C hr hn hI hTp kk)
    · exact g_swI (i := 36) (tgt := 2514) h dL_law__40 (by decide) (by decide) rfl (by decide) (cs_led C hr hn hI hTp kk)
    · exact g_swI (i := 37) (tgt := 2582) h dL_law__40 (by decide) (by decide) rfl (by decide) (cs_seed C hr hn hI kk)
    · exact g_swI (i := 38) (tgt := 2607) h dL_law__40 (by decide) (by decide) rfl (by decide) (cs_undo C hr hn hI kk)
    · exact g_swI (i := 39) (tgt := 2620) h dL_law__40 (by decide) (by decide) rfl (by decide) (cs_image C hr hn hI kk)
    · exact g_swI (i := 40) (tgt := 2631) h dL_law__40 (by decide) (by decide) rfl (by decide) (cs_back C hr hn hI kk)
    · exact g_swI (i := 41) (tgt := 2644) h dL_law__40 (by decide) (by decide) rfl (by decide) (cs_count C hr hn hI kk)
  · refine g_swO (tgt := 2669) h dL_law__40 ?_ (by decide) (g_more (Nat.le_succ _) (kk u (INV_le (Nat.le_succ r) hI)))
    by_cases q : x < 0
    · exact Or.inl (Int32.lt_iff_toInt_lt.mp q)
    · refine Or.inr ?_
      have q2 : ¬ x ≤ nI 41 := fun z => hx ⟨q, z⟩
      have q3 : nI 41 < x := Int32.not_le.mp q2
      exact Int32.lt_iff_toInt_lt.mp q3
theorem lw_loop {b L : Nat} {xs : Nat → Int32} (C : LwX E X b L xs) (kend : ∀ n r u, n ≤ 20000 → G E X Q 7 n 2675 (LSv E b r) [] u) : ∀ m r u, L ≤ 6 * r + m → r ≤ 512 → INV r u → G E X Q 7 (10000 + r) 23 (LSv E b r) [] u := by
  have h := C.1
  have hL := C.2.2.2.1
  intro m
  induction m with
  | zero =>
    intro r u hm hr hI
    refine g_iload h dL_law__23 rfl ?_
    refine g_aload_n h dL_law__25 rfl rfl ?_
    refine g_slen h C.2.2.1 dL_law__26 ?_
    refine g_bipush (v := nI 6) h dL_law__27 (by decide) ?_
    refine g_isub h dL_law__29 ?_
    refine g_icmp_gt (tgt := 2675) h dL_law__30 (by decide) (fun _ => kend _ _ _ (by omega)) (fun hc => ?_)
    have := le6 hL hr hc
    omega
  | succ m ih =>
    intro r u hm hr hI
    obtain ⟨u', hin, hI', hTp⟩ := INV_tape hI
    refine g_ran hin ?_
    refine g_iload h dL_law__23 rfl ?_
    refine g_aload_n h dL_law__25 rfl rfl ?_
    refine g_slen h C.2.2.1 dL_law__26 ?_
    refine g_bipush (v := nI 6) h dL_law__27 (by decide) ?_
    refine g_isub h dL_law__29 ?_
    refine g_icmp_gt (tgt := 2675) h dL_law__30 (by decide) (fun _ => kend _ _ _ (by omega)) (fun hc => ?_)
    have hr2 := le6 hL hr hc
    refine g_aload_n h dL_law__33 rfl rfl ?_
    refine g_iload h dL_law__34 rfl ?_
    refine g_sld h C.2.2.1 (by omega) (i := 6 * r) (by omega) rfl dL_law__36 ?_
    refine g_bipush (v := nI 63) h dL_law__37 (by decide) ?_
    refine g_iand h dL_law__39 ?_
    refine lw_case C hr2 (by omega) hI' hTp (fun t ht => ?_) _
    refine g_iinc (v := nI (6 * (r + 1))) (ls' := LSv E b (r + 1)) h dL_law__2669 rfl (nI_add (6 * r) 6) (by decide) rfl rfl ?_
    refine g_goto (tgt := 23) h dL_law__2672 (by decide) ?_
    exact ih (r + 1) t (by omega) (by omega) ht
end LP
