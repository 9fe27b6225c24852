-- after: c5.cw
theorem nk_L_8 : NLk RL 8 9 15 [.null, .int 0, .int 0, .null, .null, .null, .int 0, .null, .int 0, .int 0, .null, .null, .null, .null, .null] := ⟨(RX10, TX10, 15), rfl, rfl, uw_X10, tw_1_29, tw_1_30, tw_1_1, tyX10, tyX10_ok, by decide +kernel⟩
theorem nk_L_120 : NLk RL 120 10 33 [.int 0, .null, .null, .int 0, .null, .null, .int 0, .null, .int 0, .int 0, .int 0, .int 0, .int 0, .int 0, .null, .int 0, .int 0, .int 0, .int 0, .int 0, .null, .null, .null, .null, .null, .null, .int 0, .null, .null, .null, .null, .null, .null] := ⟨(RX11, TX11, 33), rfl, rfl, uw_X11, tw_7_161, tw_7_162, tw_1_13, tyX11, tyX11_ok, by decide +kernel⟩
theorem ik_L_119 : LkI RL 119 yX10_init 0 cX10_init 2 := ⟨tw_1_33, tw_1_32, tw_1_1, ⟨by decide, by decide⟩, by decide +kernel, rfl, Or.inl tw_1_31⟩
theorem ik_L_122 : LkI RL 122 yX11_init 0 cX11_init 2 := ⟨tw_7_165, tw_7_164, tw_1_13, ⟨by decide, by decide⟩, by decide +kernel, rfl, Or.inl tw_7_163⟩
def madeL : List Nat := [152, 145, 138, 131, 124, 117, 110, 103, 96, 89, 82, 75, 51, 27, 3]
/-- the store when all is made -/
def uS : Sto := mdlF (tws madeL)
theorem made_c {k : Nat} (h : 159 ≤ k ∨ k ≤ 2 ∨ (54 ≤ k ∧ k ≤ 74)) : tws madeL k = uZ k := tws_c (fun t ht => by
  simp only [madeL, List.mem_cons, List.not_mem_nil, or_false] at ht
  omega)
theorem tl_hi {k : Nat} (h : 159 ≤ k) : k ∉ townL := by
  simp only [townL, List.mem_cons, List.not_mem_nil, or_false]
  omega
theorem uZ_178 : uZ 178 = fun j => if j = 12 then -1 else 0 := by
  funext j
  rw [uZ, if_neg (tl_hi (by decide))]
  by_cases hj : j = 12
  · rw [if_pos (by omega), if_pos hj]
  · rw [if_neg (by omega), if_neg hj]
section LO
variable {E : EE} {X : XX} {Q : State → Prop} {nL n pc : Nat} {ls : List (Nat × Value)} {st : List Value}
/-- all is made: the walk goes on in the whole world -/
theorem gc_G (hA : AdC E) {n' : Nat} {u : Sto} (hn : n ≤ 6 * n') (hc : E.sz + 198 - X.s.heap.size ≤ n') (kk : G E X Q nL n' pc ls st u) : GC E X Q nL n pc ls st (198, [], u) := fun H locs ar hP hS hl => by
  refine W.widen hc hn (kk H locs ar ?_ hS hl)
  intro k q hk
  have lk : k < shN := by
    have := (List.getElem?_eq_some_iff.mp hk).1
    simpa [wsW] using this
  rw [wsW_get lk] at hk
  cases hk
  have lk : k < 198 := lk
  have ho : ordC k < 198 := by
    unfold ordC
    split
    · omega
    · split
      · omega
      · split <;> omega
  have := hP (ordC k) _ (cw_k hA (w := (198, [], u)) ho)
  rw [ct_n rfl] at this
  exact this
theorem fitO {m n N m0 : Nat} (hR : X.R = room_1) (h0 : m0 = 0) (h1 : m + 1 ≤ 601024) (h2 : n + N ≤ 7293034) : m + 1 ≤ X.R.cells + m0 ∧ n + N ≤ X.R.slots := by
  rw [hR]
  exact ⟨Nat.le_trans h1 (Nat.le_add_right _ _), h2⟩
theorem fitOC {m' L nc ms m0 : Nat} (hR : X.R = room_1) (h0 : m0 = 0) (h1 : L ≤ 40) (h2 : nc ≤ 21) (h3 : m' ≤ 601024) (h4 : n + ms ≤ 7293034) : FitC E X L nc n ms m0 m' := by
  refine ⟨?_, ?_, ?_, ?_⟩ <;> rw [hR]
  · show L + 1 ≤ 2048
    omega
  · show 8 + (nc + 11) + 40 * L ≤ 84000
    omega
  · exact Nat.le_trans h3 (Nat.le_add_right _ _)
  · exact h4
set_option maxHeartbeats 2000000 in
theorem lw_open {b L : Nat} {xs : Nat → Int32} (C : LwX E X b L xs) (hA : AdC E) (hz : X.s.heap.size = E.sz + 0) (hao : va_AO "HourLets$Town" X.s) (kk : G E X Q 7 10000 23 (LSv E b 0) [] uS) : GC E X Q 7 0 0 [(0, .ref b)] [] (0, [], uZ) := by
  have h := C.1
  have hR := C.2.2.2.2
  refine gc_new (k := 0) h hA hz (Nat.le_refl 0) (by decide) nk_L_8 (fitO hR rfl (by decide) (by decide)) dL_law__0 ?_
  refine gc_dup h dL_law__3 rfl ?_
  refine gc_IA (L := 8) (ms := 12950) (As := []) (rest := [.ref (E.ad 0)]) (w' := (178, [], tws madeL)) h hao hz (Nat.zero_le _) (by show 1 ≤ 178; decide) ik_L_119 (cc_X10 hA) (fitOC hR rfl (by decide) (by decide) (by decide) (by decide)) rfl rfl (Nat.le_of_ble_eq_true rfl) dL_law__4 ?_
  refine gc_astore_n (ls' := [(0, .ref b), (1, .ref (E.ad 0))]) h dL_law__7 rfl (by decide) rfl rfl ?_
  refine gc_new (k := 178) h hA hz (Nat.zero_le _) (by decide) nk_L_120 (fitO hR rfl (by decide) (by decide)) dL_law__8 ?_
  refine gc_dup h dL_law__11 rfl ?_
  refine gc_I (L := 3) (ms := 18437) (As := []) (rest := [.ref (E.ad 178)]) (w' := (197, [], uS)) h hz (Nat.zero_le _) (by show 179 ≤ 197; decide) ik_L_122 (cc_X11 hA (tws madeL) (fun k h1 h2 => (made_c (by omega)).trans (uZ_z (tl_hi (by omega)) (by omega))) ((made_c (by decide)).trans uZ_178)) (fitOC hR rfl (by decide) (by decide) (by decide) (by decide)) rfl rfl (Nat.le_of_ble_eq_true rfl) dL_law__12 ?_
  refine gc_astore_n (ls' := [(0, .ref b), (1, .ref (E.ad 0)), (2, .ref (E.ad 178))]) h dL_law__15 rfl (by decide) rfl rfl ?_
  refine gc_iconst (v := nI 1) h dL_law__16 (by decide) ?_
  refine gc_newl (k := 197) (N := 1) h hA hz (Nat.zero_le _) (by decide) tw_10_20 sh_197 rfl ((mdlF_c (by decide)).trans ((made_c (by decide)).trans (uZ_z (tl_hi (by decide)) (by decide)))) rfl (by decide) (fitO hR rfl (by decide) (by decide)) dL_law__17 ?_
  refine gc_astore_n (ls' := [(0, .ref b), (1, .ref (E.ad 0)), (2, .ref (E.ad 178)), (3, .ref (E.ad 197))]) h dL_law__19 rfl (by decide) rfl rfl ?_
  refine gc_iconst (v := nI 0) h dL_law__20 (by decide) ?_
  refine gc_istore (ls' := LSv E b 0) h dL_law__21 (by decide) rfl rfl ?_
  exact gc_G (n' := 10000) hA (by decide) (by omega) kk
end LO
/-! the start keeps the invariant -/
theorem uS_c {k : Nat} (h : k ≠ 179) : uS k = tws madeL k := mdlF_c h
theorem uS_4 : ∀ r, r < 168 → uS 4 r = -1 := fun r hr => by
  rw [uS_c (by decide)]
  have e : tws madeL 4 = twF uZ 3 4 := by
    unfold madeL tws
    repeat rw [twF_c (by decide) (by decide)]
    rfl
  rw [e, twF, sc_ne _ _ (by decide), sc_at]
  exact if_pos hr
theorem uS_5 : ∀ r, r < 168 → uS 5 r = -1 := fun r hr => by
  rw [uS_c (by decide)]
  have e : tws madeL 5 = twF uZ 3 5 := by
    unfold madeL tws
    repeat rw [twF_c (by decide) (by decide)]
    rfl
  rw [e, twF, sc_at]
  exact if_pos hr
theorem uS_z {k : Nat} (h1 : k ≤ 23) (h2 : k ≠ 4) (h3 : k ≠ 5) : uS k = uZ k := by
  rw [uS_c (by omega)]
  exact tws_c (fun t ht => by
    simp only [madeL, List.mem_cons, List.not_mem_nil, or_false] at ht
    omega)
theorem uS_0 {k : Nat} (h1 : k ≤ 23) (h2 : k ≠ 4) (h3 : k ≠ 5) (h4 : k ≠ 0) (h5 : k ≠ 3) (h6 : k ≠ 19) : ∀ j, uS k j = 0 := fun j => by
  rw [uS_z h1 h2 h3, uZ_z (tl_lo (by omega) (by omega) (by omega) (by omega)) (by omega)]
theorem uS_o : uS 0 = fun j => if j = 2 then -1 else 0 := by
  rw [uS_z (by decide) (by decide) (by decide)]
  funext j
  rw [uZ, if_neg (by decide)]
  by_cases hj : j = 2
  · rw [if_pos (by omega), if_pos hj]
  · rw [if_neg (by omega), if_neg hj]
theorem uS_3 : uS 3 = fun j => if j = 11 then 1 else 0 := by
  rw [uS_z (by decide) (by decide) (by decide), uZ_t (by decide)]
theorem uS_19 : uS 19 = fun j => if j = 5 then -1 else 0 := by
  rw [uS_z (by decide) (by decide) (by decide), uZ_l (by decide)]
theorem uS_178 : uS 178 = fun j => if j = 12 then -1 else 0 := by rw [uS_c (by decide), made_c (by decide), uZ_178]
theorem uS_183 : ∀ j, uS 183 j = 0 := fun j => by rw [uS_c (by decide), made_c (by decide), uZ_z (tl_hi (by decide)) (by decide)]
theorem uS_g (j : Nat) : uS 179 j = if 88 ≤ j ∧ j < 88 + 4 * 168 ∧ (j - 88) % 4 < 2 then -1 else if j = 11 then 1 else if j = 2 then -1 else 0 := by
  unfold uS mdlF
  rw [sc_at, mlF]
  congr 1
  unfold md1
  have e : tws madeL 179 = fun _ => 0 := by rw [made_c (by decide), uZ_z (tl_hi (by decide)) (by decide)]
  by_cases h1 : j = 11
  · subst h1
    rw [su_k, if_pos rfl]
  · rw [su_i h1, if_neg h1]
    by_cases h2 : j = 2
    · subst h2
      rw [su_k, if_pos rfl]
    · rw [su_i h2, if_neg h2, e]
theorem uS_g0 {j : Nat} (h : ¬ (88 ≤ j ∧ j < 88 + 4 * 168 ∧ (j - 88) % 4 < 2)) (h1 : j ≠ 11) (h2 : j ≠ 2) : uS 179 j = 0 := by rw [uS_g, if_neg h, if_neg h1, if_neg h2]
theorem ct_zz {p : Nat → Bool} : ∀ n, (∀ k, k < n → p k = false) → ctI p n = 0
  | 0, _ => rfl
  | n + 1, h => by
    rw [ctI, if_neg (by rw [h n (by omega)]; decide)]
    exact ct_zz n (fun k hk => h k (by omega))
theorem INV_0 : INV 0 uS := by
  have z : ∀ k, k ≤ 23 → k ≠ 4 → k ≠ 5 → k ≠ 0 → k ≠ 3 → k ≠ 19 → ∀ j, uS k j = 0 := fun k a b c d e f => uS_0 a b c d e f
  have t3 : ∀ j, j ≠ 11 → uS 3 j = 0 := fun j hj => by rw [uS_3]; exact if_neg hj
  have o0 : ∀ j, j ≠ 2 → uS 0 j = 0 := fun j hj => by rw [uS_o]; exact if_neg hj
  have m0 : ∀ j, j ≠ 12 → uS 178 j = 0 := fun j hj => by rw [uS_178]; exact if_neg hj
  have n0 : nI 0 = 0 := nI_0
  have hl : ∀ r, r < 168 → lvT uS 3 r = -1 := fun r hr => by
    unfold lvT
    rw [if_pos (uS_5 r hr)]
    exact uS_4 r hr
  have hKt : LKt uS 3 (uS 179) := by
    refine ⟨fun r hr => ?_, fun r hr => ?_, fun r hr => ?_, fun a ha => ?_, ?_, ?_, ?_, ?_, ?_⟩
    · rw [uS_g, if_pos (by omega)]; exact (uS_4 r hr).symm
    · rw [uS_g, if_pos (by omega)]; exact (hl r hr).symm
    · rw [uS_g0 (by omega) (by omega) (by omega)]; exact (z 6 (by decide) (by decide) (by decide) (by decide) (by decide) (by decide) r).symm
    · rw [uS_g0 (by omega) (by omega) (by omega)]; exact (z 7 (by decide) (by decide) (by decide) (by decide) (by decide) (by decide) a).symm
    · rw [uS_g0 (by omega) (by omega) (by omega)]; exact (t3 9 (by decide)).symm
    · rw [uS_g0 (by omega) (by omega) (by omega)]; exact (t3 10 (by decide)).symm
    · rw [uS_g0 (by omega) (by omega) (by omega)]; exact (t3 8 (by decide)).symm
    · rw [uS_g, uS_3]; rfl
    · rw [uS_g0 (by omega) (by omega) (by omega)]; exact (t3 7 (by decide)).symm
  have c10 : ∀ j, uS 10 j = 0 := z 10 (by decide) (by decide) (by decide) (by decide) (by decide) (by decide)
  have c14 : ∀ j, uS 14 j = 0 := z 14 (by decide) (by decide) (by decide) (by decide) (by decide) (by decide)
  have hKr : LKr uS 10 (uS 179) 0 0 := by
    refine ⟨?_, ?_, ?_, by decide, ?_, ?_, ?_, ?_, by decide, fun a ha => absurd ha (Nat.not_lt_zero a), fun a ha => absurd ha (Nat.not_lt_zero a), fun a ha => absurd ha (Nat.not_lt_zero a), fun m hm => ?_, fun a ha => absurd ha (Nat.not_lt_zero a), fun a ha => absurd ha (Nat.not_lt_zero a), fun a ha => absurd ha (Nat.not_lt_zero a), fun a ha => absurd ha (Nat.not_lt_zero a)⟩
    · rw [uS_g0 (by omega) (by omega) (by omega), c10]
    · rw [uS_g0 (by omega) (by omega) (by omega), n0]
    · rw [c10, n0]
    · rw [uS_g0 (by omega) (by omega) (by omega), c10]
    · rw [uS_g0 (by omega) (by omega) (by omega), c10]
    · rw [uS_g0 (by omega) (by omega) (by omega), n0]
    · rw [c10, n0]
    · rw [uS_g0 (by omega) (by omega) (by omega)]; exact (c14 m).symm
  have hKl : LKl uS (uS 179) := Or.inl ⟨by rw [uS_19]; rfl, by rw [uS_g]; rfl⟩
  have hTI : TI uS 3 10 0 := by
    refine ⟨fun m hm => Or.inl (uS_4 m hm), fun m hm => Or.inl (uS_5 m hm), fun a ha => ?_, ⟨0, by decide, ?_⟩, ⟨0, by decide, ?_⟩, ⟨0, by decide, ?_⟩, fun a _ _ => z 7 (by decide) (by decide) (by decide) (by decide) (by decide) (by decide) a⟩
    · rw [ct_zz 168 (fun k hk => decide_eq_false (by
        show ¬ uS 4 k = nI a
        rw [uS_4 k hk]
        exact fun q => nI_m1 (by omega) q.symm))]
      exact z 8 (by decide) (by decide) (by decide) (by decide) (by decide) (by decide) a
    · rw [t3 6 (by decide), n0]
    · rw [t3 7 (by decide), n0]
    · rw [t3 10 (by decide), n0]
  have hLG : LGt uS 3 (uS 179) := fun k hk => by
    rw [t3 7 (by decide)] at hk
    exact absurd hk (by rw [show ix 0 = 0 from by decide]; exact Nat.not_lt_zero k)
  have hRI : RI uS 10 0 0 := ⟨fun a ha => absurd ha (Nat.not_lt_zero a), fun m hm => Or.inl (by rw [n0]; exact c14 m), fun a ha => absurd ha (Nat.not_lt_zero a), fun a ha => absurd ha (Nat.not_lt_zero a)⟩
  refine ⟨0, 0, 0, 0, 0, ⟨hKt, hKr, hKl, hTI, hLG, hRI⟩, ⟨Or.inl (by rw [uS_19]; rfl), 0, by decide, by rw [c10, n0]⟩, ⟨0, 0, by rw [t3 9 (by decide), n0], by rw [t3 10 (by decide), n0], by decide, by decide⟩, ⟨by decide, by decide, by rw [o0 8 (by decide), n0], by rw [o0 9 (by decide), n0]⟩, by rw [m0 6 (by decide), n0], fun k hk => absurd hk (Nat.not_lt_zero k), by rw [o0 6 (by decide), m0 3 (by decide)], Or.inl (o0 6 (by decide)), by decide, by rw [o0 1 (by decide), n0], by rw [m0 8 (by decide), n0], fun j _ => ?_, by rw [uS_o, uS_178]; rfl⟩
  rw [uS_183 j, z 1 (by decide) (by decide) (by decide) (by decide) (by decide) (by decide) j]
