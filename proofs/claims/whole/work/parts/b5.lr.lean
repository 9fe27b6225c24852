-- after: b4.pr
/-! the law's own body: what it stands on, its arguments, its ends -/
def LwX (E : EE) (X : XX) (b L : Nat) (xs : Nat → Int32) : Prop := CX E X RL cL_law_ 7 ∧ NcOK X.s ∧ Scr E X b L xs ∧ L ≤ 3072 ∧ X.R = room_1
abbrev LSv (E : EE) (b r : Nat) : List (Nat × Value) := [(0, .ref b), (1, .ref (E.ad 0)), (2, .ref (E.ad 178)), (3, .ref (E.ad 197)), (4, .int (nI (6 * r)))]
abbrev LS5 (E : EE) (b r : Nat) (k : Int32) : List (Nat × Value) := [(0, .ref b), (1, .ref (E.ad 0)), (2, .ref (E.ad 178)), (3, .ref (E.ad 197)), (4, .int (nI (6 * r))), (5, .int k)]
theorem fitL {R : Room} {L nc n mc : Nat} (hR : R = room_1) (h1 : L ≤ 40) (h2 : nc ≤ 21) (h3 : n + mc ≤ 600000) : FitR R L nc n mc := by
  subst hR
  refine ⟨?_, ?_, ?_, ?_⟩
  · show L + 1 ≤ 2048
    omega
  · show 8 + (nc + 11) + 40 * L ≤ 84000
    omega
  · show n + mc ≤ 601024
    omega
  · show 6 * n + 6 * mc ≤ 7293034
    omega
theorem cdL_le {Ex : String} : ∀ {cl : List String}, Ex ∈ cl → 0 < cdL cl Ex ∧ cdL cl Ex ≤ cl.length
  | [], h => nomatch h
  | a :: t, h => by
    by_cases e : Ex = a
    · rw [cdL, if_pos e]
      exact ⟨Nat.one_pos, Nat.succ_le_succ (Nat.zero_le _)⟩
    · rw [cdL, if_neg e]
      have := cdL_le (cl := t) ((List.mem_cons.mp h).resolve_left e)
      exact ⟨Nat.succ_pos _, Nat.succ_le_succ this.2⟩
/-- what a helper's answer comes to -/
theorem hp_un {cl : List String} {P : Res → Sto → Prop} {v : Option Value} {w' : Sto} (hcl : cl.length ≤ 9) (hok : ∀ o w, P o w → okO cl o) (h : HP (cdL cl) P (.inl v) w') : ∃ o w k, P o w ∧ IB w' w ∧ v = some (.int k) ∧ (∀ i o2 t, agr i (cdL cl) o o2 t → t 197 0 = w' 197 0 → ∃ x t', o2 = .inl (some (.int x)) ∧ inR t t' ∧ INV (i + 1) t' ∧ t 178 0 = k ∧ (k = nI 0 → t 197 0 = x)) := by
  obtain ⟨o, w, hP, h⟩ := h
  have ho := hok _ _ hP
  cases o with
  | inl v2 =>
    obtain ⟨x, rfl, h1, rfl⟩ := h
    cases h1
    refine ⟨_, w, nI 0, hP, ou_IB _ _, rfl, ?_⟩
    rintro i o2 t ⟨x2, t', h1, h2, h3, h4, h5⟩ h6
    cases h5
    exact ⟨x, t', h1, h2, h3, h4, fun _ => h6.trans su_k⟩
  | inr Ex =>
    obtain ⟨h1, rfl⟩ := h
    cases h1
    refine ⟨_, w', nI (cdL cl Ex), hP, IB.refl _, rfl, ?_⟩
    rintro i o2 t ⟨x2, t', h1, h2, h3, h4⟩ h6
    refine ⟨x2, t', h1, h2, h3, h4, fun q => ?_⟩
    have := cdL_le (show Ex ∈ cl from ho)
    rw [nI_eq (by omega) (by decide)] at q
    omega
theorem i64_cmp (x : Int32) : lg_cmp x.toInt64 x.toInt64 = 0 := by
  unfold lg_cmp
  simp
section LWR
variable {E : EE} {X : XX} {Q : State → Prop} {n p r b L : Nat} {xs : Nat → Int32} {ls : List (Nat × Value)} {st : List Value} {u t : Sto}
theorem g_arg (C : LwX E X b L xs) {k : Nat} {ki : Int} (hr : 6 * r + 5 < L) (hk : k ≤ 5) (h0 : lkL ls 0 = some (.ref b)) (h4 : lkL ls 4 = some (.int (nI (6 * r)))) (d0 : decode cL_law_ p = .ok (.aload_n 0, 1)) (d1 : decode cL_law_ (p + 1) = .ok (.iload 4, 2)) (d3 : decode cL_law_ (p + 3) = .ok (.iconst ki, 1)) (d4 : decode cL_law_ (p + 4) = .ok (.iadd, 1)) (d5 : decode cL_law_ (p + 5) = .ok (.iaload, 1)) (hki : Int32.ofInt ki = nI k)
    (kk : G E X Q 7 n (p + 6) ls (.int (xs (6 * r + k)) :: st) u) : G E X Q 7 n p ls st u := by
  have h := C.1
  have hL := C.2.2.2.1
  refine g_aload_n h d0 rfl h0 ?_
  refine g_iload h d1 h4 ?_
  refine g_iconst (v := nI k) h d3 hki ?_
  refine g_iadd h d4 ?_
  exact g_sld h C.2.2.1 (by omega) (i := 6 * r + k) (by omega) (nI_add _ _) d5 kk
/-- 'x != 0' as an argument -/
def nz (x : Int32) : Int32 := if x = 0 then nI 0 else nI 1
theorem g_nz (C : LwX E X b L xs) {x : Int32} (d0 : decode cL_law_ p = .ok (.ifCond .eq 7, 3)) (d3 : decode cL_law_ (p + 3) = .ok (.iconst 1, 1)) (d4 : decode cL_law_ (p + 4) = .ok (.goto 4, 3)) (d7 : decode cL_law_ (p + 7) = .ok (.iconst 0, 1)) (kk : G E X Q 7 n (p + 8) ls (.int (nz x) :: st) u) : G E X Q 7 n p ls (.int x :: st) u := by
  have h := C.1
  refine g_if_eq (tgt := p + 7) h d0 (by omega) (fun e => ?_) (fun e => ?_)
  · refine g_iconst (v := nI 0) h d7 (by decide) ?_
    rw [nz, if_pos e] at kk
    exact kk
  · refine g_iconst (v := nI 1) h d3 (by decide) ?_
    refine g_goto (tgt := p + 8) h d4 (by omega) ?_
    rw [nz, if_neg e] at kk
    exact kk
/-- behind a helper's pair -/
theorem lw_tail (C : LwX E X b L xs) {x k : Int32} {off : Int} (hn : n ≤ 500000) (d0 : decode cL_law_ p = .ok (.istore 6, 2)) (d2 : decode cL_law_ (p + 2) = .ok (.aload_n 2, 1)) (d3 : decode cL_law_ (p + 3) = .ok (.invokevirtual 139, 3)) (d6 : decode cL_law_ (p + 6) = .ok (.iload 5, 2)) (d8 : decode cL_law_ (p + 8) = .ok (.if_icmp .eq 5, 3)) (d13 : decode cL_law_ (p + 13) = .ok (.iload 5, 2)) (d15 : decode cL_law_ (p + 15) = .ok (.ifCond .ne 15, 3)) (d18 : decode cL_law_ (p + 18) = .ok (.aload_n 3, 1)) (d19 : decode cL_law_ (p + 19) = .ok (.iconst 0, 1)) (d20 : decode cL_law_ (p + 20) = .ok (.laload, 1)) (d21 : decode cL_law_ (p + 21) = .ok (.iload 6, 2)) (d23 : decode cL_law_ (p + 23) = .ok (.i2l, 1)) (d24 : decode cL_law_ (p + 24) = .ok (.lcmp, 1)) (d25 : decode cL_law_ (p + 25) = .ok (.ifCond .eq 5, 3)) (d30 : decode cL_law_ (p + 30) = .ok (.goto off, 3)) (hoff : ((p + 30 : Nat) : Int) + off = ((2669 : Nat) : Int))
    (hk : t 178 0 = k) (hv : k = nI 0 → t 197 0 = x) (kk : G E X Q 7 n 2669 (LSv E b r) [] t) : G E X Q 7 n p (LS5 E b r k) [.int x] t := by
  have h := C.1
  have kk2 : G E X Q 7 n 2669 [(0, .ref b), (1, .ref (E.ad 0)), (2, .ref (E.ad 178)), (3, .ref (E.ad 197)), (4, .int (nI (6 * r))), (5, .int k), (6, .int x)] [] t := g_ls (fun q hq => by
    simp only [List.mem_cons, List.not_mem_nil, or_false] at hq
    rcases hq with rfl | rfl | rfl | rfl | rfl <;> rfl) kk
  refine g_istore (ls' := [(0, .ref b), (1, .ref (E.ad 0)), (2, .ref (E.ad 178)), (3, .ref (E.ad 197)), (4, .int (nI (6 * r))), (5, .int k), (6, .int x)]) h d0 (by decide) rfl rfl ?_
  refine g_aload_n h d2 rfl rfl ?_
  refine g_V h lv_L_139_X11 sh_178 (by decide) rfl (c_X11_thrown t) (fitL C.2.2.2.2 (by decide) (by decide) (by omega)) rfl rfl (Nat.le_of_ble_eq_true rfl) d3 ?_
  refine g_iload h d6 rfl ?_
  refine g_icmp_eq (tgt := p + 13) h d8 (by omega) (fun _ => ?_) (fun q => absurd hk q)
  refine g_iload h d13 rfl ?_
  have hend : G E X Q 7 n (p + 30) [(0, .ref b), (1, .ref (E.ad 0)), (2, .ref (E.ad 178)), (3, .ref (E.ad 197)), (4, .int (nI (6 * r))), (5, .int k), (6, .int x)] [] t := g_goto (tgt := 2669) h d30 hoff kk2
  refine g_if_ne (tgt := p + 30) h d15 (by omega) (fun _ => hend) (fun e => ?_)
  refine g_aload_n h d18 rfl rfl ?_
  refine g_iconst (v := nI 0) h d19 (by decide) ?_
  refine g_lald h d20 ?_
  refine g_iload h d21 rfl ?_
  refine g_i2l h d23 ?_
  refine g_lcmp h d24 ?_
  refine g_top (y := 0) (by rw [hv (e.trans (by decide)), i64_cmp]) ?_
  exact g_if_eq (tgt := p + 30) h d25 (by omega) (fun _ => hend) (fun q => absurd rfl q)
theorem lw_tailD (C : LwX E X b L xs) {x : Int32} {off : Int} (d : decode cL_law_ p = .ok (.if_icmp .eq off, 3)) (hoff : (p : Int) + off = ((2669 : Nat) : Int)) (kk : G E X Q 7 n 2669 (LSv E b r) [] t) : G E X Q 7 n p (LSv E b r) [.int x, .int x] t := g_icmp_eq (tgt := 2669) C.1 d hoff (fun _ => kk) (fun q => absurd rfl q)
end LWR
