/-! switches; two roads that meet -/
section GSW
variable {E : EE} {X : XX} {Q : State → Prop} {own : String} {cc : ByteArray} {nL n pc : Nat} {ls ls' : List (Nat × Value)} {st rest : List Value} {u : Sto}
theorem g_swV (h : CX E X own cc nL) {dflt lo hi : Int} {offs : Array Int} {len i : Nat} {x v : Int32} {off : Int} {tgt : Nat} (hd : decode cc pc = .ok (.tableswitch dflt lo hi offs, len)) (hv : v.toInt = lo + i) (hhi : lo + i ≤ hi) (ho : offs[i]? = some off) (ht : (pc : Int) + off = (tgt : Int))
    (kt : x = v → G E X Q nL n tgt ls st u) (kf : ¬ x = v → G E X Q nL n pc ls (.int x :: st) u) : G E X Q nL n pc ls (.int x :: st) u := by
  by_cases e : x = v
  · intro H locs ar hP hS hl
    subst e
    refine lv_tableIn h.1 h.2.1 hd (by omega) (by omega) (off := off) (by rw [hv, show (lo + (i : Int) - lo).toNat = i by omega]; exact ho) ht (kt rfl H locs ar hP hS hl)
  · exact kf e
theorem g_swO (h : CX E X own cc nL) {dflt lo hi : Int} {offs : Array Int} {len : Nat} {x : Int32} {tgt : Nat} (hd : decode cc pc = .ok (.tableswitch dflt lo hi offs, len)) (ho : x.toInt < lo ∨ hi < x.toInt) (ht : (pc : Int) + dflt = (tgt : Int)) (kk : G E X Q nL n tgt ls st u) : G E X Q nL n pc ls (.int x :: st) u := fun H locs ar hP hS hl => lv_tableOut h.1 h.2.1 hd ho ht (kk H locs ar hP hS hl)
theorem g_j1 {a : Int32} (M : Nat) {x : Int32} (kk : G E X Q nL n M ls (.int x :: rest) u) (k2 : G E X Q nL n M ls (.int x :: rest) u → G E X Q nL n pc ls (.int a :: rest) u) : G E X Q nL n pc ls (.int a :: rest) u := k2 kk
theorem g_j2 {a b : Int32} (M : Nat) {x : Int32} (kk : G E X Q nL n M ls (.int x :: rest) u) (k2 : G E X Q nL n M ls (.int x :: rest) u → G E X Q nL n pc ls (.int b :: .int a :: rest) u) : G E X Q nL n pc ls (.int b :: .int a :: rest) u := k2 kk
theorem g_jn (M : Nat) {ls2 : List (Nat × Value)} {st2 : List Value} {u2 : Sto} (kk : G E X Q nL n M ls2 st2 u2) (k2 : G E X Q nL n M ls2 st2 u2 → G E X Q nL n pc ls st u) : G E X Q nL n pc ls st u := k2 kk
end GSW
