/-! ONE ROW AN INSTRUCTION, over G -/
def lkL : List (Nat × Value) → Nat → Option Value
  | [], _ => none
  | q :: l, i => match Nat.beq q.1 i with | true => some q.2 | false => lkL l i
def ldel : List (Nat × Value) → Nat → List (Nat × Value)
  | [], _ => []
  | q :: l, i => match Nat.beq q.1 i with | true => ldel l i | false => q :: ldel l i
def lset : List (Nat × Value) → Nat → Value → List (Nat × Value)
  | [], i, v => [(i, v)]
  | q :: l, i, v => match Nat.beq q.1 i with | true => (i, v) :: ldel l i | false => q :: lset l i v
def cat1 : List (Nat × Value) → Bool
  | [] => true
  | q :: l => match q.2.category with | 1 => cat1 l | _ => false
theorem lk_mem : ∀ {l : List (Nat × Value)} {i : Nat} {v : Value}, lkL l i = some v → (i, v) ∈ l
  | [], _, _, h => by cases h
  | q :: l, i, v, h => by
    unfold lkL at h
    cases hb : Nat.beq q.1 i with
    | true =>
      rw [hb] at h
      have e := Nat.eq_of_beq_eq_true hb
      obtain ⟨a, b⟩ := q
      cases h
      cases e
      exact List.mem_cons_self
    | false =>
      rw [hb] at h
      exact List.mem_cons_of_mem _ (lk_mem h)
theorem lk_at {ar : Array Slot} {nL i : Nat} {ls : List (Nat × Value)} {v : Value} (hl : lv_has ar nL ls) (h : lkL ls i = some v) : ar[i]? = some (.val v) := hl.2.2 _ (lk_mem h)
theorem cat1_mem : ∀ {l : List (Nat × Value)}, cat1 l = true → ∀ q ∈ l, q.2.category = 1
  | [], _, q, h => by cases h
  | r :: l, hc, q, h => by
    unfold cat1 at hc
    split at hc
    · rename_i e
      rcases List.mem_cons.mp h with h | h
      · rw [h]; exact e
      · exact cat1_mem hc q h
    · cases hc
theorem ldel_mem : ∀ {l : List (Nat × Value)} {i : Nat} {q : Nat × Value}, q ∈ ldel l i → q ∈ l ∧ q.1 ≠ i
  | [], i, q, h => by cases h
  | r :: l, i, q, h => by
    unfold ldel at h
    cases hb : Nat.beq r.1 i with
    | true =>
      rw [hb] at h
      exact ⟨List.mem_cons_of_mem _ (ldel_mem h).1, (ldel_mem h).2⟩
    | false =>
      rw [hb] at h
      rcases List.mem_cons.mp h with h | h
      · refine ⟨by rw [h]; exact List.mem_cons_self, fun e => ?_⟩
        rw [h] at e
        rw [e, Nat.beq_refl] at hb
        cases hb
      · exact ⟨List.mem_cons_of_mem _ (ldel_mem h).1, (ldel_mem h).2⟩
theorem lset_mem : ∀ {l : List (Nat × Value)} {i : Nat} {v : Value} {q : Nat × Value}, q ∈ lset l i v → q = (i, v) ∨ (q ∈ l ∧ q.1 ≠ i)
  | [], i, v, q, h => by
    rcases List.mem_cons.mp h with h | h
    · exact Or.inl h
    · cases h
  | r :: l, i, v, q, h => by
    unfold lset at h
    cases hb : Nat.beq r.1 i with
    | true =>
      rw [hb] at h
      rcases List.mem_cons.mp h with h | h
      · exact Or.inl h
      · exact Or.inr ⟨List.mem_cons_of_mem _ (ldel_mem h).1, (ldel_mem h).2⟩
    | false =>
      rw [hb] at h
      rcases List.mem_cons.mp h with h | h
      · refine Or.inr ⟨by rw [h]; exact List.mem_cons_self, fun e => ?_⟩
        rw [h] at e
        rw [e, Nat.beq_refl] at hb
        cases hb
      · rcases lset_mem h with h | h
        · exact Or.inl h
        · exact Or.inr ⟨List.mem_cons_of_mem _ h.1, h.2⟩
theorem lset_has {ar : Array Slot} {nL i : Nat} {ls ls' : List (Nat × Value)} {v : Value} (hc : cat1 ls = true) (hs : lset ls i v = ls') (h : lv_has ar nL ((i, v) :: ls.filter (fun q => !(q.1 == i) && !(q.1 + 1 == i && q.2.category == 2)))) : lv_has ar nL ls' := by
  refine ⟨h.1, h.2.1, fun q hq => ?_⟩
  rw [← hs] at hq
  rcases lset_mem hq with h1 | ⟨h1, h2⟩
  · exact h.2.2 q (by rw [h1]; exact List.mem_cons_self)
  · refine h.2.2 q (List.mem_cons_of_mem _ (List.mem_filter.mpr ⟨h1, ?_⟩))
    have := cat1_mem hc q h1
    simp [h2, this]
theorem lv_fewer {ar : Array Slot} {nL : Nat} {ls ls' : List (Nat × Value)} (h : lv_has ar nL ls) (hs : ∀ q ∈ ls', lkL ls q.1 = some q.2) : lv_has ar nL ls' := ⟨h.1, h.2.1, fun q hq => lk_at h (hs q hq)⟩
section GR
variable {E : EE} {X : XX} {Q : State → Prop} {own : String} {cc : ByteArray} {nL n pc : Nat} {ls ls' : List (Nat × Value)} {st : List Value} {u : Sto}

theorem g_iconst (h : CX E X own cc nL) {k : Int} {v : Int32} (hd : decode cc pc = .ok (.iconst k, 1)) (hv : Int32.ofInt k = v) (kk : G E X Q nL n (pc + 1) ls (.int v :: st) u) : G E X Q nL n pc ls (st) u := fun H locs ar hP hS hl => lv_iconst h.1 h.2.1 hd hv (kk H locs ar hP hS hl)
theorem g_bipush (h : CX E X own cc nL) {k : Int} {v : Int32} (hd : decode cc pc = .ok (.bipush k, 2)) (hv : (Int8.ofInt k).toInt32 = v) (kk : G E X Q nL n (pc + 2) ls (.int v :: st) u) : G E X Q nL n pc ls (st) u := fun H locs ar hP hS hl => lv_bipush h.1 h.2.1 hd hv (kk H locs ar hP hS hl)
theorem g_sipush (h : CX E X own cc nL) {k : Int} {v : Int32} (hd : decode cc pc = .ok (.sipush k, 3)) (hv : (Int16.ofInt k).toInt32 = v) (kk : G E X Q nL n (pc + 3) ls (.int v :: st) u) : G E X Q nL n pc ls (st) u := fun H locs ar hP hS hl => lv_sipush h.1 h.2.1 hd hv (kk H locs ar hP hS hl)
theorem g_iload_n (h : CX E X own cc nL) {k : Fin 4} {i : Nat} {x : Int32} (hd : decode cc pc = .ok (.iload_n k, 1)) (hi : (k : Nat) = i) (hg : lkL ls i = some (.int x)) (kk : G E X Q nL n (pc + 1) ls (.int x :: st) u) : G E X Q nL n pc ls (st) u := fun H locs ar hP hS hl => lv_iload_n h.1 h.2.1 hd hi (lk_at hl hg) (kk H locs ar hP hS hl)
theorem g_iload (h : CX E X own cc nL) {i : Nat} {x : Int32} (hd : decode cc pc = .ok (.iload i, 2)) (hg : lkL ls i = some (.int x)) (kk : G E X Q nL n (pc + 2) ls (.int x :: st) u) : G E X Q nL n pc ls (st) u := fun H locs ar hP hS hl => lv_iload h.1 h.2.1 hd (lk_at hl hg) (kk H locs ar hP hS hl)
theorem g_aload_n (h : CX E X own cc nL) {k : Fin 4} {i : Nat} {x : Nat} (hd : decode cc pc = .ok (.aload_n k, 1)) (hi : (k : Nat) = i) (hg : lkL ls i = some (.ref x)) (kk : G E X Q nL n (pc + 1) ls (.ref x :: st) u) : G E X Q nL n pc ls (st) u := fun H locs ar hP hS hl => lv_aload_n h.1 h.2.1 hd hi (lk_at hl hg) (kk H locs ar hP hS hl)
theorem g_aload (h : CX E X own cc nL) {i : Nat} {x : Nat} (hd : decode cc pc = .ok (.aload i, 2)) (hg : lkL ls i = some (.ref x)) (kk : G E X Q nL n (pc + 2) ls (.ref x :: st) u) : G E X Q nL n pc ls (st) u := fun H locs ar hP hS hl => lv_aload h.1 h.2.1 hd (lk_at hl hg) (kk H locs ar hP hS hl)
theorem g_istore_n (h : CX E X own cc nL) {k : Fin 4} {i : Nat} {x : Int32} (hd : decode cc pc = .ok (.istore_n k, 1)) (hi : (k : Nat) = i) (hn : i < nL) (hc : cat1 ls = true) (hs : lset ls i (.int x) = ls') (kk : G E X Q nL n (pc + 1) ls' st u) : G E X Q nL n pc ls (.int x :: st) u := fun H locs ar hP hS hl => lv_istore_n h.1 h.2.1 hd hi hl hn rfl (fun ar9 hl9 => kk H locs ar9 hP hS (lset_has hc hs hl9))
theorem g_istore (h : CX E X own cc nL) {i : Nat} {x : Int32} (hd : decode cc pc = .ok (.istore i, 2)) (hn : i < nL) (hc : cat1 ls = true) (hs : lset ls i (.int x) = ls') (kk : G E X Q nL n (pc + 2) ls' st u) : G E X Q nL n pc ls (.int x :: st) u := fun H locs ar hP hS hl => lv_istore h.1 h.2.1 hd hl hn rfl (fun ar9 hl9 => kk H locs ar9 hP hS (lset_has hc hs hl9))
theorem g_astore_n (h : CX E X own cc nL) {k : Fin 4} {i : Nat} {x : Nat} (hd : decode cc pc = .ok (.astore_n k, 1)) (hi : (k : Nat) = i) (hn : i < nL) (hc : cat1 ls = true) (hs : lset ls i (.ref x) = ls') (kk : G E X Q nL n (pc + 1) ls' st u) : G E X Q nL n pc ls (.ref x :: st) u := fun H locs ar hP hS hl => lv_astore_n h.1 h.2.1 hd hi hl hn rfl (fun ar9 hl9 => kk H locs ar9 hP hS (lset_has hc hs hl9))
theorem g_astore (h : CX E X own cc nL) {i : Nat} {x : Nat} (hd : decode cc pc = .ok (.astore i, 2)) (hn : i < nL) (hc : cat1 ls = true) (hs : lset ls i (.ref x) = ls') (kk : G E X Q nL n (pc + 2) ls' st u) : G E X Q nL n pc ls (.ref x :: st) u := fun H locs ar hP hS hl => lv_astore h.1 h.2.1 hd hl hn rfl (fun ar9 hl9 => kk H locs ar9 hP hS (lset_has hc hs hl9))
theorem g_iinc (h : CX E X own cc nL) {i : Nat} {k : Int} {x v : Int32} (hd : decode cc pc = .ok (.iinc i k, 3)) (hg : lkL ls i = some (.int x)) (hv : x + Int32.ofInt k = v) (hn : i < nL) (hc : cat1 ls = true) (hs : lset ls i (.int v) = ls') (kk : G E X Q nL n (pc + 3) ls' st u) : G E X Q nL n pc ls st u := fun H locs ar hP hS hl => by
  obtain ⟨j, hj⟩ := List.getElem?_of_mem (lk_mem hg)
  exact lv_iinc (k := j) h.1 h.2.1 hd hl hj hv hn rfl (fun ar9 hl9 => kk H locs ar9 hP hS (lset_has hc hs hl9))
theorem g_iadd (h : CX E X own cc nL) {x y : Int32} (hd : decode cc pc = .ok (.iadd, 1)) (kk : G E X Q nL n (pc + 1) ls (.int (x + y) :: st) u) : G E X Q nL n pc ls (.int y :: .int x :: st) u := fun H locs ar hP hS hl => lv_iadd h.1 h.2.1 hd (kk H locs ar hP hS hl)
theorem g_isub (h : CX E X own cc nL) {x y : Int32} (hd : decode cc pc = .ok (.isub, 1)) (kk : G E X Q nL n (pc + 1) ls (.int (x - y) :: st) u) : G E X Q nL n pc ls (.int y :: .int x :: st) u := fun H locs ar hP hS hl => lv_isub h.1 h.2.1 hd (kk H locs ar hP hS hl)
theorem g_imul (h : CX E X own cc nL) {x y : Int32} (hd : decode cc pc = .ok (.imul, 1)) (kk : G E X Q nL n (pc + 1) ls (.int (x * y) :: st) u) : G E X Q nL n pc ls (.int y :: .int x :: st) u := fun H locs ar hP hS hl => lv_imul h.1 h.2.1 hd (kk H locs ar hP hS hl)
theorem g_iand (h : CX E X own cc nL) {x y : Int32} (hd : decode cc pc = .ok (.iand, 1)) (kk : G E X Q nL n (pc + 1) ls (.int (x &&& y) :: st) u) : G E X Q nL n pc ls (.int y :: .int x :: st) u := fun H locs ar hP hS hl => lv_iand h.1 h.2.1 hd (kk H locs ar hP hS hl)
theorem g_ior (h : CX E X own cc nL) {x y : Int32} (hd : decode cc pc = .ok (.ior, 1)) (kk : G E X Q nL n (pc + 1) ls (.int (x ||| y) :: st) u) : G E X Q nL n pc ls (.int y :: .int x :: st) u := fun H locs ar hP hS hl => lv_ior h.1 h.2.1 hd (kk H locs ar hP hS hl)
theorem g_ixor (h : CX E X own cc nL) {x y : Int32} (hd : decode cc pc = .ok (.ixor, 1)) (kk : G E X Q nL n (pc + 1) ls (.int (x ^^^ y) :: st) u) : G E X Q nL n pc ls (.int y :: .int x :: st) u := fun H locs ar hP hS hl => lv_ixor h.1 h.2.1 hd (kk H locs ar hP hS hl)
theorem g_ishl (h : CX E X own cc nL) {x y : Int32} (hd : decode cc pc = .ok (.ishl, 1)) (kk : G E X Q nL n (pc + 1) ls (.int (x <<< (y &&& 31)) :: st) u) : G E X Q nL n pc ls (.int y :: .int x :: st) u := fun H locs ar hP hS hl => lv_ishl h.1 h.2.1 hd (kk H locs ar hP hS hl)
theorem g_ishr (h : CX E X own cc nL) {x y : Int32} (hd : decode cc pc = .ok (.ishr, 1)) (kk : G E X Q nL n (pc + 1) ls (.int (x >>> (y &&& 31)) :: st) u) : G E X Q nL n pc ls (.int y :: .int x :: st) u := fun H locs ar hP hS hl => lv_ishr h.1 h.2.1 hd (kk H locs ar hP hS hl)
theorem g_idiv (h : CX E X own cc nL) {x y : Int32} (hd : decode cc pc = .ok (.idiv, 1)) (hne : ¬ y = 0) (kk : G E X Q nL n (pc + 1) ls (.int (x / y) :: st) u) : G E X Q nL n pc ls (.int y :: .int x :: st) u := fun H locs ar hP hS hl => lv_idiv h.1 h.2.1 hd hne (kk H locs ar hP hS hl)
theorem g_irem (h : CX E X own cc nL) {x y : Int32} (hd : decode cc pc = .ok (.irem, 1)) (hne : ¬ y = 0) (kk : G E X Q nL n (pc + 1) ls (.int (x - x / y * y) :: st) u) : G E X Q nL n pc ls (.int y :: .int x :: st) u := fun H locs ar hP hS hl => lv_irem h.1 h.2.1 hd hne (kk H locs ar hP hS hl)
theorem g_ineg (h : CX E X own cc nL) {x : Int32} (hd : decode cc pc = .ok (.ineg, 1)) (kk : G E X Q nL n (pc + 1) ls (.int (-x) :: st) u) : G E X Q nL n pc ls (.int x :: st) u := fun H locs ar hP hS hl => lv_ineg h.1 h.2.1 hd (kk H locs ar hP hS hl)
theorem g_iushr (h : CX E X own cc nL) {x y : Int32} (hd : decode cc pc = .ok (.iushr, 1)) (kk : G E X Q nL n (pc + 1) ls (.int (x.toUInt32 >>> (y.toUInt32 &&& Int32.toUInt32 31)).toInt32 :: st) u) : G E X Q nL n pc ls (.int y :: .int x :: st) u := fun H locs ar hP hS hl => lv_iushr h.1 h.2.1 hd rfl (kk H locs ar hP hS hl)
theorem g_i2l (h : CX E X own cc nL) {x : Int32} (hd : decode cc pc = .ok (.i2l, 1)) (kk : G E X Q nL n (pc + 1) ls (.long x.toInt64 :: st) u) : G E X Q nL n pc ls (.int x :: st) u := fun H locs ar hP hS hl => lv_i2l h.1 h.2.1 hd rfl (kk H locs ar hP hS hl)
theorem g_i2c (h : CX E X own cc nL) {x : Int32} (hd : decode cc pc = .ok (.i2c, 1)) (kk : G E X Q nL n (pc + 1) ls (.int (x.toUInt32 % 65536).toInt32 :: st) u) : G E X Q nL n pc ls (.int x :: st) u := fun H locs ar hP hS hl => lv_i2c h.1 h.2.1 hd rfl (kk H locs ar hP hS hl)
theorem g_lcmp (h : CX E X own cc nL) {x y : Int64} (hd : decode cc pc = .ok (.lcmp, 1)) (kk : G E X Q nL n (pc + 1) ls (.int (lg_cmp x y) :: st) u) : G E X Q nL n pc ls (.long y :: .long x :: st) u := fun H locs ar hP hS hl => W.lcmp h.1 h.2.1 hd (kk H locs ar hP hS hl)
theorem g_dup (h : CX E X own cc nL) {a : Value} (hd : decode cc pc = .ok (.dup, 1)) (ha : a.category = 1) (kk : G E X Q nL n (pc + 1) ls (a :: a :: st) u) : G E X Q nL n pc ls (a :: st) u := fun H locs ar hP hS hl => lv_dup h.1 h.2.1 hd ha (kk H locs ar hP hS hl)
theorem g_pop (h : CX E X own cc nL) {a : Value} (hd : decode cc pc = .ok (.pop, 1)) (ha : a.category = 1) (kk : G E X Q nL n (pc + 1) ls (st) u) : G E X Q nL n pc ls (a :: st) u := fun H locs ar hP hS hl => lv_pop h.1 h.2.1 hd ha (kk H locs ar hP hS hl)
theorem g_dup2 (h : CX E X own cc nL) {a b : Value} (hd : decode cc pc = .ok (.dup2, 1)) (ha : a.category = 1) (hb : b.category = 1) (kk : G E X Q nL n (pc + 1) ls (a :: b :: a :: b :: st) u) : G E X Q nL n pc ls (a :: b :: st) u := fun H locs ar hP hS hl => lv_dup2_11 h.1 h.2.1 hd ha hb (kk H locs ar hP hS hl)
theorem g_goto (h : CX E X own cc nL) {off : Int} {tgt : Nat} (hd : decode cc pc = .ok (.goto off, 3)) (ht : (pc : Int) + off = (tgt : Int)) (kk : G E X Q nL n (tgt) ls (st) u) : G E X Q nL n pc ls (st) u := fun H locs ar hP hS hl => lv_goto h.1 h.2.1 hd ht (kk H locs ar hP hS hl)
theorem g_if_eq (h : CX E X own cc nL) {x : Int32} {off : Int} {tgt : Nat} (hd : decode cc pc = .ok (.ifCond .eq off, 3)) (ht : (pc : Int) + off = (tgt : Int)) (kt : x = 0 → G E X Q nL n tgt ls st u) (kf : ¬ x = 0 → G E X Q nL n (pc + 3) ls st u) : G E X Q nL n pc ls (.int x :: st) u := fun H locs ar hP hS hl => lv_if_eq h.1 h.2.1 hd ht (fun q => kt q H locs ar hP hS hl) (fun q => kf q H locs ar hP hS hl)
theorem g_icmp_eq (h : CX E X own cc nL) {x y : Int32} {off : Int} {tgt : Nat} (hd : decode cc pc = .ok (.if_icmp .eq off, 3)) (ht : (pc : Int) + off = (tgt : Int)) (kt : x = y → G E X Q nL n tgt ls st u) (kf : ¬ x = y → G E X Q nL n (pc + 3) ls st u) : G E X Q nL n pc ls (.int y :: .int x :: st) u := fun H locs ar hP hS hl => lv_icmp_eq h.1 h.2.1 hd ht (fun q => kt q H locs ar hP hS hl) (fun q => kf q H locs ar hP hS hl)
theorem g_if_ne (h : CX E X own cc nL) {x : Int32} {off : Int} {tgt : Nat} (hd : decode cc pc = .ok (.ifCond .ne off, 3)) (ht : (pc : Int) + off = (tgt : Int)) (kt : ¬ x = 0 → G E X Q nL n tgt ls st u) (kf : x = 0 → G E X Q nL n (pc + 3) ls st u) : G E X Q nL n pc ls (.int x :: st) u := fun H locs ar hP hS hl => lv_if_ne h.1 h.2.1 hd ht (fun q => kt q H locs ar hP hS hl) (fun q => kf q H locs ar hP hS hl)
theorem g_icmp_ne (h : CX E X own cc nL) {x y : Int32} {off : Int} {tgt : Nat} (hd : decode cc pc = .ok (.if_icmp .ne off, 3)) (ht : (pc : Int) + off = (tgt : Int)) (kt : ¬ x = y → G E X Q nL n tgt ls st u) (kf : x = y → G E X Q nL n (pc + 3) ls st u) : G E X Q nL n pc ls (.int y :: .int x :: st) u := fun H locs ar hP hS hl => lv_icmp_ne h.1 h.2.1 hd ht (fun q => kt q H locs ar hP hS hl) (fun q => kf q H locs ar hP hS hl)
theorem g_if_lt (h : CX E X own cc nL) {x : Int32} {off : Int} {tgt : Nat} (hd : decode cc pc = .ok (.ifCond .lt off, 3)) (ht : (pc : Int) + off = (tgt : Int)) (kt : x < 0 → G E X Q nL n tgt ls st u) (kf : ¬ x < 0 → G E X Q nL n (pc + 3) ls st u) : G E X Q nL n pc ls (.int x :: st) u := fun H locs ar hP hS hl => lv_if_lt h.1 h.2.1 hd ht (fun q => kt q H locs ar hP hS hl) (fun q => kf q H locs ar hP hS hl)
theorem g_icmp_lt (h : CX E X own cc nL) {x y : Int32} {off : Int} {tgt : Nat} (hd : decode cc pc = .ok (.if_icmp .lt off, 3)) (ht : (pc : Int) + off = (tgt : Int)) (kt : x < y → G E X Q nL n tgt ls st u) (kf : ¬ x < y → G E X Q nL n (pc + 3) ls st u) : G E X Q nL n pc ls (.int y :: .int x :: st) u := fun H locs ar hP hS hl => lv_icmp_lt h.1 h.2.1 hd ht (fun q => kt q H locs ar hP hS hl) (fun q => kf q H locs ar hP hS hl)
theorem g_if_ge (h : CX E X own cc nL) {x : Int32} {off : Int} {tgt : Nat} (hd : decode cc pc = .ok (.ifCond .ge off, 3)) (ht : (pc : Int) + off = (tgt : Int)) (kt : 0 ≤ x → G E X Q nL n tgt ls st u) (kf : ¬ 0 ≤ x → G E X Q nL n (pc + 3) ls st u) : G E X Q nL n pc ls (.int x :: st) u := fun H locs ar hP hS hl => lv_if_ge h.1 h.2.1 hd ht (fun q => kt q H locs ar hP hS hl) (fun q => kf q H locs ar hP hS hl)
theorem g_icmp_ge (h : CX E X own cc nL) {x y : Int32} {off : Int} {tgt : Nat} (hd : decode cc pc = .ok (.if_icmp .ge off, 3)) (ht : (pc : Int) + off = (tgt : Int)) (kt : y ≤ x → G E X Q nL n tgt ls st u) (kf : ¬ y ≤ x → G E X Q nL n (pc + 3) ls st u) : G E X Q nL n pc ls (.int y :: .int x :: st) u := fun H locs ar hP hS hl => lv_icmp_ge h.1 h.2.1 hd ht (fun q => kt q H locs ar hP hS hl) (fun q => kf q H locs ar hP hS hl)
theorem g_if_gt (h : CX E X own cc nL) {x : Int32} {off : Int} {tgt : Nat} (hd : decode cc pc = .ok (.ifCond .gt off, 3)) (ht : (pc : Int) + off = (tgt : Int)) (kt : 0 < x → G E X Q nL n tgt ls st u) (kf : ¬ 0 < x → G E X Q nL n (pc + 3) ls st u) : G E X Q nL n pc ls (.int x :: st) u := fun H locs ar hP hS hl => lv_if_gt h.1 h.2.1 hd ht (fun q => kt q H locs ar hP hS hl) (fun q => kf q H locs ar hP hS hl)
theorem g_icmp_gt (h : CX E X own cc nL) {x y : Int32} {off : Int} {tgt : Nat} (hd : decode cc pc = .ok (.if_icmp .gt off, 3)) (ht : (pc : Int) + off = (tgt : Int)) (kt : y < x → G E X Q nL n tgt ls st u) (kf : ¬ y < x → G E X Q nL n (pc + 3) ls st u) : G E X Q nL n pc ls (.int y :: .int x :: st) u := fun H locs ar hP hS hl => lv_icmp_gt h.1 h.2.1 hd ht (fun q => kt q H locs ar hP hS hl) (fun q => kf q H locs ar hP hS hl)
theorem g_if_le (h : CX E X own cc nL) {x : Int32} {off : Int} {tgt : Nat} (hd : decode cc pc = .ok (.ifCond .le off, 3)) (ht : (pc : Int) + off = (tgt : Int)) (kt : x ≤ 0 → G E X Q nL n tgt ls st u) (kf : ¬ x ≤ 0 → G E X Q nL n (pc + 3) ls st u) : G E X Q nL n pc ls (.int x :: st) u := fun H locs ar hP hS hl => lv_if_le h.1 h.2.1 hd ht (fun q => kt q H locs ar hP hS hl) (fun q => kf q H locs ar hP hS hl)
theorem g_icmp_le (h : CX E X own cc nL) {x y : Int32} {off : Int} {tgt : Nat} (hd : decode cc pc = .ok (.if_icmp .le off, 3)) (ht : (pc : Int) + off = (tgt : Int)) (kt : x ≤ y → G E X Q nL n tgt ls st u) (kf : ¬ x ≤ y → G E X Q nL n (pc + 3) ls st u) : G E X Q nL n pc ls (.int y :: .int x :: st) u := fun H locs ar hP hS hl => lv_icmp_le h.1 h.2.1 hd ht (fun q => kt q H locs ar hP hS hl) (fun q => kf q H locs ar hP hS hl)
theorem g_ldcI (h : CX E X own cc nL) {index : Nat} {v : Int32} (hw : Cond.constant own index v ∈ TW) (hd : decode cc pc = .ok (.ldc index, 2)) (kk : G E X Q nL n (pc + 2) ls (.int v :: st) u) : G E X Q nL n pc ls (st) u := fun H locs ar hP hS hl => lv_ldc h.1 h.2.1 h.2.2.2.1 (va_tabs rfl rfl (h.2.2.2.2.2.1 _ hw)) hd (kk H locs ar hP hS hl)
theorem g_ldcwI (h : CX E X own cc nL) {index : Nat} {v : Int32} (hw : Cond.constant own index v ∈ TW) (hd : decode cc pc = .ok (.ldc_w index, 3)) (kk : G E X Q nL n (pc + 3) ls (.int v :: st) u) : G E X Q nL n pc ls (st) u := fun H locs ar hP hS hl => lv_ldcw h.1 h.2.1 h.2.2.2.1 (va_tabs rfl rfl (h.2.2.2.2.2.1 _ hw)) hd (kk H locs ar hP hS hl)
theorem g_ldcS (h : CX E X own cc nL) {index k : Nat} {tx : String} (hu : (own, index, tx, k) ∈ strUse) (hd : decode cc pc = .ok (.ldc index, 2)) (kk : G E X Q nL n (pc + 2) ls (.ref (E.aK k) :: st) u) : G E X Q nL n pc ls (st) u := fun H locs ar hP hS hl => va_ldcS h.1 h.2.1 h.2.2.2.1 (h.2.2.2.2.2.2.2.2.2.2.2.2.1 _ hu) hd (kk H locs ar hP hS hl)
/-- the top as it is equal to -/
theorem g_top {x y : Int32} (e : x = y) (kk : G E X Q nL n pc ls (.int y :: st) u) : G E X Q nL n pc ls (.int x :: st) u := e ▸ kk
theorem g_sto {u2 : Sto} (e : u = u2) (kk : G E X Q nL n pc ls st u2) : G E X Q nL n pc ls st u := e ▸ kk
theorem g_ls (hs : ∀ q ∈ ls', lkL ls q.1 = some q.2) (kk : G E X Q nL n pc ls' st u) : G E X Q nL n pc ls st u := fun H locs ar hP hS hl => kk H locs ar hP hS (lv_fewer hl hs)
theorem g_more {k : Nat} (hk : n ≤ k) (kk : G E X Q nL k pc ls st u) : G E X Q nL n pc ls st u := fun H locs ar hP hS hl => W.widen hk (Nat.mul_le_mul_left 6 hk) (kk H locs ar hP hS hl)
theorem envD (hE : EnvOK E X.s) (v : Sto) : va_D (A0 E) (wsE E v) := by
  obtain ⟨-, -, h3, h4, -⟩ := hE
  refine ⟨fun i j p q hi hj e => ?_, fun k q hk => ?_⟩
  · have li : i < shN := by
      have := (List.getElem?_eq_some_iff.mp hi).1
      simpa [wsW] using this
    have lj : j < shN := by
      have := (List.getElem?_eq_some_iff.mp hj).1
      simpa [wsW] using this
    rw [wsW_get li] at hi
    rw [wsW_get lj] at hj
    cases hi
    cases hj
    exact h3 i j li lj e
  · have lk : k < shN := by
      have := (List.getElem?_eq_some_iff.mp hk).1
      simpa [wsW] using this
    rw [wsW_get lk] at hk
    cases hk
    exact h4 k lk
theorem env_at {k : Nat} (hk : k < shN) {d : CD} (hd : shp k = d) {v : Sto} : (wsE E v)[k]? = some (E.ad k, cellE E.cy E.ad d (v k)) := by rw [← hd]; exact wsW_get hk
theorem g_iald (h : CX E X own cc nL) (k i N : Nat) {x : Int32} (hs : shp k = .inr (.inl (0, N))) (hk : k < shN) (hN : N < 2 ^ 31) (hx : x = nI i) (hi : i < N) (hd : decode cc pc = .ok (.iaload, 1)) (kk : G E X Q nL n (pc + 1) ls (.int (u k i) :: st) u) : G E X Q nL n pc ls (.int x :: .ref (E.ad k) :: st) u := fun H locs ar hP hS hl => by
  subst hx
  have hw := env_at (E := E) (v := u) hk hs
  refine va_iald (D := E.D) (cl := vwCl) (tys := tysE E) h.1 h.2.1 h.2.2.2.2.2.2.1 hP k 0 (n := N) (f := u k) hw rfl (vp_in_nI hi hN) hd ?_
  have e : (nI i).toNatClampNeg = i := nI_clamp (Nat.lt_trans hi hN)
  rw [e]
  exact (kk H locs ar hP hS hl)
theorem g_zald (h : CX E X own cc nL) (k i N : Nat) {x : Int32} (hs : shp k = .inr (.inl (1, N))) (hk : k < shN) (hN : N < 2 ^ 31) (hx : x = nI i) (hi : i < N) (hd : decode cc pc = .ok (.baload, 1)) (kk : G E X Q nL n (pc + 1) ls (.int (u k i) :: st) u) : G E X Q nL n pc ls (.int x :: .ref (E.ad k) :: st) u := fun H locs ar hP hS hl => by
  subst hx
  have hw := env_at (E := E) (v := u) hk hs
  refine va_zald (D := E.D) (cl := vwCl) (tys := tysE E) h.1 h.2.1 h.2.2.2.2.2.2.1 hP k 1 (n := N) (f := u k) hw rfl (vp_in_nI hi hN) hd ?_
  have e : (nI i).toNatClampNeg = i := nI_clamp (Nat.lt_trans hi hN)
  rw [e]
  exact (kk H locs ar hP hS hl)
theorem g_alen (h : CX E X own cc nL) (k N : Nat) (hs : shp k = .inr (.inl (0, N))) (hk : k < shN) (hd : decode cc pc = .ok (.arraylength, 1)) (kk : G E X Q nL n (pc + 1) ls (.int (nI N) :: st) u) : G E X Q nL n pc ls (.ref (E.ad k) :: st) u := fun H locs ar hP hS hl => by
  have hw := env_at (E := E) (v := u) hk hs
  exact va_alen (D := E.D) (cl := vwCl) (tys := tysE E) h.1 h.2.1 h.2.2.2.2.2.2.1 hP k 0 (x := (N, .inl (u k))) hw rfl rfl hd (kk H locs ar hP hS hl)
theorem g_iast (h : CX E X own cc nL) (k i N : Nat) {x v : Int32} (hs : shp k = .inr (.inl (0, N))) (hk : k < shN) (hN : N < 2 ^ 31) (hx : x = nI i) (hi : i < N) (hd : decode cc pc = .ok (.iastore, 1)) (kk : G E X Q nL n (pc + 1) ls st (su u k i v)) : G E X Q nL n pc ls (.int v :: .int x :: .ref (E.ad k) :: st) u := fun H locs ar hP hS hl => by
  subst hx
  have hw := env_at (E := E) (v := u) hk hs
  have e : (nI i).toNatClampNeg = i := nI_clamp (Nat.lt_trans hi hN)
  refine va_iast (D := E.D) (cl := vwCl) (tys := tysE E) h.1 h.2.1 h.2.2.2.2.2.2.1 hP (envD h.2.2.2.2.2 u) hS k 0 (n := N) (f := u k) hw rfl (vp_in_nI hi hN) hd (fun H1 locs1 hP1 hD1 hS1 => ?_)
  rw [e] at hP1
  rw [wsW_set (j := i) (v := v) hk (by rw [su_at, hs]; rfl)] at hP1
  exact kk H1 locs1 ar hP1 hS1 hl
theorem g_zast (h : CX E X own cc nL) (k i N : Nat) {x v : Int32} (hs : shp k = .inr (.inl (1, N))) (hk : k < shN) (hN : N < 2 ^ 31) (hx : x = nI i) (hi : i < N) (hv : vp_nar .boolean v = v) (hd : decode cc pc = .ok (.bastore, 1)) (kk : G E X Q nL n (pc + 1) ls st (su u k i v)) : G E X Q nL n pc ls (.int v :: .int x :: .ref (E.ad k) :: st) u := fun H locs ar hP hS hl => by
  subst hx
  have hw := env_at (E := E) (v := u) hk hs
  have e : (nI i).toNatClampNeg = i := nI_clamp (Nat.lt_trans hi hN)
  refine va_zast (D := E.D) (cl := vwCl) (tys := tysE E) h.1 h.2.1 h.2.2.2.2.2.2.1 hP (envD h.2.2.2.2.2 u) hS k 1 (n := N) (f := u k) hw rfl (vp_in_nI hi hN) hd (fun H1 locs1 hP1 hD1 hS1 => ?_)
  rw [e] at hP1
  rw [hv] at hP1
  rw [wsW_set (j := i) (v := v) hk (by rw [su_at, hs]; rfl)] at hP1
  exact kk H1 locs1 ar hP1 hS1 hl
theorem g_aald (h : CX E X own cc nL) (k i : Nat) {x : Int32} {l : List Nat} {c : Nat} (hs : shp k = .inr (.inr l)) (hk : k < shN) (hN : l.length < 2 ^ 31) (hx : x = nI i) (hi : l[i]? = some c) (hd : decode cc pc = .ok (.aaload, 1)) (kk : G E X Q nL n (pc + 1) ls (.ref (E.ad c) :: st) u) : G E X Q nL n pc ls (.int x :: .ref (E.ad k) :: st) u := fun H locs ar hP hS hl => by
  subst hx
  have hw := env_at (E := E) (v := u) hk hs
  have hil : i < l.length := (List.getElem?_eq_some_iff.mp hi).1
  have e : (nI i).toNatClampNeg = i := nI_clamp (Nat.lt_trans hil hN)
  refine va_aldq (D := E.D) (cl := vwCl) (tys := tysE E) h.1 h.2.1 h.2.2.2.2.2.2.1 hP k 3 (C := "HourLets$Town") (n := l.length) (f := fun j => (l[j]?).map E.ad) hw rfl (vp_in_nI hil hN) hd ?_
  rw [e, hi]
  exact (kk H locs ar hP hS hl)
end GR
