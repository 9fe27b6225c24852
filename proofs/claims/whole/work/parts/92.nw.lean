-- after: 91.nv
/-! bits; rows of rooms -/
def btB (x : Int32) (k : Nat) : Bool := x.toBitVec.getLsbD k
theorem nI_bv (k : Nat) : (nI k).toBitVec = BitVec.ofNat 32 k := rfl
theorem sh_nat {k : Nat} (h : k < 32) : ((nI k).toUInt32 &&& Int32.toUInt32 31).toBitVec.toNat % 32 = k := by
  have e : ((nI k).toUInt32 &&& Int32.toUInt32 31).toBitVec = BitVec.ofNat 32 k &&& 31#32 := rfl
  rw [e, BitVec.toNat_and, BitVec.toNat_ofNat, BitVec.toNat_ofNat, Nat.mod_eq_of_lt (by omega : k < 2 ^ 32)]
  rw [show (31 % 2 ^ 32 : Nat) = 2 ^ 5 - 1 from rfl, Nat.and_two_pow_sub_one_eq_mod]
  omega
theorem bt_bitJ {x : Int32} {k : Nat} (h : k < 32) : bitJ x (nI k) = b2 (btB x k = true) := by
  have hb : (bitJ x (nI k)).toBitVec = (x.toBitVec >>> k) &&& 1#32 := by
    unfold bitJ
    have e1 : (((x.toUInt32 >>> ((nI k).toUInt32 &&& Int32.toUInt32 31)).toInt32 &&& nI 1).toBitVec) = (x.toUInt32 >>> ((nI k).toUInt32 &&& Int32.toUInt32 31)).toBitVec &&& 1#32 := rfl
    have e3 : (((nI k).toUInt32 &&& Int32.toUInt32 31).toBitVec % 32#32).toNat = k := by
      rw [BitVec.toNat_umod]; exact sh_nat h
    have e4 : (((nI k).toUInt32 &&& Int32.toUInt32 31).toBitVec % 32) = (((nI k).toUInt32 &&& Int32.toUInt32 31).toBitVec % 32#32) := rfl
    rw [e1, UInt32.toBitVec_shiftRight, e4, BitVec.ushiftRight_eq', e3]
    rfl
  have hn : (bitJ x (nI k)).toBitVec = if btB x k = true then 1#32 else 0#32 := by
    rw [hb]
    apply BitVec.eq_of_getLsbD_eq
    intro i hi
    rw [BitVec.getLsbD_and, BitVec.getLsbD_ushiftRight, BitVec.getLsbD_one]
    unfold btB
    by_cases h0 : i = 0
    · subst h0
      cases x.toBitVec.getLsbD k <;> simp_all
    · cases x.toBitVec.getLsbD k <;> simp_all
  apply Int32.toBitVec_inj.mp
  rw [hn]
  by_cases e : btB x k = true
  · rw [if_pos e, b2_t e]; rfl
  · rw [if_neg e, b2_f e]; rfl
theorem bt_J {x : Int32} {k : Nat} (h : k < 32) : ¬ bitJ x (nI k) = 0 ↔ btB x k = true := by rw [bt_bitJ h]; exact b2_n0
theorem bt_I {x : Int32} {k : Nat} (h : k < 32) : ¬ bitI x k = 0 ↔ btB x k = true := bt_J h
theorem bt_or {x y : Int32} {k : Nat} : btB (x ||| y) k = (btB x k || btB y k) := BitVec.getLsbD_or
theorem bt_and {x y : Int32} {k : Nat} : btB (x &&& y) k = (btB x k && btB y k) := BitVec.getLsbD_and
theorem bt_xor {x y : Int32} {k : Nat} : btB (x ^^^ y) k = (btB x k ^^ btB y k) := BitVec.getLsbD_xor
theorem bt_0 {k : Nat} : btB (nI 0) k = false := BitVec.getLsbD_zero
theorem bt_m1 {k : Nat} (h : k < 32) : btB (-1) k = true := by
  show (BitVec.allOnes 32).getLsbD k = true
  rw [BitVec.getLsbD_allOnes]; exact decide_eq_true h
theorem bt_hi {x : Int32} {k : Nat} (h : 32 ≤ k) : btB x k = false := BitVec.getLsbD_of_ge _ _ h
theorem bt_ext {x y : Int32} (h : ∀ k, k < 32 → btB x k = btB y k) : x = y := Int32.toBitVec_inj.mp (BitVec.eq_of_getLsbD_eq (fun i hi => h i hi))
theorem oneJ_n (k : Nat) : oneJ (nI k) = one k := rfl
theorem bt_one {i k : Nat} (hi : i < 32) (hk : k < 32) : btB (one i) k = decide (k = i) := by
  have e : (one i).toBitVec = 1#32 <<< i := by
    unfold one
    have e1 : (nI 1 <<< (nI i &&& 31)).toBitVec = (nI 1).toBitVec <<< ((nI i &&& 31).toBitVec.smod 32#32) := rfl
    have e2 : (nI i &&& 31).toBitVec = BitVec.ofNat 32 i := by
      show BitVec.ofNat 32 i &&& 31#32 = _
      apply BitVec.eq_of_toNat_eq
      rw [BitVec.toNat_and, BitVec.toNat_ofNat, BitVec.toNat_ofNat, Nat.mod_eq_of_lt (by omega : i < 2 ^ 32), show (31 % 2 ^ 32 : Nat) = 2 ^ 5 - 1 from rfl, Nat.and_two_pow_sub_one_eq_mod]
      omega
    have e3 : ((BitVec.ofNat 32 i).smod 32#32).toNat = i := by
      have hm : (BitVec.ofNat 32 i).msb = false := by
        rw [BitVec.msb_eq_false_iff_two_mul_lt, BitVec.toNat_ofNat]; omega
      rw [BitVec.smod_eq, hm]
      show ((BitVec.ofNat 32 i) % 32#32).toNat = i
      rw [BitVec.toNat_umod, BitVec.toNat_ofNat, BitVec.toNat_ofNat, Nat.mod_eq_of_lt (by omega : i < 2 ^ 32)]; exact Nat.mod_eq_of_lt hi
    rw [e1, e2, BitVec.shiftLeft_eq', e3]
    rfl
  unfold btB
  rw [e, BitVec.getLsbD_shiftLeft, BitVec.getLsbD_one]
  by_cases h : k = i
  · subst h; simp [hk]
  · simp [h]
    omega
/-- how many rooms from r on, in the ring, at most n, are such -/
def rlN (p : Nat → Bool) (r : Nat) : Nat → Nat → Nat
  | 0, n => n
  | j + 1, n => if p ((r + n) % 168) = true then rlN p r j (n + 1) else n
def rl (p : Nat → Bool) (r : Nat) : Nat := rlN p r 168 0
theorem rlN_le {p : Nat → Bool} {r : Nat} : ∀ j n, n ≤ rlN p r j n ∧ rlN p r j n ≤ n + j ∧ (∀ i, n ≤ i → i < rlN p r j n → p ((r + i) % 168) = true) ∧ (rlN p r j n = n + j ∨ ¬ p ((r + rlN p r j n) % 168) = true)
  | 0, n => ⟨Nat.le_refl _, Nat.le_refl _, fun i h1 h2 => by have : i < n := h2; omega, Or.inl rfl⟩
  | j + 1, n => by
    unfold rlN
    by_cases e : p ((r + n) % 168) = true
    · rw [if_pos e]
      obtain ⟨a, b, c, d⟩ := rlN_le (p := p) (r := r) j (n + 1)
      refine ⟨by omega, by omega, fun i h1 h2 => ?_, ?_⟩
      · by_cases q : i = n
        · subst q; exact e
        · exact c i (by omega) h2
      · rcases d with d | d
        · exact Or.inl (by omega)
        · exact Or.inr d
    · rw [if_neg e]
      exact ⟨Nat.le_refl _, by omega, fun i h1 h2 => by omega, Or.inr e⟩
def rR (p : Nat → Bool) (s l : Nat) : Prop := ∀ j, j < l → p ((s + j) % 168) = true
theorem rl_R {p : Nat → Bool} {r : Nat} : rR p r (rl p r) := fun j hj => (rlN_le 168 0).2.2.1 j (Nat.zero_le _) hj
theorem rl_168 {p : Nat → Bool} {r : Nat} : rl p r ≤ 168 := by have := (rlN_le (p := p) (r := r) 168 0).2.1; unfold rl; omega
theorem rl_max {p : Nat → Bool} {r l : Nat} (h : rR p r l) (hl : l ≤ 168) : l ≤ rl p r := by
  rcases (rlN_le (p := p) (r := r) 168 0).2.2.2 with d | d
  · unfold rl; omega
  · by_cases q : l ≤ rl p r
    · exact q
    · exact absurd (h (rl p r) (by omega)) d
theorem lr_inv {p : Nat → Bool} : ∀ n, (lrS p n).2.2 ≤ n ∧ rR p (n - (lrS p n).2.2) (lrS p n).2.2 ∧ ((lrS p n).2.2 = n ∨ ¬ p ((n - (lrS p n).2.2 - 1) % 168) = true)
    ∧ (∀ s l, rR p s l → s + l ≤ n → l ≤ 168 → l ≤ (lrS p n).1) ∧ ((lrS p n).2.2 ≤ (lrS p n).1 ∨ 168 ≤ (lrS p n).1)
    ∧ (((lrS p n).1 = 0 ∧ (lrS p n).2.1 = -1) ∨ ∃ s, (lrS p n).2.1 = nI s ∧ 0 < (lrS p n).1 ∧ (lrS p n).1 ≤ 168 ∧ rR p s (lrS p n).1 ∧ s + (lrS p n).1 ≤ n ∧ ∀ s', s' < s → ¬ rR p s' (lrS p n).1)
  | 0 => by
    refine ⟨Nat.le_refl _, fun j hj => by have : j < 0 := hj; omega, Or.inl rfl, fun s l _ h _ => by show l ≤ 0; omega, Or.inl (Nat.le_refl _), Or.inl ⟨rfl, rfl⟩⟩
  | n + 1 => by
    obtain ⟨h1, h2, h3, h4, h5, h6⟩ := lr_inv (p := p) n
    generalize hL : (if p (n % 168) = true then (lrS p n).2.2 + 1 else 0) = l
    have hl : l ≤ n + 1 := by rw [← hL]; split <;> omega
    have hR : rR p (n + 1 - l) l := by
      by_cases e : p (n % 168) = true
      · rw [if_pos e] at hL
        subst hL
        rw [show n + 1 - ((lrS p n).2.2 + 1) = n - (lrS p n).2.2 by omega]
        intro j hj
        by_cases q : j < (lrS p n).2.2
        · exact h2 j q
        · rw [show n - (lrS p n).2.2 + j = n by omega]; exact e
      · rw [if_neg e] at hL
        subst hL
        intro j hj; omega
    have hM : l = n + 1 ∨ ¬ p ((n + 1 - l - 1) % 168) = true := by
      by_cases e : p (n % 168) = true
      · rw [if_pos e] at hL
        subst hL
        rcases h3 with q | q
        · exact Or.inl (by omega)
        · refine Or.inr ?_
          rw [show n + 1 - ((lrS p n).2.2 + 1) - 1 = n - (lrS p n).2.2 - 1 by omega]; exact q
      · rw [if_neg e] at hL
        subst hL
        exact Or.inr e
    have hu : ∀ s l', rR p s l' → s + l' = n + 1 → l' ≤ l := by
      intro s l' hr hs
      by_cases q : l' ≤ l
      · exact q
      · rcases hM with z | z
        · omega
        · refine absurd (hr (n + 1 - l - 1 - s) (by omega)) ?_
          rw [show s + (n + 1 - l - 1 - s) = n + 1 - l - 1 by omega]; exact z
    have hE : lrS p (n + 1) = if (lrS p n).1 < l ∧ l ≤ 168 then (l, nI (n + 1 - l), l) else ((lrS p n).1, (lrS p n).2.1, l) := by rw [← hL]; rfl
    by_cases c : (lrS p n).1 < l ∧ l ≤ 168
    · rw [if_pos c] at hE
      rw [hE]
      refine ⟨hl, hR, hM, ?_, Or.inl (Nat.le_refl _), Or.inr ⟨n + 1 - l, rfl, by show 0 < l; omega, c.2, hR, by show n + 1 - l + l ≤ n + 1; omega, ?_⟩⟩
      · intro s l' hr hs h8
        show l' ≤ l
        by_cases q : s + l' = n + 1
        · exact hu s l' hr q
        · have := h4 s l' hr (by omega) h8; omega
      · intro s' hs' hr
        have hr : rR p s' l := hr
        have := h4 s' l hr (by omega) c.2
        omega
    · rw [if_neg c] at hE
      rw [hE]
      refine ⟨hl, hR, hM, ?_, ?_, ?_⟩
      · intro s l' hr hs h8
        show l' ≤ (lrS p n).1
        by_cases q : s + l' = n + 1
        · have := hu s l' hr q
          by_cases z : l ≤ 168
          · omega
          · have h9 : l = (lrS p n).2.2 + 1 := by
              by_cases e : p (n % 168) = true
              · rw [if_pos e] at hL; omega
              · rw [if_neg e] at hL; omega
            clear h6
            omega
        · exact h4 s l' hr (by omega) h8
      · show l ≤ (lrS p n).1 ∨ 168 ≤ (lrS p n).1
        by_cases z : l ≤ 168
        · exact Or.inl (by omega)
        · have h9 : l = (lrS p n).2.2 + 1 := by
            by_cases e : p (n % 168) = true
            · rw [if_pos e] at hL; omega
            · rw [if_neg e] at hL; omega
          exact Or.inr (by clear h6; omega)
      · rcases h6 with ⟨a, b⟩ | ⟨s, a, b0, b, c1, d, e⟩
        · exact Or.inl ⟨a, b⟩
        · exact Or.inr ⟨s, a, b0, b, c1, by show s + (lrS p n).1 ≤ n + 1; omega, e⟩
theorem mr_A {F : Nat → Nat} {m : Nat} (hm : m < 2 ^ 31) : ∀ k, (∀ r, r < k → F r < m) → 0 < m → ∃ x, x < m ∧ (mrF (fun r => nI (F r)) k).1 = nI x
  | 0, _, h0 => ⟨0, h0, rfl⟩
  | k + 1, h, h0 => by
    obtain ⟨x, hx, e⟩ := mr_A hm k (fun r hr => h r (by omega)) h0
    unfold mrF
    split
    · exact ⟨F k, h k (by omega), rfl⟩
    · exact ⟨x, hx, e⟩
theorem mr_B {F : Nat → Nat} {m s : Nat} (hm : m < 2 ^ 31) (h0 : 0 < m) (hs : F s = m) (hl : ∀ r, r < s → F r < m) : ∀ k, s < k → (∀ r, r < k → F r ≤ m) → mrF (fun r => nI (F r)) k = (nI m, nI s)
  | 0, h, _ => by omega
  | k + 1, h, hu => by
    by_cases e : k = s
    · subst e
      obtain ⟨x, hx, ex⟩ := mr_A hm k hl h0
      unfold mrF
      rw [if_pos (by rw [ex]; show nI x < nI (F k); rw [hs]; exact (nI_ltI (by omega) (by omega)).mpr hx), hs]
    · have ih := mr_B hm h0 hs hl k (by omega) (fun r hr => hu r (by omega))
      unfold mrF
      rw [ih, if_neg]
      intro q
      have := lt_n (by omega) (by have := hu k (by omega); omega) (show nI m < nI (F k) from q)
      have := hu k (by omega)
      omega
theorem mr_C {F : Nat → Nat} : ∀ k, (∀ r, r < k → F r = 0) → mrF (fun r => nI (F r)) k = (nI 0, -1)
  | 0, _ => rfl
  | k + 1, h => by
    have ih := mr_C k (fun r hr => h r (by omega))
    unfold mrF
    rw [ih, if_neg]
    rw [h k (by omega)]
    exact Int32.lt_irrefl
/-- the longest row: both ways to find it -/
theorem lr_eq {p : Nat → Bool} : (nI (lrS p 336).1, (lrS p 336).2.1) = mrF (fun r => nI (rl p r)) 168 := by
  obtain ⟨-, -, -, h4, -, h6⟩ := lr_inv (p := p) 336
  have hu : ∀ r, r < 168 → rl p r ≤ (lrS p 336).1 := fun r hr => h4 r (rl p r) rl_R (by have := rl_168 (p := p) (r := r); omega) rl_168
  rcases h6 with ⟨a, b⟩ | ⟨s, a, b0, b, c1, d, e⟩
  · rw [mr_C 168 (fun r hr => by have := hu r hr; omega), a, b]
  · have hs : s < 168 := by
      by_cases q : s < 168
      · exact q
      · exfalso
        refine e (s - 168) (by omega) (fun j hj => ?_)
        have := c1 j hj
        rw [show s + j = (s - 168 + j) + 168 by omega, Nat.add_mod_right] at this
        exact this
    have h1 : rl p s = (lrS p 336).1 := by
      have := rl_max c1 b
      have := hu s hs
      omega
    rw [a, mr_B (m := (lrS p 336).1) (by omega) b0 h1 (fun r hr => by
      have h2 := hu r (by omega)
      by_cases q : rl p r = (lrS p 336).1
      · exact absurd (by rw [← q]; exact rl_R) (e r hr)
      · omega) 168 hs hu]
theorem rl_cong {p q : Nat → Bool} {r : Nat} (h : ∀ k, k < 168 → p k = q k) : rl p r = rl q r := by
  have : ∀ j n, rlN p r j n = rlN q r j n := by
    intro j
    induction j with
    | zero => intro n; rfl
    | succ j ih => intro n; unfold rlN; rw [h _ (Nat.mod_lt _ (by omega)), ih]
  exact this 168 0
