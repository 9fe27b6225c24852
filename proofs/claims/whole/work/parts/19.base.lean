/-! small words for what methods answer -/
theorem g_cv {E : EE} {X : XX} {Q : State → Prop} {nL n pc : Nat} {ls ls2 : List (Nat × Value)} {st : List Value} {u u2 : Sto} (hl : ls = ls2) (hu : u = u2) (kk : G E X Q nL n pc ls2 st u2) : G E X Q nL n pc ls st u := hl ▸ hu ▸ kk
theorem inc1 (k : Nat) : nI k + Int32.ofInt 1 = nI (k + 1) := nI_1 k
theorem ofI1 : Int32.ofInt 1 = 1 := by decide
theorem i0 : (0 : Int32) = nI 0 := rfl
theorem i1 : (1 : Int32) = nI 1 := rfl
def b2 (p : Prop) [Decidable p] : Int32 := if p then nI 1 else nI 0
theorem b2_t {p : Prop} [Decidable p] (h : p) : b2 p = nI 1 := by simp [b2, h]
theorem b2_f {p : Prop} [Decidable p] (h : ¬ p) : b2 p = nI 0 := by simp [b2, h]
theorem b2_01 (p : Prop) [Decidable p] : b2 p = 0 ∨ b2 p = 1 := by
  by_cases h : p
  · exact Or.inr (by rw [b2_t h]; rfl)
  · exact Or.inl (by rw [b2_f h]; rfl)
theorem b2_0 {p : Prop} [Decidable p] : b2 p = 0 ↔ ¬ p := by
  by_cases h : p
  · rw [b2_t h]; exact ⟨fun q => absurd q (by decide), fun q => absurd h q⟩
  · rw [b2_f h]; exact ⟨fun _ => h, fun _ => rfl⟩
theorem b2_n0 {p : Prop} [Decidable p] : ¬ b2 p = 0 ↔ p := by rw [b2_0]; exact Decidable.not_not
def aft (r : Nat) : Nat := if r + 1 < 168 then r + 1 else 0
def bef (r : Nat) : Nat := if 0 < r then r - 1 else 167
theorem aft_lt (r : Nat) : aft r < 168 := by unfold aft; split <;> omega
theorem bef_lt {r : Nat} (h : r < 168) : bef r < 168 := by unfold bef; split <;> omega
abbrev ix (x : Int32) : Nat := x.toNatClampNeg
theorem ix_nI {a : Nat} (h : a < 2 ^ 31) : ix (nI a) = a := nI_clamp h
/-- nobody, or one of n -/
def tn (x : Int32) (n : Nat) : Prop := x = -1 ∨ ∃ a, a < n ∧ x = nI a
theorem nI_m1 {a : Nat} (h : a < 2 ^ 31) : ¬ nI a = -1 := fun q => by
  have h1 : (nI a).toInt = (-1 : Int32).toInt := by rw [q]
  rw [nI_toInt h] at h1
  have h2 : (-1 : Int32).toInt = -1 := by decide
  omega
theorem nI_inj {a b : Nat} (ha : a < 2 ^ 31) (hb : b < 2 ^ 31) : nI a = nI b ↔ a = b := nI_eq ha hb
def ctI (p : Nat → Bool) : Nat → Int32
  | 0 => 0
  | n + 1 => if p n = true then ctI p n + 1 else ctI p n
def smI (f : Nat → Int32) : Nat → Int32
  | 0 => 0
  | n + 1 => smI f n + f n
theorem ctI_cong {p q : Nat → Bool} : ∀ {n : Nat}, (∀ k, k < n → p k = q k) → ctI p n = ctI q n
  | 0, _ => rfl
  | n + 1, h => by rw [ctI, ctI, ctI_cong (fun k hk => h k (by omega)), h n (by omega)]
theorem smI_cong {p q : Nat → Int32} : ∀ {n : Nat}, (∀ k, k < n → p k = q k) → smI p n = smI q n
  | 0, _ => rfl
  | n + 1, h => by rw [smI, smI, smI_cong (fun k hk => h k (by omega)), h n (by omega)]
theorem le_n {a b : Nat} (ha : a < 2 ^ 31) (hb : b < 2 ^ 31) (h : nI a ≤ nI b) : a ≤ b := (nI_leI ha hb).mp h
theorem nle_n {a b : Nat} (ha : a < 2 ^ 31) (hb : b < 2 ^ 31) (h : ¬ nI a ≤ nI b) : b < a := Nat.lt_of_not_le (fun q => h ((nI_leI ha hb).mpr q))
theorem lt_n {a b : Nat} (ha : a < 2 ^ 31) (hb : b < 2 ^ 31) (h : nI a < nI b) : a < b := (nI_ltI ha hb).mp h
theorem nlt_n {a b : Nat} (ha : a < 2 ^ 31) (hb : b < 2 ^ 31) (h : ¬ nI a < nI b) : b ≤ a := Nat.le_of_not_lt (fun q => h ((nI_ltI ha hb).mpr q))
theorem eq_n {a b : Nat} (ha : a < 2 ^ 31) (hb : b < 2 ^ 31) (h : nI a = nI b) : a = b := (nI_eq ha hb).mp h
theorem ne_n {a b : Nat} (h : ¬ nI a = nI b) : ¬ a = b := fun q => h (by rw [q])
