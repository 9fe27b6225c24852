-- after: 9o.os
theorem ad_ti {x y : Int32} {a b : Int} (hx : x.toInt = a) (hy : y.toInt = b) (h : -1000000 ≤ a + b) (h2 : a + b ≤ 1000000) : (x + y).toInt = a + b := by
  rw [Int32.toInt_add, hx, hy, Int.bmod_eq_of_le (by omega) (by omega)]
theorem m1_ti : (-1 : Int32).toInt = -1 := by decide
theorem ng_ti {n : Nat} (h : n ≤ 1000) : (-(nI n)).toInt = -(n : Int) := by
  rw [Int32.toInt_neg, nI_toInt (by omega), Int.bmod_eq_of_le (by omega) (by omega)]
theorem nI_an {a b : Nat} (ha : a < 2 ^ 31) (hb : b < 2 ^ 31) : nI a &&& nI b = nI (a &&& b) := bt_ext (fun k hk => by rw [bt_and, bt_nI hk, bt_nI hk, bt_nI hk, Nat.testBit_and])
theorem and_z {a b : Nat} (ha : a < 2 ^ 31) (hb : b < 2 ^ 31) : ¬ nI a &&& nI b = 0 ↔ mtP2 a b := by
  rw [nI_an ha hb, ← mt_iff]
  have hl : a &&& b < 2 ^ 31 := Nat.lt_of_le_of_lt Nat.and_le_left ha
  exact ⟨fun h q => h (by rw [q]; rfl), fun h q => h (eq_n hl (by omega) (show nI (a &&& b) = nI 0 from q))⟩
theorem one_p {w : Nat} (hw : w < 8) : one w = nI (2 ^ w) := by
  have : w = 0 ∨ w = 1 ∨ w = 2 ∨ w = 3 ∨ w = 4 ∨ w = 5 ∨ w = 6 ∨ w = 7 := by omega
  rcases this with rfl | rfl | rfl | rfl | rfl | rfl | rfl | rfl <;> decide
theorem mt_p {S w : Nat} : mtP2 S (2 ^ w) ↔ S.testBit w = true := by
  constructor
  · rintro ⟨i, h1, h2⟩
    rw [Nat.testBit_two_pow] at h2
    have := of_decide_eq_true h2
    rw [this]; exact h1
  · intro h
    exact ⟨w, h, by rw [Nat.testBit_two_pow]; exact decide_eq_true rfl⟩
theorem pw_8 {W : Nat} (h : W ≤ 8) : 2 ^ W ≤ 256 := Nat.le_trans (Nat.pow_le_pow_right (by omega) h) (by decide)
theorem wf_n {v : Sto} {r : Nat} : ∀ k, k ≤ 8 → ∃ m, m < 2 ^ k ∧ wfF v r k = nI m
  | 0, _ => ⟨0, by decide, rfl⟩
  | k + 1, hk => by
    obtain ⟨m, hm, e⟩ := wf_n (v := v) (r := r) k (by omega)
    have hp : 2 ^ (k + 1) = 2 * 2 ^ k := by rw [Nat.pow_succ]; omega
    unfold wfF
    split
    · exact ⟨m + 2 ^ k, by omega, by rw [e]; exact gu_1 k (by omega) m hm⟩
    · exact ⟨m, by omega, e⟩
def mkN (v : Sto) (W r : Nat) : Nat := ix (ftI v W r)
theorem ft_n {v : Sto} {W r : Nat} (hW : W ≤ 8) : ftI v W r = nI (mkN v W r) ∧ mkN v W r < 2 ^ W := by
  have h8 := pw_8 hW
  unfold mkN ftI
  split
  · obtain ⟨m, hm, e⟩ := wf_n (v := v) (r := r) W hW
    rw [e, ix_nI (by omega)]; exact ⟨rfl, hm⟩
  · rw [ix_nI (by omega)]; exact ⟨rfl, Nat.two_pow_pos _⟩
theorem sp_ti {f : Nat → Int32} {m n S : Nat} {b : Int32} {B : Int} {F : Nat → Int} (hm : m < 2 ^ 31) (hn : n < 2 ^ 31) (hS : S < n) (hf : (f S).toInt = F S) (hb : b.toInt = B) (h1 : -1000000 ≤ F S + B) (h2 : F S + B ≤ 1000000) : (spF f (nI m) b n S).toInt = F S + (indN S m : Int) * B := by
  unfold spF
  by_cases c : mtP2 S m
  · rw [if_pos ⟨hS, (and_z (by omega) hm).mpr c⟩, ind_1 c, ad_ti hf hb h1 h2]; omega
  · rw [if_neg (fun q => c ((and_z (by omega) hm).mp q.2)), ind_0 c, hf]; omega
def lw0 (v : Sto) (w : Nat) : Nat := ix (v 16 w)
theorem ws_20 {l : Nat → Nat} {S : Nat} : ∀ n, (∀ w, w < n → l w ≤ 20) → wsN l S n ≤ 20 * n
  | 0, _ => Nat.le_refl _
  | n + 1, h => by
    have h1 := ws_20 (l := l) (S := S) n (fun w hw => h w (by omega))
    have h2 := h n (by omega)
    show wsN l S n + _ ≤ _
    split <;> omega
theorem to_20 {l : Nat → Nat} : ∀ n, (∀ w, w < n → l w ≤ 20) → toN l n ≤ 20 * n
  | 0, _ => Nat.le_refl _
  | n + 1, h => by
    have h1 := to_20 (l := l) n (fun w hw => h w (by omega))
    have h2 := h n (by omega)
    show toN l n + _ ≤ _
    omega
theorem s1_ti {v : Sto} {W S : Nat} (hW : W ≤ 8) (hS : S < 2 ^ W) (hl : ∀ w, w < W → v 16 w = nI (lw0 v w) ∧ lw0 v w ≤ 20) : ∀ k, k ≤ W → (s1F v (2 ^ W) k S).toInt = -(wsN (lw0 v) S k : Int)
  | 0, _ => by
    have h8 := pw_8 hW
    show (flF (fun _ => 0) (nI 0) 256 S).toInt = _
    unfold flF
    rw [if_pos (by omega)]; rfl
  | k + 1, hk => by
    have h8 := pw_8 hW
    have ih := s1_ti hW hS hl k (by omega)
    have h1 := hl k (by omega)
    have h2 := ws_20 (l := lw0 v) (S := S) k (fun w hw => (hl w (by omega)).2)
    have hp : 2 ^ k ≤ 256 := pw_8 (by omega)
    show (spF (s1F v (2 ^ W) k) (one k) (-(v 16 k)) (2 ^ W) S).toInt = -((wsN (lw0 v) S k + _ : Nat) : Int)
    rw [one_p (by omega), h1.1, sp_ti (F := fun S => -(wsN (lw0 v) S k : Int)) (B := -(lw0 v k : Int)) (by omega) (by omega) hS ih (ng_ti (by omega)) (by omega) (by omega)]
    by_cases c : S.testBit k = true
    · rw [ind_1 (mt_p.mpr c), if_pos c]; omega
    · rw [ind_0 (fun q => c (mt_p.mp q)), if_neg c]; omega
theorem cov_e {mN : Nat → Nat} {S : Nat} : ∀ n k, covN mN S (n + 1) k = covN mN S n k + indN S (mN (k + n))
  | 0, k => by show indN S (mN k) + 0 = 0 + indN S (mN k); omega
  | n + 1, k => by
    have ih := cov_e (mN := mN) (S := S) n (k + 1)
    show indN S (mN k) + covN mN S (n + 1) (k + 1) = indN S (mN k) + covN mN S n (k + 1) + indN S (mN (k + (n + 1)))
    rw [ih, show k + 1 + n = k + (n + 1) by omega]; omega
theorem s2_ti {v : Sto} {W S : Nat} (hW : W ≤ 8) (hS : S < 2 ^ W) (hl : ∀ w, w < W → v 16 w = nI (lw0 v w) ∧ lw0 v w ≤ 20) : ∀ k, k ≤ 168 → (s2F v (2 ^ W) W k S).toInt = (covN (mkN v W) S k 0 : Int) - (wsN (lw0 v) S W : Int)
  | 0, _ => by
    show (s1F v (2 ^ W) W S).toInt = ((0 : Nat) : Int) - _
    rw [s1_ti hW hS hl W (Nat.le_refl _)]; omega
  | k + 1, hk => by
    have h8 := pw_8 hW
    have ih := s2_ti hW hS hl k (by omega)
    have hf := ft_n (v := v) (r := k) hW
    have h2 := ws_20 (l := lw0 v) (S := S) W (fun w hw => (hl w (by omega)).2)
    have h3 := cov_le (mN := mkN v W) (S := S) k 0
    show (spF (s2F v (2 ^ W) W k) (ftI v W k) (nI 1) (2 ^ W) S).toInt = _
    rw [hf.1, sp_ti (F := fun S => (covN (mkN v W) S k 0 : Int) - (wsN (lw0 v) S W : Int)) (B := 1) (by have := hf.2; omega) (by omega) hS ih (by decide) (by omega) (by omega), cov_e, Nat.zero_add]
    omega
theorem ls_M {f : Nat → Int32} {F : Nat → Int} {N : Nat} (hf : ∀ S, S < N → (f S).toInt = F S) : ∀ n, n ≤ N → ∃ x : Int, (lsF f n).toInt = x ∧ x ≤ 0 ∧ (∀ S, S < n → x ≤ F S) ∧ (x = 0 ∨ ∃ S, S < n ∧ F S = x)
  | 0, _ => ⟨0, by show (nI 0).toInt = 0; decide, Int.le_refl _, fun S hS => absurd hS (Nat.not_lt_zero _), Or.inl rfl⟩
  | n + 1, hn => by
    obtain ⟨x, h1, h2, h3, h4⟩ := ls_M hf n (by omega)
    have h5 := hf n (by omega)
    show ∃ x : Int, (mnI (lsF f n) (f n)).toInt = x ∧ _
    unfold mnI
    by_cases c : f n < lsF f n
    · rw [if_pos c]
      have c2 := Int32.lt_iff_toInt_lt.mp c
      refine ⟨F n, h5, by omega, fun S hS => ?_, Or.inr ⟨n, by omega, rfl⟩⟩
      by_cases z : S = n
      · rw [z]; exact Int.le_refl _
      · have := h3 S (by omega); omega
    · rw [if_neg c]
      have c2 : ¬ (f n).toInt < (lsF f n).toInt := fun q => c (Int32.lt_iff_toInt_lt.mpr q)
      refine ⟨x, h1, h2, fun S hS => ?_, ?_⟩
      · by_cases z : S = n
        · rw [z]; omega
        · exact h3 S (by omega)
      · rcases h4 with h4 | ⟨S, hS, h4⟩
        · exact Or.inl h4
        · exact Or.inr ⟨S, by omega, h4⟩
theorem op_bt {f : Nat → Int32} {w l : Int32} {i : Nat} (hi : i < 32) : ∀ n, (btB (opF f w l n) i = true ↔ btB w i = true ∧ ∀ S, S < n → (f S = l ∧ ¬ nI S &&& w = 0) → S.testBit i = true)
  | 0 => ⟨fun h => ⟨h, fun S hS => absurd hS (Nat.not_lt_zero _)⟩, fun h => h.1⟩
  | n + 1 => by
    have ih := op_bt (f := f) (w := w) (l := l) hi n
    unfold opF
    by_cases c : f n = l ∧ ¬ nI n &&& w = 0
    · rw [if_pos c, bt_and, Bool.and_eq_true, ih, bt_nI hi]
      constructor
      · rintro ⟨⟨a, b⟩, d⟩
        refine ⟨a, fun S hS q => ?_⟩
        by_cases z : S = n
        · rw [z]; exact d
        · exact b S (by omega) q
      · rintro ⟨a, b⟩
        exact ⟨⟨a, fun S hS q => b S (by omega) q⟩, b n (by omega) c⟩
    · rw [if_neg c, ih]
      constructor
      · rintro ⟨a, b⟩
        refine ⟨a, fun S hS q => ?_⟩
        by_cases z : S = n
        · subst z; exact absurd q c
        · exact b S (by omega) q
      · rintro ⟨a, b⟩
        exact ⟨a, fun S hS q => b S (by omega) q⟩
def cvK (v : Sto) (W k S : Nat) : Nat := covN (mkN v W) S (168 - k) k
theorem cv_s {v : Sto} {W k : Nat} (hk : k < 168) (S : Nat) : cvK v W k S = indN S (mkN v W k) + cvK v W (k + 1) S := by
  unfold cvK
  rw [show 168 - k = (168 - (k + 1)) + 1 by omega]; rfl
/-- one of the wants can have the room k with nothing lost -/
def Qw (v : Sto) (W k : Nat) (l : Nat → Nat) (L : Int) (w : Nat) : Prop := (mkN v W k).testBit w = true ∧ 0 < l w ∧ ∀ S, S < 2 ^ W → sI (cvK v W k) l W S = L → mtP2 S (mkN v W k) → S.testBit w = true
/-- where the class stands ahead of the room k -/
def FS (v : Sto) (W k : Nat) (l : Nat → Nat) (L : Int) : Prop := (∀ w, w < W → (fiS v W (fiL v W) k).1 w = nI (l w) ∧ l w ≤ 20) ∧ (∀ S, S < 2 ^ W → ((fiS v W (fiL v W) k).2.1 S).toInt = sI (cvK v W k) l W S) ∧ Mn (cvK v W k) l W L ∧ toN l W + (fiS v W (fiL v W) k).2.2 = toN (lw0 v) W
theorem frs_iff {p : Nat → Bool} {f : Nat → Int32} : ∀ n k, (frs p f n k = -1 ∧ (∀ i, k ≤ i → i < k + n → f i ≠ -1) → ∀ i, k ≤ i → i < k + n → ¬ p i = true)
  | 0, k, _, i, h1, h2 => by omega
  | n + 1, k, ⟨h, hf⟩, i, h1, h2 => by
    have e : frs p f (n + 1) k = if p k = true then f k else frs p f n (k + 1) := rfl
    rw [e] at h
    split at h
    · exact absurd h (hf k (Nat.le_refl _) (by omega))
    · rename_i c
      by_cases z : i = k
      · rw [z]; exact c
      · exact frs_iff n (k + 1) ⟨h, fun i a b => hf i (by omega) (by omega)⟩ i (by omega) (by omega)
theorem frs_w {p : Nat → Bool} : ∀ n k, k + n ≤ 2 ^ 30 → frs p nI n k = -1 ∨ ∃ w, k ≤ w ∧ w < k + n ∧ frs p nI n k = nI w ∧ p w = true ∧ ∀ i, k ≤ i → i < w → ¬ p i = true
  | 0, k, _ => Or.inl rfl
  | n + 1, k, hb => by
    have e : frs p nI (n + 1) k = if p k = true then nI k else frs p nI n (k + 1) := rfl
    rw [e]
    by_cases c : p k = true
    · rw [if_pos c]; exact Or.inr ⟨k, by omega, by omega, rfl, c, fun i a b => by omega⟩
    · rw [if_neg c]
      rcases frs_w (p := p) n (k + 1) (by omega) with h | ⟨w, h1, h2, h3, h4, h5⟩
      · exact Or.inl h
      · refine Or.inr ⟨w, by omega, by omega, h3, h4, fun i a b => ?_⟩
        by_cases z : i = k
        · rw [z]; exact c
        · exact h5 i (by omega) b
