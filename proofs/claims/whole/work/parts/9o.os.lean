-- after: 9n.or
/-! wants that are fitted in: what both ways have in common -/
def mtP2 (A m : Nat) : Prop := ∃ i, A.testBit i = true ∧ m.testBit i = true
theorem nz_bit {x : Nat} (h : ¬ x = 0) : ∃ i, x.testBit i = true := by
  refine Classical.byContradiction (fun q => h (Nat.eq_of_testBit_eq (fun i => ?_)))
  rw [Nat.zero_testBit]
  exact Bool.eq_false_iff.mpr (fun z => q ⟨i, z⟩)
theorem mt_iff {A m : Nat} : ¬ A &&& m = 0 ↔ mtP2 A m := by
  constructor
  · intro h
    obtain ⟨i, hi⟩ := nz_bit h
    rw [Nat.testBit_and, Bool.and_eq_true] at hi
    exact ⟨i, hi⟩
  · rintro ⟨i, h1, h2⟩ q
    have : (A &&& m).testBit i = true := by rw [Nat.testBit_and, h1, h2]; rfl
    rw [q, Nat.zero_testBit] at this
    exact absurd this (by decide)
def indN (S m : Nat) : Nat := if S &&& m = 0 then 0 else 1
theorem ind_1 {S m : Nat} (h : mtP2 S m) : indN S m = 1 := if_neg (mt_iff.mpr h)
theorem ind_0 {S m : Nat} (h : ¬ mtP2 S m) : indN S m = 0 := if_pos (Decidable.byContradiction (fun q => h (mt_iff.mp q)))
theorem ind_01 {S m : Nat} : indN S m ≤ 1 := by unfold indN; split <;> omega
theorem ind_mono {A B m : Nat} (h : ∀ i, A.testBit i = true → B.testBit i = true) : indN A m ≤ indN B m := by
  by_cases c : mtP2 A m
  · obtain ⟨i, h1, h2⟩ := c
    rw [ind_1 (S := B) ⟨i, h i h1, h2⟩]; exact ind_01
  · rw [ind_0 c]; exact Nat.zero_le _
theorem ind_or {A B m : Nat} : mtP2 (A ||| B) m ↔ mtP2 A m ∨ mtP2 B m := by
  constructor
  · rintro ⟨i, h1, h2⟩
    rw [Nat.testBit_or, Bool.or_eq_true] at h1
    exact h1.elim (fun q => Or.inl ⟨i, q, h2⟩) (fun q => Or.inr ⟨i, q, h2⟩)
  · rintro (⟨i, h1, h2⟩ | ⟨i, h1, h2⟩)
    · exact ⟨i, by rw [Nat.testBit_or, h1]; rfl, h2⟩
    · exact ⟨i, by rw [Nat.testBit_or, h1, Bool.or_true], h2⟩
theorem ind_sub {A B m : Nat} : indN (A ||| B) m + indN (A &&& B) m ≤ indN A m + indN B m := by
  have h1 := ind_mono (A := A &&& B) (B := A) (m := m) (fun i hi => by rw [Nat.testBit_and, Bool.and_eq_true] at hi; exact hi.1)
  have h2 := ind_mono (A := A &&& B) (B := B) (m := m) (fun i hi => by rw [Nat.testBit_and, Bool.and_eq_true] at hi; exact hi.2)
  by_cases a : mtP2 A m
  · rw [ind_1 a, ind_1 (ind_or.mpr (Or.inl a))]; omega
  · rw [ind_0 a] at h1 ⊢
    by_cases b : mtP2 B m
    · rw [ind_1 b, ind_1 (ind_or.mpr (Or.inr b))]; omega
    · rw [ind_0 (S := A ||| B) (fun q => (ind_or.mp q).elim a b)]; omega
def covN (mN : Nat → Nat) (S : Nat) : Nat → Nat → Nat
  | 0, _ => 0
  | n + 1, k => indN S (mN k) + covN mN S n (k + 1)
theorem cov_sub {mN : Nat → Nat} {A B : Nat} : ∀ n k, covN mN (A ||| B) n k + covN mN (A &&& B) n k ≤ covN mN A n k + covN mN B n k
  | 0, _ => Nat.le_refl _
  | n + 1, k => by
    have h1 := cov_sub (mN := mN) (A := A) (B := B) n (k + 1)
    have h2 := ind_sub (A := A) (B := B) (m := mN k)
    show indN _ _ + covN _ _ _ _ + (indN _ _ + covN _ _ _ _) ≤ indN _ _ + covN _ _ _ _ + (indN _ _ + covN _ _ _ _)
    omega
theorem cov_mono {mN : Nat → Nat} {A B : Nat} (h : ∀ i, A.testBit i = true → B.testBit i = true) : ∀ n k, covN mN A n k ≤ covN mN B n k
  | 0, _ => Nat.le_refl _
  | n + 1, k => by
    have h1 := cov_mono (mN := mN) h n (k + 1)
    have h2 := ind_mono (m := mN k) h
    show indN _ _ + covN _ _ _ _ ≤ indN _ _ + covN _ _ _ _
    omega
theorem cov_le {mN : Nat → Nat} {S : Nat} : ∀ n k, covN mN S n k ≤ n
  | 0, _ => Nat.le_refl _
  | n + 1, k => by
    have h1 := cov_le (mN := mN) (S := S) n (k + 1)
    have h2 := ind_01 (S := S) (m := mN k)
    show indN _ _ + covN _ _ _ _ ≤ n + 1
    omega
def wsN (l : Nat → Nat) (S : Nat) : Nat → Nat
  | 0 => 0
  | w + 1 => wsN l S w + (if S.testBit w = true then l w else 0)
def coN (l : Nat → Nat) (S : Nat) : Nat → Nat
  | 0 => 0
  | w + 1 => coN l S w + (if S.testBit w = true then 0 else l w)
def toN (l : Nat → Nat) : Nat → Nat
  | 0 => 0
  | w + 1 => toN l w + l w
theorem ws_co {l : Nat → Nat} {S : Nat} : ∀ w, wsN l S w + coN l S w = toN l w
  | 0 => rfl
  | w + 1 => by
    have := ws_co (l := l) (S := S) w
    show wsN l S w + _ + (coN l S w + _) = toN l w + l w
    split <;> omega
theorem ws_mod {l : Nat → Nat} {A B : Nat} : ∀ w, wsN l (A ||| B) w + wsN l (A &&& B) w = wsN l A w + wsN l B w
  | 0 => rfl
  | w + 1 => by
    have := ws_mod (l := l) (A := A) (B := B) w
    show wsN l (A ||| B) w + (if (A ||| B).testBit w = true then l w else 0) + (wsN l (A &&& B) w + (if (A &&& B).testBit w = true then l w else 0)) = wsN l A w + (if A.testBit w = true then l w else 0) + (wsN l B w + (if B.testBit w = true then l w else 0))
    rw [Nat.testBit_or, Nat.testBit_and]
    cases A.testBit w <;> cases B.testBit w <;> simp <;> omega
theorem ws_cg {l : Nat → Nat} {A B : Nat} : ∀ w, (∀ i, i < w → (A.testBit i = true ∧ ¬ l i = 0 ↔ B.testBit i = true ∧ ¬ l i = 0)) → wsN l A w = wsN l B w
  | 0, _ => rfl
  | w + 1, h => by
    have h1 := ws_cg (l := l) (A := A) (B := B) w (fun i hi => h i (by omega))
    have h2 := h w (by omega)
    show wsN l A w + _ = wsN l B w + _
    rw [h1]
    by_cases z : l w = 0
    · rw [z]; split <;> split <;> rfl
    · by_cases a : A.testBit w = true
      · rw [if_pos a, if_pos (h2.mp ⟨a, z⟩).1]
      · rw [if_neg a, if_neg (fun q => a (h2.mpr ⟨q, z⟩).1)]
def dcN (l : Nat → Nat) (w : Nat) : Nat → Nat := fun i => if i = w then l w - 1 else l i
theorem dc_w {l : Nat → Nat} {w : Nat} : dcN l w w = l w - 1 := if_pos rfl
theorem dc_n {l : Nat → Nat} {w i : Nat} (h : i ≠ w) : dcN l w i = l i := if_neg h
theorem ws_dc {l : Nat → Nat} {S w : Nat} (hl : 0 < l w) : ∀ n, wsN (dcN l w) S n + (if w < n ∧ S.testBit w = true then 1 else 0) = wsN l S n
  | 0 => by rw [if_neg (by omega)]; rfl
  | n + 1 => by
    have ih := ws_dc (l := l) (S := S) hl n
    show wsN (dcN l w) S n + (if S.testBit n = true then dcN l w n else 0) + (if w < n + 1 ∧ S.testBit w = true then 1 else 0) = wsN l S n + (if S.testBit n = true then l n else 0)
    by_cases e : n = w
    · subst e
      rw [if_neg (show ¬ (n < n ∧ S.testBit n = true) by omega)] at ih
      rw [dc_w]
      by_cases a : S.testBit n = true
      · rw [if_pos (show n < n + 1 ∧ S.testBit n = true from ⟨by omega, a⟩), if_pos a, if_pos a]; omega
      · rw [if_neg (show ¬ (n < n + 1 ∧ S.testBit n = true) from fun q => a q.2), if_neg a, if_neg a]; omega
    · rw [dc_n e]
      by_cases z : w < n ∧ S.testBit w = true
      · rw [if_pos z] at ih
        rw [if_pos (show w < n + 1 ∧ S.testBit w = true from ⟨by omega, z.2⟩)]; omega
      · rw [if_neg z] at ih
        rw [if_neg (show ¬ (w < n + 1 ∧ S.testBit w = true) from fun q => z ⟨by omega, q.2⟩)]; omega
theorem to_dc {l : Nat → Nat} {w : Nat} (hl : 0 < l w) : ∀ n, toN (dcN l w) n + (if w < n then 1 else 0) = toN l n
  | 0 => by rw [if_neg (by omega)]; rfl
  | n + 1 => by
    have ih := to_dc (l := l) hl n
    show toN (dcN l w) n + dcN l w n + _ = toN l n + l n
    unfold dcN
    by_cases e : n = w
    · subst e
      rw [if_neg (by omega)] at ih
      rw [if_pos rfl, if_pos (by omega)]
      unfold dcN at ih; omega
    · rw [if_neg e]
      by_cases z : w < n
      · rw [if_pos z] at ih
        rw [if_pos (by omega)]
        unfold dcN at ih; omega
      · rw [if_neg z] at ih
        rw [if_neg (by omega)]
        unfold dcN at ih; omega
/-- what a set has to spare -/
def sI (c : Nat → Nat) (l : Nat → Nat) (W S : Nat) : Int := (c S : Int) - (wsN l S W : Int)
def Mn (c : Nat → Nat) (l : Nat → Nat) (W : Nat) (L : Int) : Prop := (∀ S, S < 2 ^ W → L ≤ sI c l W S) ∧ ∃ S, S < 2 ^ W ∧ sI c l W S = L
section FIT
variable {c c' : Nat → Nat} {l : Nat → Nat} {W m : Nat} {L : Int}
theorem fit_A (hc : ∀ S, c S = indN S m + c' S) (hs : ∀ A B, c' (A ||| B) + c' (A &&& B) ≤ c' A + c' B) (hM : Mn c l W L) {A B : Nat} (hA : A < 2 ^ W) (hB : B < 2 ^ W) (tA : sI c l W A = L) (tB : sI c l W B = L) (mA : mtP2 A m) (mB : mtP2 B m) : sI c l W (A &&& B) = L ∧ mtP2 (A &&& B) m := by
  have h1 := hM.1 (A ||| B) (Nat.or_lt_two_pow hA hB)
  have h2 := hM.1 (A &&& B) (Nat.lt_of_le_of_lt Nat.and_le_left hA)
  have h3 := ws_mod (l := l) (A := A) (B := B) W
  have h4 := hs A B
  unfold sI at *
  rw [hc] at *
  have e1 := ind_1 mA
  have e2 := ind_1 mB
  have e3 := ind_1 (ind_or.mpr (Or.inl mA) : mtP2 (A ||| B) m)
  have hcA := hc A
  have hcB := hc B
  have hcO := hc (A ||| B)
  have hcI := hc (A &&& B)
  by_cases q : mtP2 (A &&& B) m
  · have e4 := ind_1 q
    exact ⟨by omega, q⟩
  · have e4 := ind_0 q
    exfalso; omega
theorem fit_I (hc : ∀ S, c S = indN S m + c' S) (hs : ∀ A B, c' (A ||| B) + c' (A &&& B) ≤ c' A + c' B) (hM : Mn c l W L) {S0 : Nat} (h0 : S0 < 2 ^ W) (t0 : sI c l W S0 = L) (m0 : mtP2 S0 m) : ∀ n, n ≤ 2 ^ W → ∃ I, I < 2 ^ W ∧ sI c l W I = L ∧ mtP2 I m ∧ ∀ S, S < n → sI c l W S = L → mtP2 S m → ∀ i, I.testBit i = true → S.testBit i = true
  | 0, _ => ⟨S0, h0, t0, m0, fun S hS => absurd hS (Nat.not_lt_zero _)⟩
  | n + 1, hn => by
    obtain ⟨I, h1, h2, h3, h4⟩ := fit_I hc hs hM h0 t0 m0 n (by omega)
    by_cases q : sI c l W n = L ∧ mtP2 n m
    · have := fit_A hc hs hM h1 (by omega) h2 q.1 h3 q.2
      refine ⟨I &&& n, Nat.lt_of_le_of_lt Nat.and_le_left h1, this.1, this.2, fun S hS tS mS i hi => ?_⟩
      rw [Nat.testBit_and, Bool.and_eq_true] at hi
      by_cases z : S = n
      · rw [z]; exact hi.2
      · exact h4 S (by omega) tS mS i hi.1
    · refine ⟨I, h1, h2, h3, fun S hS tS mS i hi => ?_⟩
      by_cases z : S = n
      · subst z; exact absurd ⟨tS, mS⟩ q
      · exact h4 S (by omega) tS mS i hi
theorem bit_W {S W i : Nat} (h : S < 2 ^ W) (hi : S.testBit i = true) : i < W := by
  by_cases q : i < W
  · exact q
  · rw [tb_f h (by omega)] at hi; exact absurd hi (by decide)
/-- where a set without more to spare has the room, one of its wants can have it -/
theorem fit_B (hc : ∀ S, c S = indN S m + c' S) (hs : ∀ A B, c' (A ||| B) + c' (A &&& B) ≤ c' A + c' B) (hm : ∀ A B, (∀ i, A.testBit i = true → B.testBit i = true) → c' A ≤ c' B) (hM : Mn c l W L) (h : ∃ S, S < 2 ^ W ∧ sI c l W S = L ∧ mtP2 S m) : ∃ w, w < W ∧ m.testBit w = true ∧ 0 < l w ∧ ∀ S, S < 2 ^ W → sI c l W S = L → mtP2 S m → S.testBit w = true := by
  obtain ⟨S0, h0, t0, m0⟩ := h
  obtain ⟨I, h1, h2, h3, h4⟩ := fit_I hc hs hM h0 t0 m0 (2 ^ W) (Nat.le_refl _)
  refine Classical.byContradiction (fun q => ?_)
  have hz : ∀ w, I.testBit w = true → m.testBit w = true → l w = 0 := fun w a b => by
    refine Classical.byContradiction (fun z => q ⟨w, bit_W h1 a, b, by omega, fun S hS tS mS => h4 S hS tS mS w a⟩)
  have hD : (I &&& (I ^^^ (I &&& m))) < 2 ^ W := Nat.lt_of_le_of_lt Nat.and_le_left h1
  have hb : ∀ i, (I &&& (I ^^^ (I &&& m))).testBit i = (I.testBit i && !m.testBit i) := fun i => by
    rw [Nat.testBit_and, Nat.testBit_xor, Nat.testBit_and]
    cases I.testBit i <;> cases m.testBit i <;> rfl
  have h5 := hM.1 _ hD
  have h6 : wsN l (I &&& (I ^^^ (I &&& m))) W = wsN l I W := ws_cg W (fun i _ => by
    rw [hb, Bool.and_eq_true]
    constructor
    · exact fun z => ⟨z.1.1, z.2⟩
    · intro z
      refine ⟨⟨z.1, ?_⟩, z.2⟩
      cases e : m.testBit i with
      | true => exact absurd (hz i z.1 e) z.2
      | false => rfl)
  have h7 : indN (I &&& (I ^^^ (I &&& m))) m = 0 := ind_0 (fun ⟨i, a, b⟩ => by
    rw [hb, b, Bool.not_true, Bool.and_false] at a; exact absurd a (by decide))
  have h8 := hm (I &&& (I ^^^ (I &&& m))) I (fun i hi => by rw [hb, Bool.and_eq_true] at hi; exact hi.1)
  have h9 := ind_1 h3
  have hcI := hc I
  have hcD := hc (I &&& (I ^^^ (I &&& m)))
  unfold sI at *
  omega
theorem fit_s (hc : ∀ S, c S = indN S m + c' S) {w : Nat} (hw : w < W) (hl : 0 < l w) (S : Nat) : sI c' (dcN l w) W S = sI c l W S - indN S m + (if S.testBit w = true then 1 else 0) := by
  have h1 := ws_dc (l := l) (S := S) hl W
  have h2 := hc S
  unfold sI
  by_cases q : S.testBit w = true
  · rw [if_pos ⟨hw, q⟩] at h1
    rw [if_pos q]; omega
  · rw [if_neg (fun z => q z.2)] at h1
    rw [if_neg q]; omega
theorem fit_C (hc : ∀ S, c S = indN S m + c' S) (hM : Mn c l W L) {w : Nat} (hw : w < W) (hmw : m.testBit w = true) (hl : 0 < l w) : (∀ S, S < 2 ^ W → L ≤ sI c' (dcN l w) W S) ↔ ∀ S, S < 2 ^ W → sI c l W S = L → mtP2 S m → S.testBit w = true := by
  constructor
  · intro h S hS tS mS
    have h1 := h S hS
    rw [fit_s hc hw hl, ind_1 mS, tS] at h1
    by_cases q : S.testBit w = true
    · exact q
    · rw [if_neg q] at h1; omega
  · intro h S hS
    have h1 := hM.1 S hS
    rw [fit_s hc hw hl]
    by_cases mS : mtP2 S m
    · rw [ind_1 mS]
      by_cases q : S.testBit w = true
      · rw [if_pos q]; omega
      · rw [if_neg q]
        have : ¬ sI c l W S = L := fun z => q (h S hS z mS)
        omega
    · rw [ind_0 mS]
      rw [if_neg (fun q => mS ⟨w, q, hmw⟩)]
      omega
theorem fit_M (hc : ∀ S, c S = indN S m + c' S) (hM : Mn c l W L) {w : Nat} (hw : w < W) (hmw : m.testBit w = true) (hl : 0 < l w) (h : ∀ S, S < 2 ^ W → sI c l W S = L → mtP2 S m → S.testBit w = true) : Mn c' (dcN l w) W L := by
  refine ⟨(fit_C hc hM hw hmw hl).mpr h, ?_⟩
  obtain ⟨S, hS, tS⟩ := hM.2
  refine ⟨S, hS, ?_⟩
  rw [fit_s hc hw hl, tS]
  by_cases mS : mtP2 S m
  · rw [ind_1 mS, if_pos (h S hS tS mS)]; omega
  · rw [ind_0 mS, if_neg (fun q => mS ⟨w, q, hmw⟩)]; omega
theorem fit_N (hc : ∀ S, c S = indN S m + c' S) (hM : Mn c l W L) (h : ¬ ∃ S, S < 2 ^ W ∧ sI c l W S = L ∧ mtP2 S m) : Mn c' l W L := by
  have e : ∀ S, sI c' l W S = sI c l W S - indN S m := fun S => by have := hc S; unfold sI; omega
  constructor
  · intro S hS
    have h1 := hM.1 S hS
    rw [e]
    by_cases mS : mtP2 S m
    · rw [ind_1 mS]
      have : ¬ sI c l W S = L := fun z => h ⟨S, hS, z, mS⟩
      omega
    · rw [ind_0 mS]; omega
  · obtain ⟨S, hS, tS⟩ := hM.2
    refine ⟨S, hS, ?_⟩
    rw [e, tS, ind_0 (fun q => h ⟨S, hS, tS, q⟩)]; omega
end FIT
/-- how many can be given at most -/
def mgN (c l : Nat → Nat) (W : Nat) : Nat → Nat
  | 0 => 9999
  | S + 1 => min (mgN c l W S) (c S + coN l S W)
theorem mg_le {c l : Nat → Nat} {W : Nat} : ∀ {n S : Nat}, S < n → mgN c l W n ≤ c S + coN l S W
  | 0, _, h => absurd h (Nat.not_lt_zero _)
  | n + 1, S, h => by
    show min (mgN c l W n) (c n + coN l n W) ≤ _
    by_cases e : S = n
    · subst e; exact Nat.min_le_right _ _
    · exact Nat.le_trans (Nat.min_le_left _ _) (mg_le (by omega))
theorem mg_ge {c l : Nat → Nat} {W B : Nat} (hB : B ≤ 9999) : ∀ {n : Nat}, (∀ S, S < n → B ≤ c S + coN l S W) → B ≤ mgN c l W n
  | 0, _ => hB
  | n + 1, h => by
    show B ≤ min (mgN c l W n) (c n + coN l n W)
    exact Nat.le_min.mpr ⟨mg_ge hB (fun S hS => h S (by omega)), h n (by omega)⟩
theorem mg_b {c l : Nat → Nat} {W n : Nat} : mgN c l W n ≤ 9999 := by
  induction n with
  | zero => exact Nat.le_refl _
  | succ n ih => exact Nat.le_trans (Nat.min_le_left _ _) ih
theorem mg_M {c l : Nat → Nat} {W : Nat} {L : Int} (hM : Mn c l W L) (h9 : toN l W ≤ 9000) (hL : L ≤ 0) : (mgN c l W (2 ^ W) : Int) = toN l W + L := by
  obtain ⟨S, hS, tS⟩ := hM.2
  have h1 := mg_le (c := c) (l := l) (W := W) hS
  have h2 := ws_co (l := l) (S := S) W
  have h0 : 0 ≤ (toN l W : Int) + L := by unfold sI at tS; omega
  have h3 := mg_ge (c := c) (l := l) (W := W) (B := ((toN l W : Int) + L).toNat) (by omega) (n := 2 ^ W) (fun S' hS' => by
    have h4 := hM.1 S' hS'
    have h5 := ws_co (l := l) (S := S') W
    unfold sI at h4; omega)
  unfold sI at tS
  omega
theorem mg_lt {c l : Nat → Nat} {W S : Nat} {L : Int} (hS : S < 2 ^ W) (h : sI c l W S < L) : (mgN c l W (2 ^ W) : Int) < toN l W + L := by
  have h1 := mg_le (c := c) (l := l) (W := W) hS
  have h2 := ws_co (l := l) (S := S) W
  unfold sI at h; omega
