-- after: a1.pf
/-! the town's text: what a line that is right promises, and that it looks at no more than there is -/
theorem tnP_n {T : Nat} {mo f : Nat → Int32} {L b : Nat} (hT : T ≤ 10) (h : tnP T mo f L b) : ∃ a, a < T ∧ nmI f L b = nI a ∧ ix (nmI f L b) = a ∧ mo a = -1 := by
  obtain ⟨e, hl⟩ := tn_97 hT ⟨h.1.2.2.1, h.1.2.2.2⟩
  exact ⟨ix (nmI f L b), hl, e, rfl, h.2⟩
def tO2 (T W : Nat) (mo own shu : Nat → Int32) : TL → Prop
  | .inl (_, _, _) => T < 10
  | .inr (.inl m) => T < 10 ∧ ∃ a, a < T ∧ m = nI a ∧ mo a = -1
  | .inr (.inr (.inl (q, A, B, m))) => q + B < 168 ∧ A ≤ B ∧ m < T ∧ mo m = -1 ∧ ∀ i, i < B + 1 - A → own (q + (A + i)) = -1 ∧ shu (q + (A + i)) = 0
  | .inr (.inr (.inr (.inl (r, _)))) => r < 168
  | .inr (.inr (.inr (.inr (.inl r)))) => r < 168 ∧ own r = -1
  | .inr (.inr (.inr (.inr (.inr (.inl (r, m)))))) => r < 168 ∧ ¬ own r = -1 ∧ ¬ m = own r ∧ ∃ a, a < T ∧ m = nI a ∧ mo a = -1
  | .inr (.inr (.inr (.inr (.inr (.inr (.inl (m, n, _, _))))))) => W < 8 ∧ (∃ a, a < T ∧ m = nI a ∧ mo a = -1) ∧ ∃ k, k ≤ 20 ∧ n = nI k
  | .inr (.inr (.inr (.inr (.inr (.inr (.inr _)))))) => True
section TO
variable {T W : Nat} {mo own shu f : Nat → Int32} {L p : Nat} {q : TL × Nat}
theorem ten_2 (h : tenD T f L p = .ok q) : tO2 T W mo own shu q.1 := by
  unfold tenD at h
  split at h
  · rename_i c
    repeat' split at h
    all_goals first | (cases h; exact c) | exact nomatch h
  · exact nomatch h
theorem chl_2 (hT : T ≤ 10) (h : chlD T mo f L p = .ok q) : tO2 T W mo own shu q.1 := by
  unfold chlD at h
  split at h
  · rename_i c
    split at h
    · split at h
      · rename_i c2
        cases h
        obtain ⟨a, h1, h2, _, h3⟩ := tnP_n hT c2
        exact ⟨c, a, h1, h2, h3⟩
      · exact nomatch h
    · exact nomatch h
  · exact nomatch h
theorem gds_2 (h : gdsD f L p = .ok q) : tO2 T W mo own shu q.1 := by
  unfold gdsD at h
  split at h
  · rename_i c1
    split at h
    · rename_i c2
      split at h
      · cases h
        obtain ⟨a, e1, _, h1⟩ := nu_ix (lo := 0) (hi := 6) c1
        obtain ⟨b, e2, _, h2⟩ := nu_ix (lo := 0) (hi := 23) c2
        show ix _ * 24 + ix _ < 168
        rw [e1, e2, ix_nI (by omega), ix_nI (by omega)]; omega
      · exact nomatch h
    · exact nomatch h
  · exact nomatch h
theorem sht_2 (h : shtD own f L p = .ok q) : tO2 T W mo own shu q.1 := by
  unfold shtD at h
  split at h
  · rename_i c1
    split at h
    · rename_i c2
      split at h
      · rename_i c3
        cases h
        refine ⟨?_, c3⟩
        obtain ⟨a, e1, _, h1⟩ := nu_ix (lo := 0) (hi := 6) c1
        obtain ⟨b, e2, _, h2⟩ := nu_ix (lo := 0) (hi := 23) c2
        rw [e1, e2, ix_nI (by omega), ix_nI (by omega)]; omega
      · exact nomatch h
    · exact nomatch h
  · exact nomatch h
theorem sbt_2 (hT : T ≤ 10) (h : sbtD T mo own f L p = .ok q) : tO2 T W mo own shu q.1 := by
  unfold sbtD at h
  split at h
  · rename_i c1
    split at h
    · rename_i c2
      split at h
      · rename_i c3
        split at h
        · rename_i c4
          split at h
          · rename_i c5
            cases h
            obtain ⟨t, h3, h4, _, h5⟩ := tnP_n hT c4
            refine ⟨?_, c3, c5, t, h3, h4, h5⟩
            obtain ⟨a, e1, _, h1⟩ := nu_ix (lo := 0) (hi := 6) c1
            obtain ⟨b, e2, _, h2⟩ := nu_ix (lo := 0) (hi := 23) c2
            rw [e1, e2, ix_nI (by omega), ix_nI (by omega)]; omega
          · exact nomatch h
        · exact nomatch h
      · exact nomatch h
    · exact nomatch h
  · exact nomatch h
theorem wnt_2 (hT : T ≤ 10) (h : wntD T W mo f L p = .ok q) : tO2 T W mo own shu q.1 := by
  unfold wntD at h
  split at h
  · rename_i c0
    split at h
    · rename_i c1
      split at h
      · rename_i c2
        split at h
        · split at h
          · split at h
            · split at h
              · cases h
                obtain ⟨t, h3, h4, _, h5⟩ := tnP_n hT c1
                obtain ⟨k, e1, _, h1⟩ := nu_ix (lo := 1) (hi := 20) c2
                exact ⟨c0, ⟨t, h3, h4, h5⟩, k, h1, e1⟩
              · exact nomatch h
            · exact nomatch h
          · exact nomatch h
        · exact nomatch h
      · exact nomatch h
    · exact nomatch h
  · exact nomatch h
theorem chc_2 (h : chcD f L p = .ok q) : tO2 T W mo own shu q.1 := by
  unfold chcD at h
  split at h
  · cases h; exact trivial
  · exact nomatch h
theorem let_2 (hT : T ≤ 10) (h : letD T mo own shu f L p = .ok q) : tO2 T W mo own shu q.1 := by
  unfold letD at h
  split at h
  · rename_i c1
    split at h
    · rename_i c2
      split at h
      · split at h
        · rename_i c4
          split at h
          · rename_i c5
            split at h
            · rename_i c6
              cases h
              obtain ⟨t, h3, h4, h4', h5⟩ := tnP_n hT c6
              obtain ⟨a, e1, _, h1⟩ := nu_ix (lo := 0) (hi := 6) c1
              obtain ⟨b, e2, _, h2⟩ := nu_ix (lo := 0) (hi := 23) c2
              rw [e2] at c4
              obtain ⟨d, e4, h6, h7⟩ := nu_ix (lo := b) (hi := 23) c4
              refine ⟨?_, ?_, by rw [h4']; exact h3, by rw [h4']; exact h5, fun i hi => ?_⟩
              · rw [e1, e4, ix_nI (by omega), ix_nI (by omega)]; omega
              · rw [e2, e4, ix_nI (by omega), ix_nI (by omega)]; exact h6
              · unfold lfB at c5
                exact of_decide_eq_true (allB_i.mp c5 i hi)
            · exact nomatch h
          · exact nomatch h
        · exact nomatch h
      · exact nomatch h
    · exact nomatch h
  · exact nomatch h
theorem tw_2 (hT : T ≤ 10) (h : twD T W mo own shu f L p = .ok q) : tO2 T W mo own shu q.1 := by
  unfold twD at h
  split at h
  · exact ten_2 h
  · split at h
    · exact chl_2 hT h
    · split at h
      · exact let_2 hT h
      · split at h
        · exact gds_2 h
        · split at h
          · exact sht_2 h
          · split at h
            · exact sbt_2 hT h
            · split at h
              · exact wnt_2 hT h
              · split at h
                · exact chc_2 h
                · exact nomatch h
variable {mo' own' shu' : Nat → Int32}
theorem tnP_cg (hT : T ≤ 10) (hm : ∀ a, a < T → mo a = mo' a) {b : Nat} : tnP T mo f L b ↔ tnP T mo' f L b := by
  constructor
  · intro h
    obtain ⟨a, h1, _, h3, h4⟩ := tnP_n hT h
    exact ⟨h.1, by rw [h3, ← hm a h1]; exact h4⟩
  · intro h
    obtain ⟨a, h1, _, h3, h4⟩ := tnP_n hT h
    exact ⟨h.1, by rw [h3, hm a h1]; exact h4⟩
theorem if_cg {α : Type} {c d : Prop} [Decidable c] [Decidable d] {x y x' y' : α} (h : c ↔ d) (hx : c → x = x') (hy : y = y') : (if c then x else y) = if d then x' else y' := by
  by_cases z : c
  · rw [if_pos z, if_pos (h.mp z)]; exact hx z
  · rw [if_neg z, if_neg (fun q => z (h.mpr q))]; exact hy
theorem rm_168 {b c : Nat} (c1 : nuP f L b 3 (nI 0) (nI 6)) (c2 : nuP f L c 3 (nI 0) (nI 23)) : ix (nmI f L b) * 24 + ix (nmI f L c) < 168 := by
  obtain ⟨a, e1, _, h1⟩ := nu_ix (lo := 0) (hi := 6) c1
  obtain ⟨d, e2, _, h2⟩ := nu_ix (lo := 0) (hi := 23) c2
  rw [e1, e2, ix_nI (by omega), ix_nI (by omega)]; omega
theorem chl_cg (hT : T ≤ 10) (hm : ∀ a, a < T → mo a = mo' a) : chlD T mo f L p = chlD T mo' f L p := if_cg Iff.rfl (fun _ => if_cg Iff.rfl (fun _ => if_cg (tnP_cg hT hm) (fun _ => rfl) rfl) rfl) rfl
theorem sht_cg (ho : ∀ r, r < 168 → own r = own' r) : shtD own f L p = shtD own' f L p := if_cg Iff.rfl (fun c1 => if_cg Iff.rfl (fun c2 => if_cg (by rw [ho _ (rm_168 c1 c2)]) (fun _ => rfl) rfl) rfl) rfl
theorem sbt_cg (hT : T ≤ 10) (hm : ∀ a, a < T → mo a = mo' a) (ho : ∀ r, r < 168 → own r = own' r) : sbtD T mo own f L p = sbtD T mo' own' f L p := if_cg Iff.rfl (fun c1 => if_cg Iff.rfl (fun c2 => if_cg (by rw [ho _ (rm_168 c1 c2)]) (fun _ => if_cg (tnP_cg hT hm) (fun _ => if_cg (by rw [ho _ (rm_168 c1 c2)]) (fun _ => rfl) rfl) rfl) rfl) rfl) rfl
theorem wnt_cg (hT : T ≤ 10) (hm : ∀ a, a < T → mo a = mo' a) : wntD T W mo f L p = wntD T W mo' f L p := if_cg Iff.rfl (fun _ => if_cg (tnP_cg hT hm) (fun _ => rfl) rfl) rfl
theorem allB_cg {a b : Nat → Bool} : ∀ n, (∀ i, i < n → a i = b i) → allB a n = allB b n
  | 0, _ => rfl
  | n + 1, h => by rw [allB, allB, allB_cg n (fun i hi => h i (by omega)), h n (by omega)]
theorem let_cg (hT : T ≤ 10) (hm : ∀ a, a < T → mo a = mo' a) (ho : ∀ r, r < 168 → own r = own' r) (hs : ∀ r, r < 168 → shu r = shu' r) : letD T mo own shu f L p = letD T mo' own' shu' f L p := if_cg Iff.rfl (fun c1 => if_cg Iff.rfl (fun c2 => if_cg Iff.rfl (fun _ => if_cg Iff.rfl (fun c4 => if_cg (by
  have e : ∀ q A B, q + B < 168 → A ≤ B → lfB own shu q A B = lfB own' shu' q A B := fun q A B h1 h2 => by
    unfold lfB
    exact allB_cg _ (fun i hi => by rw [ho _ (by omega), hs _ (by omega)])
  obtain ⟨a, e1, _, h1⟩ := nu_ix (lo := 0) (hi := 6) c1
  obtain ⟨b, e2, _, h2⟩ := nu_ix (lo := 0) (hi := 23) c2
  rw [e2] at c4
  obtain ⟨d, e4, h6, h7⟩ := nu_ix (lo := b) (hi := 23) c4
  rw [e _ _ _ (by rw [e1, e4, ix_nI (by omega), ix_nI (by omega)]; omega) (by rw [e2, e4, ix_nI (by omega), ix_nI (by omega)]; exact h6)]) (fun _ => if_cg (tnP_cg hT hm) (fun _ => rfl) rfl) rfl) rfl) rfl) rfl) rfl
theorem tw_cg (hT : T ≤ 10) (hm : ∀ a, a < T → mo a = mo' a) (ho : ∀ r, r < 168 → own r = own' r) (hs : ∀ r, r < 168 → shu r = shu' r) : twD T W mo own shu f L p = twD T W mo' own' shu' f L p := by
  unfold twD
  rw [chl_cg hT hm, let_cg hT hm ho hs, sht_cg ho, sbt_cg hT hm ho, wnt_cg hT hm]
end TO
