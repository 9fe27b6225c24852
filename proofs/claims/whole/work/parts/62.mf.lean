-- after: 38.r 39.s 40.t 47.str 48.tx 49.ty 50.tt 51.tu 52.tv 53.lw 54.lx 55.ly 56.lz 57.ma 58.mb 59.mc 60.md 61.me
theorem ten_er {T W : Nat} {mo own shu f : Nat → Int32} {L p e : Nat} (hp : p ≤ L) (h : tenD T f L p = .error e) : e ≤ L := by
  have q1 := (nx_b (f := f) hp).2
  have q2 := (nx_b (f := f) q1).2
  have q3 := (nx_b (f := f) q2).2
  have q4 := (nx_b (f := f) q3).2
  have q5 := (nx_b (f := f) q4).2
  have q6 := (nx_b (f := f) q5).2
  have q7 := (nx_b (f := f) q6).2
  unfold tenD at h
  split at h
  · split at h
    · split at h
      · split at h
        · split at h
          · split at h
            · exact nomatch h
            · cases h; assumption
          · cases h; assumption
        · cases h; assumption
      · cases h; assumption
    · cases h; assumption
  · cases h; assumption
theorem chl_er {T W : Nat} {mo own shu f : Nat → Int32} {L p e : Nat} (hp : p ≤ L) (h : chlD T mo f L p = .error e) : e ≤ L := by
  have q1 := (nx_b (f := f) hp).2
  have q2 := (nx_b (f := f) q1).2
  have q3 := (nx_b (f := f) q2).2
  have q4 := (nx_b (f := f) q3).2
  have q5 := (nx_b (f := f) q4).2
  have q6 := (nx_b (f := f) q5).2
  have q7 := (nx_b (f := f) q6).2
  unfold chlD at h
  split at h
  · split at h
    · split at h
      · exact nomatch h
      · cases h; assumption
    · cases h; assumption
  · cases h; assumption
theorem let_er {T W : Nat} {mo own shu f : Nat → Int32} {L p e : Nat} (hp : p ≤ L) (h : letD T mo own shu f L p = .error e) : e ≤ L := by
  have q1 := (nx_b (f := f) hp).2
  have q2 := (nx_b (f := f) q1).2
  have q3 := (nx_b (f := f) q2).2
  have q4 := (nx_b (f := f) q3).2
  have q5 := (nx_b (f := f) q4).2
  have q6 := (nx_b (f := f) q5).2
  have q7 := (nx_b (f := f) q6).2
  unfold letD at h
  split at h
  · split at h
    · split at h
      · split at h
        · split at h
          · split at h
            · exact nomatch h
            · cases h; assumption
          · cases h; assumption
        · cases h; assumption
      · cases h; assumption
    · cases h; assumption
  · cases h; assumption
theorem gds_er {T W : Nat} {mo own shu f : Nat → Int32} {L p e : Nat} (hp : p ≤ L) (h : gdsD f L p = .error e) : e ≤ L := by
  have q1 := (nx_b (f := f) hp).2
  have q2 := (nx_b (f := f) q1).2
  have q3 := (nx_b (f := f) q2).2
  have q4 := (nx_b (f := f) q3).2
  have q5 := (nx_b (f := f) q4).2
  have q6 := (nx_b (f := f) q5).2
  have q7 := (nx_b (f := f) q6).2
  unfold gdsD at h
  split at h
  · split at h
    · split at h
      · exact nomatch h
      · cases h; assumption
    · cases h; assumption
  · cases h; assumption
theorem sht_er {T W : Nat} {mo own shu f : Nat → Int32} {L p e : Nat} (hp : p ≤ L) (h : shtD own f L p = .error e) : e ≤ L := by
  have q1 := (nx_b (f := f) hp).2
  have q2 := (nx_b (f := f) q1).2
  have q3 := (nx_b (f := f) q2).2
  have q4 := (nx_b (f := f) q3).2
  have q5 := (nx_b (f := f) q4).2
  have q6 := (nx_b (f := f) q5).2
  have q7 := (nx_b (f := f) q6).2
  unfold shtD at h
  split at h
  · split at h
    · split at h
      · exact nomatch h
      · cases h; assumption
    · cases h; assumption
  · cases h; assumption
theorem sbt_er {T W : Nat} {mo own shu f : Nat → Int32} {L p e : Nat} (hp : p ≤ L) (h : sbtD T mo own f L p = .error e) : e ≤ L := by
  have q1 := (nx_b (f := f) hp).2
  have q2 := (nx_b (f := f) q1).2
  have q3 := (nx_b (f := f) q2).2
  have q4 := (nx_b (f := f) q3).2
  have q5 := (nx_b (f := f) q4).2
  have q6 := (nx_b (f := f) q5).2
  have q7 := (nx_b (f := f) q6).2
  unfold sbtD at h
  split at h
  · split at h
    · split at h
      · split at h
        · split at h
          · exact nomatch h
          · cases h; assumption
        · cases h; assumption
      · cases h; assumption
    · cases h; assumption
  · cases h; assumption
theorem wnt_er {T W : Nat} {mo own shu f : Nat → Int32} {L p e : Nat} (hp : p ≤ L) (h : wntD T W mo f L p = .error e) : e ≤ L := by
  have q1 := (nx_b (f := f) hp).2
  have q2 := (nx_b (f := f) q1).2
  have q3 := (nx_b (f := f) q2).2
  have q4 := (nx_b (f := f) q3).2
  have q5 := (nx_b (f := f) q4).2
  have q6 := (nx_b (f := f) q5).2
  have q7 := (nx_b (f := f) q6).2
  unfold wntD at h
  split at h
  · split at h
    · split at h
      · split at h
        · split at h
          · split at h
            · split at h
              · exact nomatch h
              · cases h; assumption
            · cases h; assumption
          · cases h; assumption
        · cases h; assumption
      · cases h; assumption
    · cases h; assumption
  · cases h; assumption
theorem chc_er {T W : Nat} {mo own shu f : Nat → Int32} {L p e : Nat} (hp : p ≤ L) (h : chcD f L p = .error e) : e ≤ L := by
  have q1 := (nx_b (f := f) hp).2
  have q2 := (nx_b (f := f) q1).2
  have q3 := (nx_b (f := f) q2).2
  have q4 := (nx_b (f := f) q3).2
  have q5 := (nx_b (f := f) q4).2
  have q6 := (nx_b (f := f) q5).2
  have q7 := (nx_b (f := f) q6).2
  unfold chcD at h
  split at h
  · exact nomatch h
  · cases h; assumption
theorem ten_p {T W : Nat} {mo own shu f : Nat → Int32} {L p : Nat} {q : TL × Nat} (hp : p ≤ L) (h : tenD T f L p = .ok q) : q.2 ≤ L := by
  have q1 := (nx_b (f := f) hp).2
  have q2 := (nx_b (f := f) q1).2
  have q3 := (nx_b (f := f) q2).2
  have q4 := (nx_b (f := f) q3).2
  have q5 := (nx_b (f := f) q4).2
  have q6 := (nx_b (f := f) q5).2
  have q7 := (nx_b (f := f) q6).2
  unfold tenD at h
  split at h
  · split at h
    · split at h
      · split at h
        · split at h
          · split at h
            · cases h; assumption
            · exact nomatch h
          · exact nomatch h
        · exact nomatch h
      · exact nomatch h
    · exact nomatch h
  · exact nomatch h
theorem chl_p {T W : Nat} {mo own shu f : Nat → Int32} {L p : Nat} {q : TL × Nat} (hp : p ≤ L) (h : chlD T mo f L p = .ok q) : q.2 ≤ L := by
  have q1 := (nx_b (f := f) hp).2
  have q2 := (nx_b (f := f) q1).2
  have q3 := (nx_b (f := f) q2).2
  have q4 := (nx_b (f := f) q3).2
  have q5 := (nx_b (f := f) q4).2
  have q6 := (nx_b (f := f) q5).2
  have q7 := (nx_b (f := f) q6).2
  unfold chlD at h
  split at h
  · split at h
    · split at h
      · cases h; assumption
      · exact nomatch h
    · exact nomatch h
  · exact nomatch h
theorem let_p {T W : Nat} {mo own shu f : Nat → Int32} {L p : Nat} {q : TL × Nat} (hp : p ≤ L) (h : letD T mo own shu f L p = .ok q) : q.2 ≤ L := by
  have q1 := (nx_b (f := f) hp).2
  have q2 := (nx_b (f := f) q1).2
  have q3 := (nx_b (f := f) q2).2
  have q4 := (nx_b (f := f) q3).2
  have q5 := (nx_b (f := f) q4).2
  have q6 := (nx_b (f := f) q5).2
  have q7 := (nx_b (f := f) q6).2
  unfold letD at h
  split at h
  · split at h
    · split at h
      · split at h
        · split at h
          · split at h
            · cases h; assumption
            · exact nomatch h
          · exact nomatch h
        · exact nomatch h
      · exact nomatch h
    · exact nomatch h
  · exact nomatch h
theorem gds_p {T W : Nat} {mo own shu f : Nat → Int32} {L p : Nat} {q : TL × Nat} (hp : p ≤ L) (h : gdsD f L p = .ok q) : q.2 ≤ L := by
  have q1 := (nx_b (f := f) hp).2
  have q2 := (nx_b (f := f) q1).2
  have q3 := (nx_b (f := f) q2).2
  have q4 := (nx_b (f := f) q3).2
  have q5 := (nx_b (f := f) q4).2
  have q6 := (nx_b (f := f) q5).2
  have q7 := (nx_b (f := f) q6).2
  unfold gdsD at h
  split at h
  · split at h
    · split at h
      · cases h; assumption
      · exact nomatch h
    · exact nomatch h
  · exact nomatch h
theorem sht_p {T W : Nat} {mo own shu f : Nat → Int32} {L p : Nat} {q : TL × Nat} (hp : p ≤ L) (h : shtD own f L p = .ok q) : q.2 ≤ L := by
  have q1 := (nx_b (f := f) hp).2
  have q2 := (nx_b (f := f) q1).2
  have q3 := (nx_b (f := f) q2).2
  have q4 := (nx_b (f := f) q3).2
  have q5 := (nx_b (f := f) q4).2
  have q6 := (nx_b (f := f) q5).2
  have q7 := (nx_b (f := f) q6).2
  unfold shtD at h
  split at h
  · split at h
    · split at h
      · cases h; assumption
      · exact nomatch h
    · exact nomatch h
  · exact nomatch h
theorem sbt_p {T W : Nat} {mo own shu f : Nat → Int32} {L p : Nat} {q : TL × Nat} (hp : p ≤ L) (h : sbtD T mo own f L p = .ok q) : q.2 ≤ L := by
  have q1 := (nx_b (f := f) hp).2
  have q2 := (nx_b (f := f) q1).2
  have q3 := (nx_b (f := f) q2).2
  have q4 := (nx_b (f := f) q3).2
  have q5 := (nx_b (f := f) q4).2
  have q6 := (nx_b (f := f) q5).2
  have q7 := (nx_b (f := f) q6).2
  unfold sbtD at h
  split at h
  · split at h
    · split at h
      · split at h
        · split at h
          · cases h; assumption
          · exact nomatch h
        · exact nomatch h
      · exact nomatch h
    · exact nomatch h
  · exact nomatch h
theorem wnt_p {T W : Nat} {mo own shu f : Nat → Int32} {L p : Nat} {q : TL × Nat} (hp : p ≤ L) (h : wntD T W mo f L p = .ok q) : q.2 ≤ L := by
  have q1 := (nx_b (f := f) hp).2
  have q2 := (nx_b (f := f) q1).2
  have q3 := (nx_b (f := f) q2).2
  have q4 := (nx_b (f := f) q3).2
  have q5 := (nx_b (f := f) q4).2
  have q6 := (nx_b (f := f) q5).2
  have q7 := (nx_b (f := f) q6).2
  unfold wntD at h
  split at h
  · split at h
    · split at h
      · split at h
        · split at h
          · split at h
            · split at h
              · cases h; assumption
              · exact nomatch h
            · exact nomatch h
          · exact nomatch h
        · exact nomatch h
      · exact nomatch h
    · exact nomatch h
  · exact nomatch h
theorem chc_p {T W : Nat} {mo own shu f : Nat → Int32} {L p : Nat} {q : TL × Nat} (hp : p ≤ L) (h : chcD f L p = .ok q) : q.2 ≤ L := by
  have q1 := (nx_b (f := f) hp).2
  have q2 := (nx_b (f := f) q1).2
  have q3 := (nx_b (f := f) q2).2
  have q4 := (nx_b (f := f) q3).2
  have q5 := (nx_b (f := f) q4).2
  have q6 := (nx_b (f := f) q5).2
  have q7 := (nx_b (f := f) q6).2
  unfold chcD at h
  split at h
  · cases h; assumption
  · exact nomatch h
theorem tw_er {T W : Nat} {mo own shu f : Nat → Int32} {L p e : Nat} (hp : p ≤ L) (h : twD T W mo own shu f L p = .error e) : e ≤ L := by
  unfold twD at h
  split at h
  · exact ten_er (W := W) (mo := mo) (own := own) (shu := shu) hp h
  · split at h
    · exact chl_er (W := W) (own := own) (shu := shu) hp h
    · split at h
      · exact let_er (W := W) hp h
      · split at h
        · exact gds_er (T := T) (W := W) (mo := mo) (own := own) (shu := shu) hp h
        · split at h
          · exact sht_er (T := T) (W := W) (mo := mo) (shu := shu) hp h
          · split at h
            · exact sbt_er (W := W) (shu := shu) hp h
            · split at h
              · exact wnt_er (own := own) (shu := shu) hp h
              · split at h
                · exact chc_er (T := T) (W := W) (mo := mo) (own := own) (shu := shu) hp h
                · cases h; exact hp
theorem tw_p {T W : Nat} {mo own shu f : Nat → Int32} {L p : Nat} {q : TL × Nat} (hp : p ≤ L) (h : twD T W mo own shu f L p = .ok q) : q.2 ≤ L := by
  unfold twD at h
  split at h
  · exact ten_p (W := W) (mo := mo) (own := own) (shu := shu) hp h
  · split at h
    · exact chl_p (W := W) (own := own) (shu := shu) hp h
    · split at h
      · exact let_p (W := W) hp h
      · split at h
        · exact gds_p (T := T) (W := W) (mo := mo) (own := own) (shu := shu) hp h
        · split at h
          · exact sht_p (T := T) (W := W) (mo := mo) (shu := shu) hp h
          · split at h
            · exact sbt_p (W := W) (shu := shu) hp h
            · split at h
              · exact wnt_p (own := own) (shu := shu) hp h
              · split at h
                · exact chc_p (T := T) (W := W) (mo := mo) (own := own) (shu := shu) hp h
                · exact nomatch h
theorem tl_er {f : Nat → Int32} {L : Nat} : ∀ {k T W : Nat} {u : Sto} {p e : Nat}, p ≤ L → tlsD f L k T W u p = .error e → e ≤ L
  | 0, _, _, _, _, _, hp, h => by cases h; exact hp
  | k + 1, T, W, u, p, e, hp, h => by
    unfold tlsD at h
    split at h
    · rename_i he; cases h; exact tw_er hp he
    · rename_i q hq
      have h2 := tw_p hp hq
      split at h
      · exact nomatch h
      · split at h
        · exact tl_er (nx_b h2).2 h
        · cases h; exact h2
theorem tn_er {f : Nat → Int32} {L T W : Nat} {u : Sto} {e : Nat} (h : twnT f L T W u = .error e) : e ≤ L := by
  unfold twnT at h
  split at h
  · exact nomatch h
  · exact tl_er (skp_b (Nat.zero_le L)).2 h
theorem tl_dz {f : Nat → Int32} {L : Nat} : ∀ {k T W : Nat} {u : Sto} {p : Nat} {v : Sto}, tlsD f L k T W u p = .ok v → dz v u
  | 0, _, _, _, _, _, h => nomatch h
  | k + 1, T, W, u, p, v, h => by
    unfold tlsD at h
    split at h
    · exact nomatch h
    · rename_i q hq
      split at h
      · cases h; exact fun k hk => apL_c hk
      · split at h
        · exact (tl_dz h).trans (fun k hk => apL_c hk)
        · exact nomatch h
theorem tn_dz {f : Nat → Int32} {L T W : Nat} {u v : Sto} (h : twnT f L T W u = .ok v) : dz v u := by
  unfold twnT at h
  split at h
  · cases h; exact dz.refl _
  · exact tl_dz h
theorem sum_er {f : Nat → Int32} {L : Nat} : ∀ {n : Nat} {b : Bool} {p e : Nat}, p ≤ L → sumN f L n b p = .error e → e ≤ L
  | 0, _, _, _, hp, h => by cases h; exact hp
  | n + 1, b, p, e, hp, h => by
    unfold sumN at h
    split at h
    · cases h; exact hp
    · split at h
      · split at h
        · rename_i he
          cases h
          exact sum_er (nx_b (nx_b hp).2).2 he
        · exact nomatch h
      · exact nomatch h
theorem pln_er {f : Nat → Int32} {L p e : Nat} (hp : p ≤ L) (h : plnF f L p = .error e) : e ≤ L := by
  unfold plnF at h
  split at h
  · exact nomatch h
  · split at h
    · exact nomatch h
    · split at h
      · rename_i he; cases h; exact sum_er hp he
      · rename_i q hq
        have b1 := (sum_b hp hq).2.1
        split at h
        · split at h
          · rename_i he; cases h; exact sum_er (nx_b b1).2 he
          · exact nomatch h
        · cases h; exact b1
theorem cl_p {f : Nat → Int32} {L : Nat} : ∀ {n p : Nat} {π : List Nat} {ws : List Int32}, p ≤ L → (clG f L n p π ws).1 ≤ L
  | 0, _, _, _, hp => hp
  | n + 1, p, π, ws, hp => by
    unfold clG
    split
    · exact cl_p (nx_b hp).2
    · exact hp
theorem cd_b {f : Nat → Int32} {L : Nat} : ∀ {n p : Nat} {π : List Nat} {ws : List Int32}, p ≤ L → (∀ e, cdF f L n p π ws = .error e → e ≤ L) ∧ ∀ q, cdF f L n p π ws = .ok q → q.2 ≤ L
  | 0, p, _, _, hp => ⟨fun e h => by cases h; exact hp, fun q h => nomatch h⟩
  | n + 1, p, π, ws, hp => by
    unfold cdF
    split
    · split
      · exact cd_b (nx_b hp).2
      · exact ⟨fun e h => by cases h; exact hp, fun q h => nomatch h⟩
    · split
      · rename_i he
        exact ⟨fun e h => by cases h; exact pln_er hp he, fun q h => nomatch h⟩
      · rename_i q hq
        have h2 := (pln_b hp hq).2.1
        have h3 := cl_p (f := f) (n := 6) (π := π) (ws := ws ++ q.1) h2
        simp only
        split
        · exact cd_b (nx_b h3).2
        · split
          · exact ⟨fun e h => by cases h; exact h3, fun q h => nomatch h⟩
          · exact ⟨fun e h => (nomatch h), fun q h => by cases h; exact h3⟩
theorem lh_b {f : Nat → Int32} {L p : Nat} (hp : p ≤ L) : (∀ e, lwH f L p = .error e → e ≤ L) ∧ ∀ q, lwH f L p = .ok q → q.2.2 ≤ L := by
  have q1 := (nx_b (f := f) hp).2
  have q2 := (nx_b (f := f) q1).2
  unfold lwH
  split
  · exact ⟨fun e h => (nomatch h), fun q h => by cases h; exact q1⟩
  · split
    · split
      · exact ⟨fun e h => (nomatch h), fun q h => by cases h; exact q2⟩
      · exact ⟨fun e h => by cases h; exact q1, fun q h => (nomatch h)⟩
    · exact ⟨fun e h => by cases h; exact hp, fun q h => (nomatch h)⟩
theorem lw_b {f : Nat → Int32} {L p : Nat} (hp : p ≤ L) : (∀ e, lwD f L p = .error e → e ≤ L) ∧ ∀ q, lwD f L p = .ok q → q.2 ≤ L := by
  unfold lwD
  split
  · rename_i he
    exact ⟨fun e h => by cases h; exact (lh_b hp).1 _ he, fun q h => (nomatch h)⟩
  · rename_i q hq
    have h2 := (lh_b hp).2 _ hq
    split
    · split
      · rename_i he
        exact ⟨fun e h => by cases h; exact (cd_b (nx_b h2).2).1 _ he, fun q h => (nomatch h)⟩
      · rename_i r hr
        exact ⟨fun e h => (nomatch h), fun q h => by cases h; exact (cd_b (nx_b h2).2).2 _ hr⟩
    · exact ⟨fun e h => (nomatch h), fun q h => by cases h; exact h2⟩
theorem ls_b {f : Nat → Int32} {L : Nat} : ∀ {k p e : Nat}, p ≤ L → lnsD f L k p = .error e → e ≤ L
  | 0, _, _, hp, h => by cases h; exact hp
  | k + 1, p, e, hp, h => by
    unfold lnsD at h
    split at h
    · rename_i he; cases h; exact (lw_b hp).1 _ he
    · rename_i q hq
      have h2 := (lw_b hp).2 _ hq
      split at h
      · exact nomatch h
      · split at h
        · split at h
          · rename_i he; cases h; exact ls_b (nx_b h2).2 he
          · exact nomatch h
        · cases h; exact h2
theorem la_er {f : Nat → Int32} {L e : Nat} (h : lawT f L = .error e) : e ≤ L := by
  unfold lawT at h
  split at h
  · exact nomatch h
  · exact ls_b (skp_b (Nat.zero_le L)).2 h
theorem nI_m4 {e : Nat} (h : e ≤ 400) : ¬ nI e = -1 := by
  intro q
  have := congrArg Int32.toInt q
  rw [nI_toInt (by omega)] at this
  have h8 : (-1 : Int32).toInt = -1 := by decide
  omega
theorem lnA_5 : ∀ {t : List LN} {u : Sto} {l n : Nat}, u 43 5 = nI l → lnA u l n t 43 5 = nI (l + t.length)
  | [], _, _, _, h => h
  | x :: t, u, l, n, h => by
    show lnA (lnS u l n x) (l + 1) (n + x.2.2.length) t 43 5 = nI (l + (t.length + 1))
    rw [lnA_5 lnS_5]; congr 1; omega
theorem lnA_c {k : Nat} (h : k < 43 ∨ 47 < k) : ∀ {t : List LN} {u : Sto} {l n : Nat}, lnA u l n t k = u k
  | [], _, _, _ => rfl
  | x :: t, u, l, n => by
    show lnA (lnS u l n x) (l + 1) (n + x.2.2.length) t k = u k
    rw [lnA_c h, lnS_c h]
def simD (a b : Sto) : Prop := ∀ k j, scrB k j = false → (k < 26 ∨ 49 < k ∧ k < 159 ∨ 161 < k) → a k j = b k j
abbrev PD (p : Res × Sto) : Res → Sto → Prop := fun o w => o = p.1 ∧ simD w p.2
theorem simD_of {a b : Sto} (h : ∀ k, (k < 26 ∨ 49 < k ∧ k < 159 ∨ 161 < k) → a k = b k) : simD a b := fun k j _ hk => by rw [h k hk]
theorem pd {p : Res × Sto} {o : Res} {a b : Sto} (h : p = (o, b)) (hs : ∀ k, (k < 26 ∨ 49 < k ∧ k < 159 ∨ 161 < k) → a k = b k) : PD p o a := by rw [h]; exact ⟨rfl, simD_of hs⟩
def dft (u : Sto) : Sto := su (cpR (cpT u 27 3) 34 10) 0 1 (nI 0)
def fin (v : Sto) : Sto := su (cpR (cpT (su (su v 0 2 (-1)) 34 11 (v 34 11 + nI 1)) 3 27) 10 34) 0 9 (nI 0)
def townR (u : Sto) (L T W : Nat) : Res × Sto := match twnT (u 1) L T W (dft u) with
  | .error e => (.inr iae, su (su u 0 1 (nI 0)) 0 2 (nI e))
  | .ok v => if u 10 11 < nI 12 then (.inl (some (.int (v 34 11 + nI 1))), fin v) else (.inr uoe, su (su u 0 1 (nI 0)) 0 2 (-1))
theorem dft_c {u : Sto} {k : Nat} (h : k < 26 ∨ 42 < k) : dft u k = su u 0 1 (nI 0) k := by
  unfold dft
  by_cases e : k = 0
  · subst e; rw [su_at, su_at, cpR_c (by omega), cpT_c (by omega)]
  · rw [su_cell _ _ e, su_cell _ _ e, cpR_c (by omega), cpT_c (by omega)]
theorem dft_DI {u : Sto} {T W : Nat} (h1 : u 10 8 = nI T) (h2 : T ≤ 10) (h3 : u 10 9 = nI W) (h4 : W ≤ 8) (h5 : ∀ r, r < 168 → tn (u 4 r) 10) : DI (dft u) T W := by
  refine ⟨?_, h2, ?_, h4, fun r hr => ?_⟩
  · unfold dft; rw [su_cell _ _ (by decide), cpR_s8 (by omega), cpT_c (by omega)]; exact h1
  · unfold dft; rw [su_cell _ _ (by decide), cpR_s9 (by omega), cpT_c (by omega)]; exact h3
  · unfold dft; rw [su_cell _ _ (by decide), cpR_c (by omega), show (28 : Nat) = 27 + 1 from rfl, cpT_1 (by omega) hr]; exact h5 r hr
theorem su_k {u : Sto} {k j : Nat} {x : Int32} : su u k j x k j = x := by rw [su_at, pk_us]
def lawR (u : Sto) (L : Nat) : Res × Sto := match lawT (u 1) L with
  | .error e => (.inr iae, su (su u 0 1 (nI 0)) 0 2 (nI e))
  | .ok t => (.inl (some (.int (nI t.length))), su (cpL (su (lnA (clS (su u 0 1 (nI 0))) 0 0 t) 0 2 (-1)) 19 43) 0 9 (nI 0))
