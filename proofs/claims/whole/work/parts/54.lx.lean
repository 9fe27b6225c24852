-- after: 38.r 39.s 40.t 47.str 48.tx 49.ty 50.tt 53.lw
def lfS (u : Sto) (g : Nat → Int32) (a b c : Int32) : Sto := fun k j => if k = 161 then g j else if k = 160 then (if j = 9 then a else if j = 10 then b else if j = 11 then c else u k j) else u k j
section LF
variable {u : Sto} {g : Nat → Int32} {a b c x : Int32}
theorem lf_r9 : lfS u g a b c 160 9 = a := by simp [lfS]
theorem lf_r10 : lfS u g a b c 160 10 = b := by simp [lfS]
theorem lf_r11 : lfS u g a b c 160 11 = c := by simp [lfS]
theorem lf_g {j : Nat} : lfS u g a b c 161 j = g j := by simp [lfS]
theorem lf_o {k j : Nat} (h : k ≠ 160) (h2 : k ≠ 161) : lfS u g a b c k j = u k j := by simp [lfS, h, h2]
theorem lf_oc {k : Nat} (h : k ≠ 160) (h2 : k ≠ 161) : lfS u g a b c k = u k := funext fun _ => lf_o h h2
theorem lf_w9 : su (lfS u g a b c) 160 9 x = lfS u g x b c := by
  funext k i; unfold su lfS
  by_cases h1 : k = 160 <;> by_cases h2 : i = 9 <;> simp [h1, h2]
theorem lf_w10 : su (lfS u g a b c) 160 10 x = lfS u g a x c := by
  funext k i; unfold su lfS
  by_cases h1 : k = 160 <;> by_cases h2 : i = 10 <;> simp [h1, h2]
theorem lf_w11 : su (lfS u g a b c) 160 11 x = lfS u g a b x := by
  funext k i; unfold su lfS
  by_cases h1 : k = 160 <;> by_cases h2 : i = 11 <;> simp [h1, h2]
theorem lf_wg {j : Nat} : su (lfS u g a b c) 161 j x = lfS u (upd g j x) a b c := by
  funext k i; unfold su lfS upd
  by_cases h1 : k = 161 <;> by_cases h2 : i = j <;> simp [h1, h2]
theorem lf_su {k j : Nat} (h : k ≠ 160) (h3 : k ≠ 161) : su (lfS u g a b c) k j x = lfS (su u k j x) g a b c := by
  funext y i
  unfold su lfS
  by_cases h1 : y = 161
  · have hn : ¬ (y = k ∧ i = j) := fun q => h3 (q.1.symm.trans h1)
    simp only [if_neg hn]
  · by_cases h2 : y = 160
    · have hn : ¬ (y = k ∧ i = j) := fun q => h (q.1.symm.trans h2)
      simp only [if_neg hn]
    · simp only [if_neg h1, if_neg h2]
theorem lf_eta : lfS u (u 161) (u 160 9) (u 160 10) (u 160 11) = u := by
  funext k i; unfold lfS
  by_cases h : k = 161
  · subst h; rw [if_pos rfl]
  · rw [if_neg h]
    by_cases h0 : k = 160
    · subst h0
      rw [if_pos rfl]
      by_cases h1 : i = 9
      · simp [h1]
      · by_cases h2 : i = 10
        · simp [h2]
        · by_cases h3 : i = 11 <;> simp [h1, h2, h3]
    · rw [if_neg h0]
end LF
abbrev LT (u : Sto) (g : Nat → Int32) (a b c : Int32) (f : Nat → Int32) (L p : Nat) (w : Int32) : Sto := tkS9 (lfS u g a b c) 160 f L p w
theorem LT_o {u : Sto} {g : Nat → Int32} {a b c : Int32} {f : Nat → Int32} {L p : Nat} {w : Int32} {k : Nat} (h : k ≠ 160) (h2 : k ≠ 161) : LT u g a b c f L p w k = u k := (tx_oc h).trans (lf_oc h h2)
theorem LT_su {u : Sto} {g : Nat → Int32} {a b c : Int32} {f : Nat → Int32} {L p : Nat} {w : Int32} {k j : Nat} {x : Int32} (h : k ≠ 160) (h2 : k ≠ 161) : su (LT u g a b c f L p w) k j x = LT (su u k j x) g a b c f L p w := (tx_su h).trans (tx_in (lf_su h h2))
theorem adS_LT {u : Sto} {g : Nat → Int32} {a b c : Int32} {f : Nat → Int32} {L p : Nat} {w : Int32} {l n : Nat} {x : Int32} : adS (LT u g a b c f L p w) l n x = LT (adS u l n x) g a b c f L p w := by
  unfold adS
  split
  · rw [LT_su (by decide) (by decide), LT_su (by decide) (by decide)]
  · rfl
theorem alS_LT {u : Sto} {g : Nat → Int32} {a b c : Int32} {f : Nat → Int32} {L p : Nat} {w : Int32} {l : Nat} {x y : Int32} : alS (LT u g a b c f L p w) l x y = LT (alS u l x y) g a b c f L p w := by
  unfold alS
  rw [congrFun (LT_o (k := 45) (by decide) (by decide)) l, LT_su (by decide) (by decide), LT_su (by decide) (by decide), LT_su (by decide) (by decide), LT_su (by decide) (by decide)]
theorem clS_LT {u : Sto} {g : Nat → Int32} {a b c : Int32} {f : Nat → Int32} {L p : Nat} {w : Int32} : clS (LT u g a b c f L p w) = LT (clS u) g a b c f L p w := by
  unfold clS
  rw [LT_su (by decide) (by decide), LT_su (by decide) (by decide)]
def adW (u : Sto) (l : Nat) : Nat → List Int32 → Sto
  | _, [] => u
  | n, w :: ws => adW (adS u l n w) l (n + 1) ws
theorem adW_app {l : Nat} : ∀ (x y : List Int32) (u : Sto) (n : Nat), adW u l n (x ++ y) = adW (adW u l n x) l (n + x.length) y
  | [], y, u, n => rfl
  | w :: x, y, u, n => by
    show adW (adS u l n w) l (n + 1) (x ++ y) = adW (adW (adS u l n w) l (n + 1) x) l (n + (x.length + 1)) y
    rw [adW_app x y, show n + 1 + x.length = n + (x.length + 1) by omega]
theorem adS_c {u : Sto} {l n k : Nat} {w : Int32} (h : k ≠ 44) (h2 : k ≠ 45) : adS u l n w k = u k := by
  unfold adS
  split
  · rw [su_cell _ _ h2, su_cell _ _ h]
  · rfl
theorem adW_c {l k : Nat} (h : k ≠ 44) (h2 : k ≠ 45) : ∀ (ws : List Int32) (u : Sto) (n : Nat), adW u l n ws k = u k
  | [], _, _ => rfl
  | w :: ws, u, n => (adW_c h h2 ws (adS u l n w) (n + 1)).trans (adS_c h h2)
theorem adS_n {u : Sto} {l n : Nat} {w : Int32} (h : n < 400) : adS u l n w 45 l = nI (n + 1) := by
  unfold adS
  rw [if_pos h, su_at, pk_us]
theorem adW_n {l : Nat} : ∀ (ws : List Int32) (u : Sto) (n : Nat), u 45 l = nI n → n + ws.length ≤ 400 → adW u l n ws 45 l = nI (n + ws.length)
  | [], _, _, h, _ => h
  | w :: ws, u, n, h, hl => by
    have hl' : n + (ws.length + 1) ≤ 400 := hl
    have := adW_n ws (adS u l n w) (n + 1) (adS_n (by omega)) (by omega)
    show adW (adS u l n w) l (n + 1) ws 45 l = nI (n + (ws.length + 1))
    rw [this]; congr 1; omega
def dl (a b : Sto) : Prop := ∀ k, k < 43 ∨ 47 < k → a k = b k
theorem dl.refl (a : Sto) : dl a a := fun _ _ => rfl
theorem dl.trans {a b c : Sto} (h : dl a b) (h2 : dl b c) : dl a c := fun k hk => (h k hk).trans (h2 k hk)
theorem dl_adW {u : Sto} {l n : Nat} {ws : List Int32} : dl (adW u l n ws) u := fun k hk => adW_c (by omega) (by omega) ws u n
abbrev FW (u : Sto) (f : Nat → Int32) (L e : Nat) : Res → Sto → Prop := fun o s => o = .inl (some (.int (nI 0))) ∧ ∃ u' g a b c p, dl u' u ∧ p ≤ L ∧ s = LT u' g a b c f L p (nI e)
def pre (ws : List Int32) (r : PW) : PW := match r with
  | .error e => .error e
  | .ok q => .ok (ws ++ q.1, q.2)
theorem pre_pre {a b : List Int32} {r : PW} : pre a (pre b r) = pre (a ++ b) r := by
  cases r with
  | error e => rfl
  | ok q => simp [pre]
theorem pre_nil {r : PW} : pre [] r = r := by
  cases r with
  | error e => rfl
  | ok q => simp [pre]
theorem sum_e {f : Nat → Int32} {L n p : Nat} {fst : Bool} (h : partW f L p = none) : sumN f L (n + 1) fst p = .error p := by rw [sumN, h]
theorem sum_m {f : Nat → Int32} {L n p : Nat} {fst : Bool} {w : Int32} (h : partW f L p = some w) (hs : sgP f L (nx f L p) (nI 43)) : sumN f L (n + 1) fst p = pre (if fst = true then [w] else [w, -9]) (sumN f L n false (nx f L (nx f L p))) := by
  rw [sumN, h]
  simp only [if_pos hs]
  rfl
theorem sum_o {f : Nat → Int32} {L n p : Nat} {fst : Bool} {w : Int32} (h : partW f L p = some w) (hs : ¬ sgP f L (nx f L p) (nI 43)) : sumN f L (n + 1) fst p = .ok ((if fst = true then [w] else [w, -9]), nx f L p) := by
  rw [sumN, h]
  simp only [if_neg hs]
/-- words come to the line's: or the text is wrong -/
def QW (u : Sto) (l n : Nat) (g : Nat → Int32) (a b c : Int32) (f : Nat → Int32) (L : Nat) (w : Int32) (r : PW) : Res → Sto → Prop := fun o s => match r with
  | .error e => FW u f L e o s
  | .ok q => o = .inl (some (.int (nI 1))) ∧ s = LT (adW u l n q.1) g a b c f L q.2 w
theorem qw_nx {u : Sto} {l n : Nat} {g : Nat → Int32} {a b c : Int32} {f : Nat → Int32} {L : Nat} {w : Int32} {r : PW} : ∀ Ex s, ¬ QW u l n g a b c f L w r (.inr Ex) s := by
  intro Ex s h
  cases r with
  | error e => exact nomatch h.1
  | ok q => exact nomatch h.1
theorem rn_in {q : Int32 → Bool} {f : Nat → Int32} {L : Nat} : ∀ j p x, p ≤ x → x < runN q f L j p → q (f x) = true
  | 0, p, x, h1, h2 => absurd h2 (Nat.not_lt.mpr h1)
  | j + 1, p, x, h1, h2 => by
    rw [runN] at h2
    split at h2
    · rename_i e
      by_cases hx : p = x
      · subst hx; exact e.2
      · exact rn_in j (p + 1) x (by omega) h2
    · omega
theorem kd_ru {f : Nat → Int32} {L s : Nat} (h : kdN f L s = 2) : enN f L s = run dgB f L s := by
  have hl := kd_lt (f := f) (L := L) (b := s) (by omega)
  unfold kdN at h
  unfold enN
  rw [if_neg (by omega)] at h ⊢
  split at h
  · omega
  · rename_i q
    rw [if_neg q]
    split at h
    · rename_i q2
      rw [if_pos q2]
    · omega
theorem dg_nI {x : Int32} (h : dgP x) : ∃ c, x = nI c ∧ 48 ≤ c ∧ c ≤ 57 := by
  have e1 := Int32.le_iff_toInt_le.mp (Int32.not_lt.mp h.1)
  have e2 := Int32.le_iff_toInt_le.mp h.2
  rw [nI_toInt (by omega)] at e1 e2
  refine ⟨x.toInt.toNat, Int32.toInt_inj.mp ?_, by omega, by omega⟩
  rw [nI_toInt (by omega)]
  omega
theorem nuF_b {f : Nat → Int32} {b : Nat} : ∀ k, k ≤ 8 → (∀ j, j < k → dgB (f (b + j)) = true) → ∃ m, nuF f b k = nI m ∧ m < 10 ^ k
  | 0, _, _ => ⟨0, rfl, by decide⟩
  | k + 1, hk, h => by
    obtain ⟨m, hm, hm2⟩ := nuF_b k (by omega) (fun j hj => h j (by omega))
    obtain ⟨c, hc, hc1, hc2⟩ := dg_nI (of_decide_eq_true (h k (by omega)))
    have h8 : 10 ^ k ≤ 10 ^ 8 := Nat.pow_le_pow_right (by decide) (by omega)
    have h9 : (10 : Nat) ^ 8 = 100000000 := by decide
    have hs : (10 : Nat) ^ (k + 1) = 10 ^ k * 10 := Nat.pow_succ ..
    refine ⟨m * 10 + c - 48, ?_, by omega⟩
    rw [nuF, hm, hc, nI_mul (by omega) (by omega) (by omega), nI_add, pk_sub (by omega)]
/-- three digits at most are a number of 0 to 999 -/
theorem nu_3 {f : Nat → Int32} {L p : Nat} (h : kdN f L p = 2) (h3 : enN f L p - p ≤ 3) : nuP f L p 3 (nI 0) (nI 999) := by
  obtain ⟨m, hm, hm2⟩ := nuF_b (f := f) (b := p) (enN f L p - p) (by omega) (fun j hj => rn_in (q := dgB) (L := L) (L - p) p (p + j) (by omega) (by
    have := kd_ru h
    unfold run at this
    omega))
  have h8 : 10 ^ (enN f L p - p) ≤ 10 ^ 3 := Nat.pow_le_pow_right (by decide) h3
  have h9 : (10 : Nat) ^ 3 = 1000 := by decide
  have e : nmI f L p = nI m := by unfold nmI; rw [if_pos h, hm]
  refine ⟨h, h3, ?_, ?_⟩
  · rw [e]; exact fun q => by have := lt_n (by omega) (by omega) q; omega
  · rw [e]; exact (nI_leI (by omega) (by omega)).mpr (by omega)
theorem part_ne {f : Nat → Int32} {L p : Nat} {x : Int32} (h : partW f L p = some x) : ¬ x = -100 := by
  unfold partW at h
  split at h
  · split at h
    · rename_i q
      obtain ⟨k, hk, _, hk2⟩ := nu_ix q
      cases h
      rw [hk]
      intro e
      have := congrArg Int32.toInt e
      rw [nI_toInt (by omega)] at this
      have h8 : (-100 : Int32).toInt = -100 := by decide
      omega
    · exact nomatch h
  · split at h
    · cases h; decide
    · split at h
      · cases h; decide
      · split at h
        · cases h; decide
        · split at h
          · cases h; decide
          · split at h
            · cases h; decide
            · split at h
              · cases h; decide
              · exact nomatch h
set_option maxHeartbeats 1000000 in
theorem c_X3_partThere {E : EE} (g : Nat → Int32) (a b c : Int32) (f : Nat → Int32) (L p : Nat) (w : Int32) (u : Sto) (hf : u 1 = f) (hL : L ≤ 400) (hp : p ≤ L) : CtP E 6 0 yX3_partThere cX3_partThere 1 (some .int) [.ref (E.ad 160)] (LT u g a b c f L p w) (fun o s => (∃ x, partW f L p = some x ∧ o = .inl (some (.int x)) ∧ s = LT u g a b c f L p w) ∨ (partW f L p = none ∧ o = .inl (some (.int (-100))) ∧ ∃ w2, s = LT u g a b c f L p w2)) := by
  refine ctp_of (by decide) (Nat.le_of_ble_eq_true rfl) (fun X h hR hrt htab hargs => ?_)
  refine g_aload_n h dX3_partThere_0 rfl rfl ?_
  refine g_V h lv_X3_129_X3 sh_160 (by decide) rfl (c_X6_atNumber_160 f L p w (lfS u g a b c) ((lf_oc (by decide) (by decide)).trans hf) hL hp) (fitR hR (by decide) (by decide) (by omega)) rfl rfl (Nat.le_of_ble_eq_true rfl) dX3_partThere_1 ?_
  by_cases n1 : kdN f L p = 2
  · refine g_top (b2_t n1) ?_
    refine g_if_eq (tgt := 25) h dX3_partThere_4 (by decide) (fun q => absurd q (by decide)) (fun _ => ?_)
    refine g_aload_n h dX3_partThere_7 rfl rfl ?_
    refine g_iconst (v := nI 3) h dX3_partThere_8 (by decide) ?_
    refine g_V h lv_X3_132_X3 sh_160 (by decide) rfl (c_X6_hasDigits_160 f L p w 3 (by decide) (lfS u g a b c) ((lf_oc (by decide) (by decide)).trans hf) hL hp) (fitR hR (by decide) (by decide) (by omega)) rfl rfl (Nat.le_of_ble_eq_true rfl) dX3_partThere_9 ?_
    by_cases n9 : nuP f L p 3 (nI 0) (nI 999)
    · refine g_top (b2_t n9.2.1) ?_
      refine g_if_eq (tgt := 22) h dX3_partThere_12 (by decide) (fun q => absurd q (by decide)) (fun _ => ?_)
      refine g_aload_n h dX3_partThere_15 rfl rfl ?_
      refine g_V h lv_X3_136_X3 sh_160 (by decide) rfl (c_X6_readNumber_160 f L p w (lfS u g a b c) ((lf_oc (by decide) (by decide)).trans hf) hL hp) (fitR hR (by decide) (by decide) (by omega)) rfl rfl (Nat.le_of_ble_eq_true rfl) dX3_partThere_16 ?_
      refine g_goto (tgt := 24) h dX3_partThere_19 (by decide) ?_
      exact g_iretP h hrt dX3_partThere_24 (by omega) (Or.inl ⟨_, by rw [partW, if_pos n1, if_pos n9], rfl, rfl⟩)
    · refine g_top (b2_f (fun q => n9 (nu_3 n1 q))) ?_
      refine g_if_eq (tgt := 22) h dX3_partThere_12 (by decide) (fun _ => ?_) (fun q => absurd q (by decide))
      refine g_bipush (v := -100) h dX3_partThere_22 (by decide) ?_
      exact g_iretP h hrt dX3_partThere_24 (by omega) (Or.inr ⟨by rw [partW, if_pos n1, if_neg n9], rfl, _, rfl⟩)
  · refine g_top (b2_f n1) ?_
    refine g_if_eq (tgt := 25) h dX3_partThere_4 (by decide) (fun _ => ?_) (fun q => absurd q (by decide))
    refine g_aload_n h dX3_partThere_25 rfl rfl ?_
    refine g_ldcS (tx := "day") (k := 20) h (by decide) dX3_partThere_26 ?_
    refine g_V h lv_X3_52_X3 sh_160 (by decide) rfl (c_X6_atWord_160 f L p w 20 (by decide) (lfS u g a b c) ((lf_oc (by decide) (by decide)).trans hf) hL hp) (fitR hR (by decide) (by decide) (by omega)) rfl rfl (Nat.le_of_ble_eq_true rfl) dX3_partThere_28 ?_
    by_cases n28 : wdB f L p 20 = true
    · refine g_top (b2_t n28) ?_
      refine g_if_eq (tgt := 36) h dX3_partThere_31 (by decide) (fun q => absurd q (by decide)) (fun _ => ?_)
      refine g_iconst (v := -1) h dX3_partThere_34 (by decide) ?_
      exact g_iretP h hrt dX3_partThere_35 (by omega) (Or.inl ⟨_, by rw [partW, if_neg n1, if_pos n28], rfl, rfl⟩)
    · refine g_top (b2_f n28) ?_
      refine g_if_eq (tgt := 36) h dX3_partThere_31 (by decide) (fun _ => ?_) (fun q => absurd q (by decide))
      refine g_aload_n h dX3_partThere_36 rfl rfl ?_
      refine g_ldcS (tx := "hour") (k := 21) h (by decide) dX3_partThere_37 ?_
      refine g_V h lv_X3_52_X3 sh_160 (by decide) rfl (c_X6_atWord_160 f L p w 21 (by decide) (lfS u g a b c) ((lf_oc (by decide) (by decide)).trans hf) hL hp) (fitR hR (by decide) (by decide) (by omega)) rfl rfl (Nat.le_of_ble_eq_true rfl) dX3_partThere_39 ?_
      by_cases n39 : wdB f L p 21 = true
      · refine g_top (b2_t n39) ?_
        refine g_if_eq (tgt := 48) h dX3_partThere_42 (by decide) (fun q => absurd q (by decide)) (fun _ => ?_)
        refine g_bipush (v := -2) h dX3_partThere_45 (by decide) ?_
        exact g_iretP h hrt dX3_partThere_47 (by omega) (Or.inl ⟨_, by rw [partW, if_neg n1, if_neg n28, if_pos n39], rfl, rfl⟩)
      · refine g_top (b2_f n39) ?_
        refine g_if_eq (tgt := 48) h dX3_partThere_42 (by decide) (fun _ => ?_) (fun q => absurd q (by decide))
        refine g_aload_n h dX3_partThere_48 rfl rfl ?_
        refine g_ldcS (tx := "coins") (k := 22) h (by decide) dX3_partThere_49 ?_
        refine g_V h lv_X3_52_X3 sh_160 (by decide) rfl (c_X6_atWord_160 f L p w 22 (by decide) (lfS u g a b c) ((lf_oc (by decide) (by decide)).trans hf) hL hp) (fitR hR (by decide) (by decide) (by omega)) rfl rfl (Nat.le_of_ble_eq_true rfl) dX3_partThere_51 ?_
        by_cases n51 : wdB f L p 22 = true
        · refine g_top (b2_t n51) ?_
          refine g_if_eq (tgt := 60) h dX3_partThere_54 (by decide) (fun q => absurd q (by decide)) (fun _ => ?_)
          refine g_bipush (v := -3) h dX3_partThere_57 (by decide) ?_
          exact g_iretP h hrt dX3_partThere_59 (by omega) (Or.inl ⟨_, by rw [partW, if_neg n1, if_neg n28, if_neg n39, if_pos n51], rfl, rfl⟩)
        · refine g_top (b2_f n51) ?_
          refine g_if_eq (tgt := 60) h dX3_partThere_54 (by decide) (fun _ => ?_) (fun q => absurd q (by decide))
          refine g_aload_n h dX3_partThere_60 rfl rfl ?_
          refine g_ldcS (tx := "rooms") (k := 23) h (by decide) dX3_partThere_61 ?_
          refine g_V h lv_X3_52_X3 sh_160 (by decide) rfl (c_X6_atWord_160 f L p w 23 (by decide) (lfS u g a b c) ((lf_oc (by decide) (by decide)).trans hf) hL hp) (fitR hR (by decide) (by decide) (by omega)) rfl rfl (Nat.le_of_ble_eq_true rfl) dX3_partThere_63 ?_
          by_cases n63 : wdB f L p 23 = true
          · refine g_top (b2_t n63) ?_
            refine g_if_eq (tgt := 72) h dX3_partThere_66 (by decide) (fun q => absurd q (by decide)) (fun _ => ?_)
            refine g_bipush (v := -4) h dX3_partThere_69 (by decide) ?_
            exact g_iretP h hrt dX3_partThere_71 (by omega) (Or.inl ⟨_, by rw [partW, if_neg n1, if_neg n28, if_neg n39, if_neg n51, if_pos n63], rfl, rfl⟩)
          · refine g_top (b2_f n63) ?_
            refine g_if_eq (tgt := 72) h dX3_partThere_66 (by decide) (fun _ => ?_) (fun q => absurd q (by decide))
            refine g_aload_n h dX3_partThere_72 rfl rfl ?_
            refine g_ldcS (tx := "goods") (k := 6) h (by decide) dX3_partThere_73 ?_
            refine g_V h lv_X3_52_X3 sh_160 (by decide) rfl (c_X6_atWord_160 f L p w 6 (by decide) (lfS u g a b c) ((lf_oc (by decide) (by decide)).trans hf) hL hp) (fitR hR (by decide) (by decide) (by omega)) rfl rfl (Nat.le_of_ble_eq_true rfl) dX3_partThere_75 ?_
            by_cases n75 : wdB f L p 6 = true
            · refine g_top (b2_t n75) ?_
              refine g_if_eq (tgt := 84) h dX3_partThere_78 (by decide) (fun q => absurd q (by decide)) (fun _ => ?_)
              refine g_bipush (v := -5) h dX3_partThere_81 (by decide) ?_
              exact g_iretP h hrt dX3_partThere_83 (by omega) (Or.inl ⟨_, by rw [partW, if_neg n1, if_neg n28, if_neg n39, if_neg n51, if_neg n63, if_pos n75], rfl, rfl⟩)
            · refine g_top (b2_f n75) ?_
              refine g_if_eq (tgt := 84) h dX3_partThere_78 (by decide) (fun _ => ?_) (fun q => absurd q (by decide))
              refine g_aload_n h dX3_partThere_84 rfl rfl ?_
              refine g_ldcS (tx := "week") (k := 24) h (by decide) dX3_partThere_85 ?_
              refine g_V h lv_X3_52_X3 sh_160 (by decide) rfl (c_X6_atWord_160 f L p w 24 (by decide) (lfS u g a b c) ((lf_oc (by decide) (by decide)).trans hf) hL hp) (fitR hR (by decide) (by decide) (by omega)) rfl rfl (Nat.le_of_ble_eq_true rfl) dX3_partThere_87 ?_
              by_cases n87 : wdB f L p 24 = true
              · refine g_top (b2_t n87) ?_
                refine g_if_eq (tgt := 98) h dX3_partThere_90 (by decide) (fun q => absurd q (by decide)) (fun _ => ?_)
                refine g_bipush (v := -6) h dX3_partThere_93 (by decide) ?_
                refine g_goto (tgt := 100) h dX3_partThere_95 (by decide) ?_
                exact g_iretP h hrt dX3_partThere_100 (by omega) (Or.inl ⟨_, by rw [partW, if_neg n1, if_neg n28, if_neg n39, if_neg n51, if_neg n63, if_neg n75, if_pos n87], rfl, rfl⟩)
              · refine g_top (b2_f n87) ?_
                refine g_if_eq (tgt := 98) h dX3_partThere_90 (by decide) (fun _ => ?_) (fun q => absurd q (by decide))
                refine g_bipush (v := -100) h dX3_partThere_98 (by decide) ?_
                exact g_iretP h hrt dX3_partThere_100 (by omega) (Or.inr ⟨by rw [partW, if_neg n1, if_neg n28, if_neg n39, if_neg n51, if_neg n63, if_neg n75, if_neg n87], rfl, _, rfl⟩)
theorem rs_ok {u v cur : Sto} {l n n2 : Nat} {g : Nat → Int32} {a b c : Int32} {f : Nat → Int32} {L : Nat} {w : Int32} {R r2 : PW} {ws W : List Int32} {q : Nat} (hr : R = pre ws r2) (hr2 : r2 = .ok (W, q)) (hs : cur = adW v l n2 W) (hv : v = adW u l n ws) (hn : n2 = n + ws.length) : QW u l n g a b c f L w R (.inl (some (.int (nI 1)))) (LT cur g a b c f L q w) := by
  rw [hr, hr2]
  exact ⟨rfl, by rw [hs, hv, hn, ← adW_app]⟩
theorem rs_er {u v : Sto} {l n : Nat} {g g2 : Nat → Int32} {a b c a2 b2 c2 : Int32} {f : Nat → Int32} {L : Nat} {w : Int32} {R r2 : PW} {ws : List Int32} {q e : Nat} (hr : R = pre ws r2) (hr2 : r2 = .error e) (hd : dl v u) (hq : q ≤ L) : QW u l n g a b c f L w R (.inl (some (.int (nI 0)))) (LT v g2 a2 b2 c2 f L q (nI e)) := by
  rw [hr, hr2]
  exact ⟨rfl, v, g2, a2, b2, c2, q, hd, hq, rfl⟩
set_option maxHeartbeats 1000000 in
theorem c_X3_readSum {E : EE} (g : Nat → Int32) (a b c : Int32) (f : Nat → Int32) (L p : Nat) (w : Int32) (l n : Nat) (hl0 : 0 < l) (hl : l ≤ 12) (u : Sto) (hf : u 1 = f) (hL : L ≤ 400) (hp : p ≤ L) (hx : u 43 5 = nI l) (hn : u 45 l = nI n) (hnp : n ≤ p) : CtP E 7 0 yX3_readSum cX3_readSum 3 (some .boolean) [.ref (E.ad 160)] (LT u g a b c f L p w) (QW u l n g a b c f L w (sumN f L 400 true p)) := by
  refine ctp_of (by decide) (Nat.le_of_ble_eq_true rfl) (fun X h hR hrt htab hargs => ?_)
  have LP : ∀ (j k q n2 : Nat) (v : Sto) (ws : List Int32), k + j = 401 → 1 ≤ k → q ≤ L → v = adW u l n ws → n2 = n + ws.length → n2 + (if k = 1 then 0 else 1) ≤ q → sumN f L 400 true p = pre ws (sumN f L j (decide (k = 1)) q) → G E X (QMP E X (QW u l n g a b c f L w (sumN f L 400 true p)) 0) 3 0 2 [(0, .ref (E.ad 160)), (1, .int (nI k))] [] (LT v g a b c f L q w) := by
    intro j
    induction j with
    | zero =>
      intro k q n2 v ws hk hk0 hq hv hn3 hnq hr
      have hf2 : v 1 = f := by rw [hv, adW_c (by decide) (by decide)]; exact hf
      have hd : dl v u := by rw [hv]; exact dl_adW
      have hx2 : v 43 5 = nI l := by rw [hv, adW_c (by decide) (by decide)]; exact hx
      have hn2 : v 45 l = nI n2 := by rw [hv, hn3]; exact adW_n ws u n hn (by omega)
      refine g_iload_n h dX3_readSum_2 rfl rfl ?_
      refine g_sipush (v := nI 400) h dX3_readSum_3 (by decide) ?_
      refine g_icmp_gt (tgt := 72) h dX3_readSum_6 (by decide) (fun c6 => ?_) (fun c6 => ?_)
      · have n6 := lt_n (by omega) (by omega) (show nI (400) < nI (k) from c6)
        refine g_aload_n h dX3_readSum_72 rfl rfl ?_
        refine g_V h lv_X3_43_X3 sh_160 (by decide) rfl (c_X6_fail_160 f L q w (lfS v g a b c) ((lf_oc (by decide) (by decide)).trans hf2) hL hq) (fitR hR (by decide) (by decide) (by omega)) rfl rfl (Nat.le_of_ble_eq_true rfl) dX3_readSum_73 ?_
        skip
        · skip
          exact g_zretP h hrt dX3_readSum_76 (by omega) (by first | exact Or.inl rfl | exact Or.inr rfl | simp) (rs_er hr rfl hd hq)
      · have n6 := nlt_n (by omega) (by omega) (show ¬ nI (400) < nI (k) from c6)
        omega
    | succ j ih =>
      intro k q n2 v ws hk hk0 hq hv hn3 hnq hr
      have hf2 : v 1 = f := by rw [hv, adW_c (by decide) (by decide)]; exact hf
      have hd : dl v u := by rw [hv]; exact dl_adW
      have hx2 : v 43 5 = nI l := by rw [hv, adW_c (by decide) (by decide)]; exact hx
      have hn2 : v 45 l = nI n2 := by rw [hv, hn3]; exact adW_n ws u n hn (by omega)
      refine g_iload_n h dX3_readSum_2 rfl rfl ?_
      refine g_sipush (v := nI 400) h dX3_readSum_3 (by decide) ?_
      refine g_icmp_gt (tgt := 72) h dX3_readSum_6 (by decide) (fun c6 => ?_) (fun c6 => ?_)
      · have n6 := lt_n (by omega) (by omega) (show nI (400) < nI (k) from c6)
        omega
      · have n6 := nlt_n (by omega) (by omega) (show ¬ nI (400) < nI (k) from c6)
        refine g_aload_n h dX3_readSum_9 rfl rfl ?_
        refine g_VP h lv_X3_126_X3 sh_160 (by decide) rfl (c_X3_partThere g a b c f L q w v hf2 hL hq) (by rintro Ex s (⟨_, _, h, _⟩ | ⟨_, h, _⟩) <;> exact nomatch h) (fitR hR (by decide) (by decide) (by omega)) rfl rfl (Nat.le_of_ble_eq_true rfl) dX3_readSum_10 (fun v10 u10 hs10 => ?_)
        rcases hs10 with ⟨x, hw, hv10, rfl⟩ | ⟨hw, hv10, w2, rfl⟩
        · cases hv10
          have hq1 := part_lt hw
          have hq2 := nx_lt (f := f) hq1
          have hq3 := (nx_b (f := f) hq).2
          refine g_istore_n (ls' := [(0, _), (1, _), (2, _)]) h dX3_readSum_13 rfl (by decide) rfl rfl ?_
          refine g_iload_n h dX3_readSum_14 rfl rfl ?_
          refine g_bipush (v := -100) h dX3_readSum_15 (by decide) ?_
          refine g_icmp_ne (tgt := 25) h dX3_readSum_17 (by decide) (fun c17 => ?_) (fun c17 => ?_)
          · refine g_aload_n h dX3_readSum_25 rfl rfl ?_
            refine g_getR h fl_X3_15_3 sh_160 (by decide) rfl dX3_readSum_26 ?_
            refine g_iload_n h dX3_readSum_29 rfl rfl ?_
            refine g_V h lv_X3_116_X2 sh_43 (by decide) rfl (c_X2_addWord l (n2) hl0 hl (by omega) (x) _ ((congrFun (LT_o (by decide) (by decide)) 5).trans hx2) ((congrFun (LT_o (by decide) (by decide)) l).trans hn2)) (fitR hR (by decide) (by decide) (by omega)) rfl rfl (Nat.le_of_ble_eq_true rfl) dX3_readSum_30 ?_
            refine g_sto adS_LT ?_
            refine g_iload_n h dX3_readSum_33 rfl rfl ?_
            refine g_iconst (v := nI 1) h dX3_readSum_34 (by decide) ?_
            refine g_icmp_le (tgt := 47) h dX3_readSum_35 (by decide) (fun c35 => ?_) (fun c35 => ?_)
            · have n35 := le_n (by omega) (by omega) (show nI (k) ≤ nI (1) from c35)
              have hk1 : k = 1 := by omega
              rw [if_pos hk1] at hnq
              refine g_aload_n h dX3_readSum_47 rfl rfl ?_
              refine g_V h lv_X3_56_X3 sh_160 (by decide) rfl (c_X6_stepT_160 f L q w (lfS (adS v l n2 x) g a b c) ((lf_oc (by decide) (by decide)).trans (by rw [adS_c (by decide) (by decide)]; exact hf2)) hL hq) (fitR hR (by decide) (by decide) (by omega)) rfl rfl (Nat.le_of_ble_eq_true rfl) dX3_readSum_48 ?_
              refine g_aload_n h dX3_readSum_51 rfl rfl ?_
              refine g_bipush (v := nI 43) h dX3_readSum_52 (by decide) ?_
              refine g_V h lv_X3_88_X3 sh_160 (by decide) rfl (c_X6_atSign_160 f L (nx f L q) w (nI 43) (lfS (adS v l n2 x) g a b c) ((lf_oc (by decide) (by decide)).trans (by rw [adS_c (by decide) (by decide)]; exact hf2)) hL hq3) (fitR hR (by decide) (by decide) (by omega)) rfl rfl (Nat.le_of_ble_eq_true rfl) dX3_readSum_54 ?_
              by_cases n54 : sgP f L (nx f L q) (nI 43)
              · refine g_top (b2_t n54) ?_
                refine g_if_ne (tgt := 62) h dX3_readSum_57 (by decide) (fun _ => ?_) (fun q => absurd q (by decide))
                refine g_aload_n h dX3_readSum_62 rfl rfl ?_
                refine g_V h lv_X3_56_X3 sh_160 (by decide) rfl (c_X6_stepT_160 f L (nx f L q) w (lfS (adS v l n2 x) g a b c) ((lf_oc (by decide) (by decide)).trans (by rw [adS_c (by decide) (by decide)]; exact hf2)) hL hq3) (fitR hR (by decide) (by decide) (by omega)) rfl rfl (Nat.le_of_ble_eq_true rfl) dX3_readSum_63 ?_
                refine g_iinc (v := nI (k + 1)) (ls' := [(0, _), (1, _), (2, _)]) h dX3_readSum_66 rfl (nI_1 k) (by decide) rfl rfl ?_
                refine g_goto (tgt := 2) h dX3_readSum_69 (by decide) ?_
                refine g_del 2 (ls' := [(0, _), (1, _)]) rfl ?_
                exact ih (k + 1) _ (n2 + 1) (adS v l n2 x) (ws ++ [x]) (by omega) (by omega) (nx_b (f := f) hq3).2 (by rw [adW_app, ← hv, ← hn3]; rfl) (by rw [List.length_append, hn3]; rfl) (by rw [if_neg (by omega)]; have := nx_lt (f := f) (sg_lt n54); omega) (by rw [hr, sum_m hw n54, if_pos (decide_eq_true hk1), pre_pre, show decide (k + 1 = 1) = false from decide_eq_false (by omega)])
              · refine g_top (b2_f n54) ?_
                refine g_if_ne (tgt := 62) h dX3_readSum_57 (by decide) (fun q => absurd q (by decide)) (fun _ => ?_)
                refine g_iconst (v := nI 1) h dX3_readSum_60 (by decide) ?_
                exact g_zretP h hrt dX3_readSum_61 (by omega) (by first | exact Or.inl rfl | exact Or.inr rfl | simp) (rs_ok hr (sum_o hw n54) (by rw [if_pos (decide_eq_true hk1)]; rfl) hv hn3)
            · have n35 := nle_n (by omega) (by omega) (show ¬ nI (k) ≤ nI (1) from c35)
              have hk1 : ¬ k = 1 := by omega
              rw [if_neg hk1] at hnq
              refine g_aload_n h dX3_readSum_38 rfl rfl ?_
              refine g_getR h fl_X3_15_3 sh_160 (by decide) rfl dX3_readSum_39 ?_
              refine g_bipush (v := -9) h dX3_readSum_42 (by decide) ?_
              refine g_V h lv_X3_116_X2 sh_43 (by decide) rfl (c_X2_addWord l (n2 + 1) hl0 hl (by omega) (-9) _ ((congrFun (LT_o (by decide) (by decide)) 5).trans ((congrFun (adS_c (by decide) (by decide)) 5).trans hx2)) ((congrFun (LT_o (by decide) (by decide)) l).trans (adS_n (by omega)))) (fitR hR (by decide) (by decide) (by omega)) rfl rfl (Nat.le_of_ble_eq_true rfl) dX3_readSum_44 ?_
              refine g_sto adS_LT ?_
              refine g_aload_n h dX3_readSum_47 rfl rfl ?_
              refine g_V h lv_X3_56_X3 sh_160 (by decide) rfl (c_X6_stepT_160 f L q w (lfS (adS (adS v l n2 x) l (n2 + 1) (-9)) g a b c) ((lf_oc (by decide) (by decide)).trans (by rw [adS_c (by decide) (by decide), adS_c (by decide) (by decide)]; exact hf2)) hL hq) (fitR hR (by decide) (by decide) (by omega)) rfl rfl (Nat.le_of_ble_eq_true rfl) dX3_readSum_48 ?_
              refine g_aload_n h dX3_readSum_51 rfl rfl ?_
              refine g_bipush (v := nI 43) h dX3_readSum_52 (by decide) ?_
              refine g_V h lv_X3_88_X3 sh_160 (by decide) rfl (c_X6_atSign_160 f L (nx f L q) w (nI 43) (lfS (adS (adS v l n2 x) l (n2 + 1) (-9)) g a b c) ((lf_oc (by decide) (by decide)).trans (by rw [adS_c (by decide) (by decide), adS_c (by decide) (by decide)]; exact hf2)) hL hq3) (fitR hR (by decide) (by decide) (by omega)) rfl rfl (Nat.le_of_ble_eq_true rfl) dX3_readSum_54 ?_
              by_cases n54 : sgP f L (nx f L q) (nI 43)
              · refine g_top (b2_t n54) ?_
                refine g_if_ne (tgt := 62) h dX3_readSum_57 (by decide) (fun _ => ?_) (fun q => absurd q (by decide))
                refine g_aload_n h dX3_readSum_62 rfl rfl ?_
                refine g_V h lv_X3_56_X3 sh_160 (by decide) rfl (c_X6_stepT_160 f L (nx f L q) w (lfS (adS (adS v l n2 x) l (n2 + 1) (-9)) g a b c) ((lf_oc (by decide) (by decide)).trans (by rw [adS_c (by decide) (by decide), adS_c (by decide) (by decide)]; exact hf2)) hL hq3) (fitR hR (by decide) (by decide) (by omega)) rfl rfl (Nat.le_of_ble_eq_true rfl) dX3_readSum_63 ?_
                refine g_iinc (v := nI (k + 1)) (ls' := [(0, _), (1, _), (2, _)]) h dX3_readSum_66 rfl (nI_1 k) (by decide) rfl rfl ?_
                refine g_goto (tgt := 2) h dX3_readSum_69 (by decide) ?_
                refine g_del 2 (ls' := [(0, _), (1, _)]) rfl ?_
                exact ih (k + 1) _ (n2 + 2) (adS (adS v l n2 x) l (n2 + 1) (-9)) (ws ++ [x, -9]) (by omega) (by omega) (nx_b (f := f) hq3).2 (by rw [adW_app, ← hv, ← hn3]; rfl) (by rw [List.length_append, hn3]; rfl) (by rw [if_neg (by omega)]; have := nx_lt (f := f) (sg_lt n54); omega) (by rw [hr, sum_m hw n54, if_neg (fun z => hk1 (of_decide_eq_true z)), pre_pre, show decide (k + 1 = 1) = false from decide_eq_false (by omega)])
              · refine g_top (b2_f n54) ?_
                refine g_if_ne (tgt := 62) h dX3_readSum_57 (by decide) (fun q => absurd q (by decide)) (fun _ => ?_)
                refine g_iconst (v := nI 1) h dX3_readSum_60 (by decide) ?_
                exact g_zretP h hrt dX3_readSum_61 (by omega) (by first | exact Or.inl rfl | exact Or.inr rfl | simp) (rs_ok hr (sum_o hw n54) (by rw [if_neg (fun z => hk1 (of_decide_eq_true z))]; rfl) hv hn3)
          · exact absurd c17 (part_ne hw)
        · cases hv10
          refine g_istore_n (ls' := [(0, _), (1, _), (2, _)]) h dX3_readSum_13 rfl (by decide) rfl rfl ?_
          refine g_iload_n h dX3_readSum_14 rfl rfl ?_
          refine g_bipush (v := -100) h dX3_readSum_15 (by decide) ?_
          refine g_icmp_ne (tgt := 25) h dX3_readSum_17 (by decide) (fun c17 => ?_) (fun c17 => ?_)
          · exact absurd rfl c17
          · refine g_aload_n h dX3_readSum_20 rfl rfl ?_
            refine g_V h lv_X3_43_X3 sh_160 (by decide) rfl (c_X6_fail_160 f L q w2 (lfS v g a b c) ((lf_oc (by decide) (by decide)).trans hf2) hL hq) (fitR hR (by decide) (by decide) (by omega)) rfl rfl (Nat.le_of_ble_eq_true rfl) dX3_readSum_21 ?_
            skip
            · skip
              exact g_zretP h hrt dX3_readSum_24 (by omega) (by first | exact Or.inl rfl | exact Or.inr rfl | simp) (rs_er hr (sum_e hw) hd hq)
  refine g_iconst (v := nI 1) h dX3_readSum_0 (by decide) ?_
  refine g_istore_n (ls' := [(0, _), (1, _)]) h dX3_readSum_1 rfl (by decide) rfl rfl ?_
  exact LP 400 1 p n u [] (by omega) (by omega) hp rfl rfl (by rw [if_pos rfl]; omega) pre_nil.symm
theorem qw_1 {u : Sto} {l n : Nat} {g : Nat → Int32} {a b c : Int32} {f : Nat → Int32} {L : Nat} {w : Int32} {R : PW} {x : Int32} {q : Nat} (h : R = .ok ([x], q)) : QW u l n g a b c f L w R (.inl (some (.int (nI 1)))) (LT (adS u l n x) g a b c f L q w) := by
  rw [h]; exact ⟨rfl, rfl⟩
theorem qw_2 {u : Sto} {l n : Nat} {g : Nat → Int32} {a b c : Int32} {f : Nat → Int32} {L : Nat} {w : Int32} {R : PW} {x : Int32} {y z : List Int32} {q : Nat} (h : R = .ok (y ++ z ++ [x], q)) : QW u l n g a b c f L w R (.inl (some (.int (nI 1)))) (LT (adS (adW (adW u l n y) l (n + y.length) z) l (n + y.length + z.length) x) g a b c f L q w) := by
  rw [h]; exact ⟨rfl, by rw [adW_app, adW_app, List.length_append, ← Nat.add_assoc]; rfl⟩
theorem qw_e {u v : Sto} {l n : Nat} {g g2 : Nat → Int32} {a b c a2 b2 c2 : Int32} {f : Nat → Int32} {L : Nat} {w : Int32} {R : PW} {q e : Nat} (h : R = .error e) (hd : dl v u) (hq : q ≤ L) : QW u l n g a b c f L w R (.inl (some (.int (nI 0)))) (LT v g2 a2 b2 c2 f L q (nI e)) := by
  rw [h]; exact ⟨rfl, v, g2, a2, b2, c2, q, hd, hq, rfl⟩
set_option maxHeartbeats 1000000 in
theorem c_X3_readAtom {E : EE} (g : Nat → Int32) (a b c : Int32) (f : Nat → Int32) (L p : Nat) (w : Int32) (l n : Nat) (hl0 : 0 < l) (hl : l ≤ 12) (u : Sto) (hf : u 1 = f) (hL : L ≤ 400) (hp : p ≤ L) (hx : u 43 5 = nI l) (hn : u 45 l = nI n) (hnp : n ≤ p) : CtP E 8 0 yX3_readAtom cX3_readAtom 2 (some .boolean) [.ref (E.ad 160)] (LT u g a b c f L p w) (QW u l n g a b c f L w (plnF f L p)) := by
  refine ctp_of (by decide) (Nat.le_of_ble_eq_true rfl) (fun X h hR hrt htab hargs => ?_)
  refine g_aload_n h dX3_readAtom_0 rfl rfl ?_
  refine g_ldcS (tx := "likes") (k := 1) h (by decide) dX3_readAtom_1 ?_
  refine g_V h lv_X3_52_X3 sh_160 (by decide) rfl (c_X6_atWord_160 f L p w 1 (by decide) (lfS u g a b c) ((lf_oc (by decide) (by decide)).trans hf) hL hp) (fitR hR (by decide) (by decide) (by omega)) rfl rfl (Nat.le_of_ble_eq_true rfl) dX3_readAtom_3 ?_
  by_cases n3 : wdB f L p 1 = true
  · refine g_top (b2_t n3) ?_
    refine g_if_ne (tgt := 18) h dX3_readAtom_6 (by decide) (fun _ => ?_) (fun q => absurd q (by decide))
    refine g_aload_n h dX3_readAtom_18 rfl rfl ?_
    refine g_getR h fl_X3_15_3 sh_160 (by decide) rfl dX3_readAtom_19 ?_
    refine g_aload_n h dX3_readAtom_22 rfl rfl ?_
    refine g_ldcS (tx := "likes") (k := 1) h (by decide) dX3_readAtom_23 ?_
    refine g_V h lv_X3_52_X3 sh_160 (by decide) rfl (c_X6_atWord_160 f L p w 1 (by decide) (lfS u g a b c) ((lf_oc (by decide) (by decide)).trans hf) hL hp) (fitR hR (by decide) (by decide) (by omega)) rfl rfl (Nat.le_of_ble_eq_true rfl) dX3_readAtom_25 ?_
    by_cases n25 : wdB f L p 1 = true
    · refine g_top (b2_t n25) ?_
      refine g_if_eq (tgt := 36) h dX3_readAtom_28 (by decide) (fun q => absurd q (by decide)) (fun _ => ?_)
      refine g_bipush (v := -7) h dX3_readAtom_31 (by decide) ?_
      refine g_goto (tgt := 38) h dX3_readAtom_33 (by decide) ?_
      refine g_V h lv_X3_116_X2 sh_43 (by decide) rfl (c_X2_addWord l (n) hl0 hl (by omega) (-7) _ ((congrFun (LT_o (by decide) (by decide)) 5).trans hx) ((congrFun (LT_o (by decide) (by decide)) l).trans hn)) (fitR hR (by decide) (by decide) (by omega)) rfl rfl (Nat.le_of_ble_eq_true rfl) dX3_readAtom_38 ?_
      refine g_sto adS_LT ?_
      refine g_aload_n h dX3_readAtom_41 rfl rfl ?_
      refine g_V h lv_X3_56_X3 sh_160 (by decide) rfl (c_X6_stepT_160 f L p w (lfS (adS u l n (-7)) g a b c) ((lf_oc (by decide) (by decide)).trans (by rw [adS_c (by decide) (by decide)]; exact hf)) hL hp) (fitR hR (by decide) (by decide) (by omega)) rfl rfl (Nat.le_of_ble_eq_true rfl) dX3_readAtom_42 ?_
      refine g_iconst (v := nI 1) h dX3_readAtom_45 (by decide) ?_
      exact g_zretP h hrt dX3_readAtom_46 (by omega) (by first | exact Or.inl rfl | exact Or.inr rfl | simp) (qw_1 (by rw [plnF, if_pos n3]))
    · exact absurd n3 n25
  · refine g_top (b2_f n3) ?_
    refine g_if_ne (tgt := 18) h dX3_readAtom_6 (by decide) (fun q => absurd q (by decide)) (fun _ => ?_)
    refine g_aload_n h dX3_readAtom_9 rfl rfl ?_
    refine g_ldcS (tx := "beside") (k := 19) h (by decide) dX3_readAtom_10 ?_
    refine g_V h lv_X3_52_X3 sh_160 (by decide) rfl (c_X6_atWord_160 f L p w 19 (by decide) (lfS u g a b c) ((lf_oc (by decide) (by decide)).trans hf) hL hp) (fitR hR (by decide) (by decide) (by omega)) rfl rfl (Nat.le_of_ble_eq_true rfl) dX3_readAtom_12 ?_
    by_cases n12 : wdB f L p 19 = true
    · refine g_top (b2_t n12) ?_
      refine g_if_eq (tgt := 47) h dX3_readAtom_15 (by decide) (fun q => absurd q (by decide)) (fun _ => ?_)
      refine g_aload_n h dX3_readAtom_18 rfl rfl ?_
      refine g_getR h fl_X3_15_3 sh_160 (by decide) rfl dX3_readAtom_19 ?_
      refine g_aload_n h dX3_readAtom_22 rfl rfl ?_
      refine g_ldcS (tx := "likes") (k := 1) h (by decide) dX3_readAtom_23 ?_
      refine g_V h lv_X3_52_X3 sh_160 (by decide) rfl (c_X6_atWord_160 f L p w 1 (by decide) (lfS u g a b c) ((lf_oc (by decide) (by decide)).trans hf) hL hp) (fitR hR (by decide) (by decide) (by omega)) rfl rfl (Nat.le_of_ble_eq_true rfl) dX3_readAtom_25 ?_
      by_cases n25 : wdB f L p 1 = true
      · exact absurd n25 n3
      · refine g_top (b2_f n25) ?_
        refine g_if_eq (tgt := 36) h dX3_readAtom_28 (by decide) (fun _ => ?_) (fun q => absurd q (by decide))
        refine g_bipush (v := -8) h dX3_readAtom_36 (by decide) ?_
        refine g_V h lv_X3_116_X2 sh_43 (by decide) rfl (c_X2_addWord l (n) hl0 hl (by omega) (-8) _ ((congrFun (LT_o (by decide) (by decide)) 5).trans hx) ((congrFun (LT_o (by decide) (by decide)) l).trans hn)) (fitR hR (by decide) (by decide) (by omega)) rfl rfl (Nat.le_of_ble_eq_true rfl) dX3_readAtom_38 ?_
        refine g_sto adS_LT ?_
        refine g_aload_n h dX3_readAtom_41 rfl rfl ?_
        refine g_V h lv_X3_56_X3 sh_160 (by decide) rfl (c_X6_stepT_160 f L p w (lfS (adS u l n (-8)) g a b c) ((lf_oc (by decide) (by decide)).trans (by rw [adS_c (by decide) (by decide)]; exact hf)) hL hp) (fitR hR (by decide) (by decide) (by omega)) rfl rfl (Nat.le_of_ble_eq_true rfl) dX3_readAtom_42 ?_
        refine g_iconst (v := nI 1) h dX3_readAtom_45 (by decide) ?_
        exact g_zretP h hrt dX3_readAtom_46 (by omega) (by first | exact Or.inl rfl | exact Or.inr rfl | simp) (qw_1 (by rw [plnF, if_neg n3, if_pos n12]))
    · refine g_top (b2_f n12) ?_
      refine g_if_eq (tgt := 47) h dX3_readAtom_15 (by decide) (fun _ => ?_) (fun q => absurd q (by decide))
      refine g_aload_n h dX3_readAtom_47 rfl rfl ?_
      refine g_VP h lv_X3_123_X3 sh_160 (by decide) rfl (c_X3_readSum g a b c f L p w l n hl0 hl u hf hL hp hx hn hnp) qw_nx (fitR hR (by decide) (by decide) (by omega)) rfl rfl (Nat.le_of_ble_eq_true rfl) dX3_readAtom_48 (fun v48 u48 hs48 => ?_)
      cases h48 : sumN f L 400 true p
      · rename_i e48
        rw [h48] at hs48
        obtain ⟨hv48, u48, g48, a48, b48, c48, p48, hd48, hp48, rfl⟩ := hs48
        cases hv48
        refine g_if_ne (tgt := 56) h dX3_readAtom_51 (by decide) (fun q => absurd q (by decide)) (fun _ => ?_)
        refine g_iconst (v := nI 0) h dX3_readAtom_54 (by decide) ?_
        exact g_zretP h hrt dX3_readAtom_55 (by omega) (by first | exact Or.inl rfl | exact Or.inr rfl | simp) (qw_e (by rw [plnF, if_neg n3, if_neg n12, h48]) hd48 hp48)
      · rename_i q48
        rw [h48] at hs48
        obtain ⟨hv48, rfl⟩ := hs48
        cases hv48
        have B := sum_b hp h48
        simp only [if_true] at B
        have hfA : adW u l n q48.1 1 = f := by rw [adW_c (by decide) (by decide)]; exact hf
        have hxA : adW u l n q48.1 43 5 = nI l := by rw [adW_c (by decide) (by decide)]; exact hx
        have hnA : adW u l n q48.1 45 l = nI (n + q48.1.length) := adW_n _ _ _ hn (by omega)
        refine g_if_ne (tgt := 56) h dX3_readAtom_51 (by decide) (fun _ => ?_) (fun q => absurd q (by decide))
        refine g_aload_n h dX3_readAtom_56 rfl rfl ?_
        refine g_bipush (v := nI 60) h dX3_readAtom_57 (by decide) ?_
        refine g_V h lv_X3_88_X3 sh_160 (by decide) rfl (c_X6_atSign_160 f L q48.2 w (nI 60) (lfS (adW u l n q48.1) g a b c) ((lf_oc (by decide) (by decide)).trans hfA) hL B.2.1) (fitR hR (by decide) (by decide) (by omega)) rfl rfl (Nat.le_of_ble_eq_true rfl) dX3_readAtom_59 ?_
        by_cases n59 : sgP f L q48.2 (nI 60)
        · refine g_top (b2_t n59) ?_
          have hor : sgP f L q48.2 (nI 60) ∨ sgP f L q48.2 (nI 62) := Or.inl n59
          refine g_if_ne (tgt := 79) h dX3_readAtom_62 (by decide) (fun _ => ?_) (fun q => absurd q (by decide))
          refine g_aload_n h dX3_readAtom_79 rfl rfl ?_
          refine g_bipush (v := nI 60) h dX3_readAtom_80 (by decide) ?_
          refine g_V h lv_X3_88_X3 sh_160 (by decide) rfl (c_X6_atSign_160 f L q48.2 w (nI 60) (lfS (adW u l n q48.1) g a b c) ((lf_oc (by decide) (by decide)).trans hfA) hL B.2.1) (fitR hR (by decide) (by decide) (by omega)) rfl rfl (Nat.le_of_ble_eq_true rfl) dX3_readAtom_82 ?_
          by_cases n82 : sgP f L q48.2 (nI 60)
          · refine g_top (b2_t n82) ?_
            refine g_if_eq (tgt := 93) h dX3_readAtom_85 (by decide) (fun q => absurd q (by decide)) (fun _ => ?_)
            refine g_bipush (v := -10) h dX3_readAtom_88 (by decide) ?_
            refine g_goto (tgt := 95) h dX3_readAtom_90 (by decide) ?_
            refine g_istore_n (ls' := [(0, _), (1, _)]) h dX3_readAtom_95 rfl (by decide) rfl rfl ?_
            refine g_aload_n h dX3_readAtom_96 rfl rfl ?_
            refine g_V h lv_X3_56_X3 sh_160 (by decide) rfl (c_X6_stepT_160 f L q48.2 w (lfS (adW u l n q48.1) g a b c) ((lf_oc (by decide) (by decide)).trans hfA) hL B.2.1) (fitR hR (by decide) (by decide) (by omega)) rfl rfl (Nat.le_of_ble_eq_true rfl) dX3_readAtom_97 ?_
            have hlt := nx_lt (f := f) (hor.elim sg_lt sg_lt)
            refine g_aload_n h dX3_readAtom_100 rfl rfl ?_
            refine g_VP h lv_X3_123_X3 sh_160 (by decide) rfl (c_X3_readSum g a b c f L (nx f L q48.2) w l (n + q48.1.length) hl0 hl (adW u l n q48.1) hfA hL (nx_b (f := f) B.2.1).2 hxA hnA (by omega)) qw_nx (fitR hR (by decide) (by decide) (by omega)) rfl rfl (Nat.le_of_ble_eq_true rfl) dX3_readAtom_101 (fun v101 u101 hs101 => ?_)
            cases h101 : sumN f L 400 true (nx f L q48.2)
            · rename_i e101
              rw [h101] at hs101
              obtain ⟨hv101, u101, g101, a101, b101, c101, p101, hd101, hp101, rfl⟩ := hs101
              cases hv101
              refine g_if_ne (tgt := 109) h dX3_readAtom_104 (by decide) (fun q => absurd q (by decide)) (fun _ => ?_)
              refine g_iconst (v := nI 0) h dX3_readAtom_107 (by decide) ?_
              exact g_zretP h hrt dX3_readAtom_108 (by omega) (by first | exact Or.inl rfl | exact Or.inr rfl | simp) (qw_e (by rw [plnF, if_neg n3, if_neg n12, h48]; exact (if_pos hor).trans (by rw [h101])) (hd101.trans dl_adW) hp101)
            · rename_i q101
              rw [h101] at hs101
              obtain ⟨hv101, rfl⟩ := hs101
              cases hv101
              have C := sum_b (nx_b (f := f) B.2.1).2 h101
              simp only [if_true] at C
              have hxC : adW (adW u l n q48.1) l (n + q48.1.length) q101.1 43 5 = nI l := by rw [adW_c (by decide) (by decide)]; exact hxA
              have hnC : adW (adW u l n q48.1) l (n + q48.1.length) q101.1 45 l = nI (n + q48.1.length + q101.1.length) := adW_n _ _ _ hnA (by omega)
              refine g_if_ne (tgt := 109) h dX3_readAtom_104 (by decide) (fun _ => ?_) (fun q => absurd q (by decide))
              refine g_aload_n h dX3_readAtom_109 rfl rfl ?_
              refine g_getR h fl_X3_15_3 sh_160 (by decide) rfl dX3_readAtom_110 ?_
              refine g_iload_n h dX3_readAtom_113 rfl rfl ?_
              refine g_V h lv_X3_116_X2 sh_43 (by decide) rfl (c_X2_addWord l (n + q48.1.length + q101.1.length) hl0 hl (by omega) (-10) _ ((congrFun (LT_o (by decide) (by decide)) 5).trans hxC) ((congrFun (LT_o (by decide) (by decide)) l).trans hnC)) (fitR hR (by decide) (by decide) (by omega)) rfl rfl (Nat.le_of_ble_eq_true rfl) dX3_readAtom_114 ?_
              refine g_sto adS_LT ?_
              refine g_iconst (v := nI 1) h dX3_readAtom_117 (by decide) ?_
              exact g_zretP h hrt dX3_readAtom_118 (by omega) (by first | exact Or.inl rfl | exact Or.inr rfl | simp) (qw_2 (by rw [plnF, if_neg n3, if_neg n12, h48]; exact (if_pos hor).trans (by rw [h101, if_pos n82])))
          · exact absurd n59 n82
        · refine g_top (b2_f n59) ?_
          refine g_if_ne (tgt := 79) h dX3_readAtom_62 (by decide) (fun q => absurd q (by decide)) (fun _ => ?_)
          refine g_aload_n h dX3_readAtom_65 rfl rfl ?_
          refine g_bipush (v := nI 62) h dX3_readAtom_66 (by decide) ?_
          refine g_V h lv_X3_88_X3 sh_160 (by decide) rfl (c_X6_atSign_160 f L q48.2 w (nI 62) (lfS (adW u l n q48.1) g a b c) ((lf_oc (by decide) (by decide)).trans hfA) hL B.2.1) (fitR hR (by decide) (by decide) (by omega)) rfl rfl (Nat.le_of_ble_eq_true rfl) dX3_readAtom_68 ?_
          by_cases n68 : sgP f L q48.2 (nI 62)
          · refine g_top (b2_t n68) ?_
            have hor : sgP f L q48.2 (nI 60) ∨ sgP f L q48.2 (nI 62) := Or.inr n68
            refine g_if_ne (tgt := 79) h dX3_readAtom_71 (by decide) (fun _ => ?_) (fun q => absurd q (by decide))
            refine g_aload_n h dX3_readAtom_79 rfl rfl ?_
            refine g_bipush (v := nI 60) h dX3_readAtom_80 (by decide) ?_
            refine g_V h lv_X3_88_X3 sh_160 (by decide) rfl (c_X6_atSign_160 f L q48.2 w (nI 60) (lfS (adW u l n q48.1) g a b c) ((lf_oc (by decide) (by decide)).trans hfA) hL B.2.1) (fitR hR (by decide) (by decide) (by omega)) rfl rfl (Nat.le_of_ble_eq_true rfl) dX3_readAtom_82 ?_
            by_cases n82 : sgP f L q48.2 (nI 60)
            · exact absurd n82 n59
            · refine g_top (b2_f n82) ?_
              refine g_if_eq (tgt := 93) h dX3_readAtom_85 (by decide) (fun _ => ?_) (fun q => absurd q (by decide))
              refine g_bipush (v := -11) h dX3_readAtom_93 (by decide) ?_
              refine g_istore_n (ls' := [(0, _), (1, _)]) h dX3_readAtom_95 rfl (by decide) rfl rfl ?_
              refine g_aload_n h dX3_readAtom_96 rfl rfl ?_
              refine g_V h lv_X3_56_X3 sh_160 (by decide) rfl (c_X6_stepT_160 f L q48.2 w (lfS (adW u l n q48.1) g a b c) ((lf_oc (by decide) (by decide)).trans hfA) hL B.2.1) (fitR hR (by decide) (by decide) (by omega)) rfl rfl (Nat.le_of_ble_eq_true rfl) dX3_readAtom_97 ?_
              have hlt := nx_lt (f := f) (hor.elim sg_lt sg_lt)
              refine g_aload_n h dX3_readAtom_100 rfl rfl ?_
              refine g_VP h lv_X3_123_X3 sh_160 (by decide) rfl (c_X3_readSum g a b c f L (nx f L q48.2) w l (n + q48.1.length) hl0 hl (adW u l n q48.1) hfA hL (nx_b (f := f) B.2.1).2 hxA hnA (by omega)) qw_nx (fitR hR (by decide) (by decide) (by omega)) rfl rfl (Nat.le_of_ble_eq_true rfl) dX3_readAtom_101 (fun v101 u101 hs101 => ?_)
              cases h101 : sumN f L 400 true (nx f L q48.2)
              · rename_i e101
                rw [h101] at hs101
                obtain ⟨hv101, u101, g101, a101, b101, c101, p101, hd101, hp101, rfl⟩ := hs101
                cases hv101
                refine g_if_ne (tgt := 109) h dX3_readAtom_104 (by decide) (fun q => absurd q (by decide)) (fun _ => ?_)
                refine g_iconst (v := nI 0) h dX3_readAtom_107 (by decide) ?_
                exact g_zretP h hrt dX3_readAtom_108 (by omega) (by first | exact Or.inl rfl | exact Or.inr rfl | simp) (qw_e (by rw [plnF, if_neg n3, if_neg n12, h48]; exact (if_pos hor).trans (by rw [h101])) (hd101.trans dl_adW) hp101)
              · rename_i q101
                rw [h101] at hs101
                obtain ⟨hv101, rfl⟩ := hs101
                cases hv101
                have C := sum_b (nx_b (f := f) B.2.1).2 h101
                simp only [if_true] at C
                have hxC : adW (adW u l n q48.1) l (n + q48.1.length) q101.1 43 5 = nI l := by rw [adW_c (by decide) (by decide)]; exact hxA
                have hnC : adW (adW u l n q48.1) l (n + q48.1.length) q101.1 45 l = nI (n + q48.1.length + q101.1.length) := adW_n _ _ _ hnA (by omega)
                refine g_if_ne (tgt := 109) h dX3_readAtom_104 (by decide) (fun _ => ?_) (fun q => absurd q (by decide))
                refine g_aload_n h dX3_readAtom_109 rfl rfl ?_
                refine g_getR h fl_X3_15_3 sh_160 (by decide) rfl dX3_readAtom_110 ?_
                refine g_iload_n h dX3_readAtom_113 rfl rfl ?_
                refine g_V h lv_X3_116_X2 sh_43 (by decide) rfl (c_X2_addWord l (n + q48.1.length + q101.1.length) hl0 hl (by omega) (-11) _ ((congrFun (LT_o (by decide) (by decide)) 5).trans hxC) ((congrFun (LT_o (by decide) (by decide)) l).trans hnC)) (fitR hR (by decide) (by decide) (by omega)) rfl rfl (Nat.le_of_ble_eq_true rfl) dX3_readAtom_114 ?_
                refine g_sto adS_LT ?_
                refine g_iconst (v := nI 1) h dX3_readAtom_117 (by decide) ?_
                exact g_zretP h hrt dX3_readAtom_118 (by omega) (by first | exact Or.inl rfl | exact Or.inr rfl | simp) (qw_2 (by rw [plnF, if_neg n3, if_neg n12, h48]; exact (if_pos hor).trans (by rw [h101, if_neg n82])))
          · refine g_top (b2_f n68) ?_
            have hor : ¬ (sgP f L q48.2 (nI 60) ∨ sgP f L q48.2 (nI 62)) := fun z => z.elim n59 n68
            refine g_if_ne (tgt := 79) h dX3_readAtom_71 (by decide) (fun q => absurd q (by decide)) (fun _ => ?_)
            refine g_aload_n h dX3_readAtom_74 rfl rfl ?_
            refine g_V h lv_X3_43_X3 sh_160 (by decide) rfl (c_X6_fail_160 f L q48.2 w (lfS (adW u l n q48.1) g a b c) ((lf_oc (by decide) (by decide)).trans hfA) hL B.2.1) (fitR hR (by decide) (by decide) (by omega)) rfl rfl (Nat.le_of_ble_eq_true rfl) dX3_readAtom_75 ?_
            skip
            · skip
              exact g_zretP h hrt dX3_readAtom_78 (by omega) (by first | exact Or.inl rfl | exact Or.inr rfl | simp) (qw_e (by rw [plnF, if_neg n3, if_neg n12, h48]; exact if_neg hor) dl_adW B.2.1)
