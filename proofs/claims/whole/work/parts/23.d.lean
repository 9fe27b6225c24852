theorem ldel_has {ar : Array Slot} {nL i : Nat} {ls ls' : List (Nat × Value)} (h : lv_has ar nL ls) (hs : ldel ls i = ls') : lv_has ar nL ls' := ⟨h.1, h.2.1, fun q hq => h.2.2 q (ldel_mem (by rw [hs]; exact hq)).1⟩
theorem g_del {E : EE} {X : XX} {Q : State → Prop} {nL n pc : Nat} {ls ls' : List (Nat × Value)} {st : List Value} {u : Sto} (i : Nat) (hs : ldel ls i = ls') (kk : G E X Q nL n pc ls' st u) : G E X Q nL n pc ls st u := fun H locs ar hP hS hl => kk H locs ar hP hS (ldel_has hl hs)
/-- the law's machine: its stack as a list, the top ahead -/
def stL (fa : Nat → Int32) (w : Int32) (s : List Int32) : List Int32 :=
  if w < -8 then (if w = -12 then (match s with | [] => [] | x :: t => (nI 1 - x) :: t) else (match s with | y :: x :: t => jn w x y :: t | s => s))
  else if 40 ≤ s.length then s else (if w < 0 then fa (ix (-1 - w)) else w) :: s
def runL (fa ws : Nat → Int32) (b : Nat) : Nat → List Int32
  | 0 => []
  | k + 1 => stL fa (ws (b + k)) (runL fa ws b k)
def stk (f : Nat → Int32) : List Int32 → Prop
  | [] => True
  | x :: t => f t.length = x ∧ stk f t
def botL : List Int32 → Int32
  | [] => 0
  | [x] => x
  | _ :: t => botL t
theorem stk_upd {f : Nat → Int32} {i : Nat} {v : Int32} : ∀ {s : List Int32}, stk f s → s.length ≤ i → stk (upd f i v) s
  | [], _, _ => trivial
  | x :: t, h, hi => by
    have h1 : t.length < i := hi
    exact ⟨by rw [pk_un (by omega)]; exact h.1, stk_upd h.2 (by omega)⟩
theorem stk_push {f : Nat → Int32} {s : List Int32} (h : stk f s) (v : Int32) : stk (upd f s.length v) (v :: s) := ⟨pk_us, stk_upd h (Nat.le_refl _)⟩
theorem stk_bot {f : Nat → Int32} : ∀ {s : List Int32}, stk f s → s ≠ [] → f 0 = botL s
  | [], _, h => absurd rfl h
  | [x], h, _ => h.1
  | x :: y :: t, h, _ => by
    show f 0 = botL (y :: t)
    exact stk_bot h.2 (by simp)
theorem stL_len {fa : Nat → Int32} {w : Int32} {s : List Int32} (h : s.length ≤ 40) : (stL fa w s).length ≤ 40 := by
  unfold stL
  split
  · split
    · match s, h with
      | [], _ => exact Nat.zero_le _
      | x :: t, h => exact h
    · match s, h with
      | [], _ => exact Nat.zero_le _
      | [x], h => exact h
      | y :: x :: t, h =>
        simp only [List.length_cons] at h ⊢
        omega
  · split
    · exact h
    · simp only [List.length_cons]
      omega
theorem runL_len {fa ws : Nat → Int32} {b : Nat} : ∀ {k : Nat}, (runL fa ws b k).length ≤ 40
  | 0 => Nat.zero_le _
  | k + 1 => stL_len runL_len
theorem su_sc (u : Sto) (k i : Nat) (f : Nat → Int32) (v : Int32) : su (sc u k f) k i v = sc u k (upd f i v) := by
  funext a
  by_cases h : a = k
  · subst h
    rw [su_at, sc_at, sc_at]
  · rw [su_cell _ _ h, sc_ne _ _ h, sc_ne _ _ h]
theorem sc_self (u : Sto) (k : Nat) : sc u k (u k) = u := by
  funext a
  by_cases h : a = k
  · subst h; rw [sc_at]
  · rw [sc_ne _ _ h]
theorem wi_fact {w : Int32} (h1 : ¬ w < -8) (h2 : w < 0) : ∃ j, j < 8 ∧ -1 - w = nI j := by
  have e1 : -8 ≤ w.toInt := by
    have := Int32.not_lt.mp h1
    have := Int32.le_iff_toInt_le.mp this
    have h8 : (-8 : Int32).toInt = -8 := by decide
    omega
  have e2 : w.toInt < 0 := by
    have := Int32.lt_iff_toInt_lt.mp h2
    have h8 : (0 : Int32).toInt = 0 := by decide
    omega
  refine ⟨(-1 - w.toInt).toNat, by omega, Int32.toInt_inj.mp ?_⟩
  rw [nI_toInt (by omega), Int32.toInt_sub]
  have h8 : (-1 : Int32).toInt = -1 := by decide
  rw [h8, Int.bmod_eq_of_le (by omega) (by omega)]
  omega
theorem stL_full {fa : Nat → Int32} {w : Int32} {s : List Int32} (h : ¬ w < -8) (hl : 40 ≤ s.length) : stL fa w s = s := by unfold stL; rw [if_neg h, if_pos hl]
theorem stL_push {fa : Nat → Int32} {w : Int32} {s : List Int32} (h : ¬ w < -8) (hl : s.length < 40) : stL fa w s = (if w < 0 then fa (ix (-1 - w)) else w) :: s := by unfold stL; rw [if_neg h, if_neg (by omega)]
theorem stL_bin0 {fa : Nat → Int32} {w : Int32} {s : List Int32} (h : w < -8) (h2 : ¬ w = -12) (hl : s.length ≤ 1) : stL fa w s = s := by
  unfold stL
  rw [if_pos h, if_neg h2]
  match s, hl with
  | [], _ => rfl
  | [x], _ => rfl
theorem stL_bin {fa : Nat → Int32} {w : Int32} {s : List Int32} (h : w < -8) (h2 : ¬ w = -12) (hl : 1 < s.length) : ∃ y x t, s = y :: x :: t ∧ stL fa w s = jn w x y :: t := by
  match s, hl with
  | y :: x :: t, _ => exact ⟨y, x, t, rfl, by rw [stL, if_pos h, if_neg h2]⟩
theorem stL_not0 {fa : Nat → Int32} {w : Int32} {s : List Int32} (h : w < -8) (h2 : w = -12) (hl : s.length ≤ 0) : stL fa w s = s := by
  unfold stL
  rw [if_pos h, if_pos h2]
  match s, hl with
  | [], _ => rfl
theorem stL_not {fa : Nat → Int32} {w : Int32} {s : List Int32} (h : w < -8) (h2 : w = -12) (hl : 0 < s.length) : ∃ x t, s = x :: t ∧ stL fa w s = (nI 1 - x) :: t := by
  match s, hl with
  | x :: t, _ => exact ⟨x, t, rfl, by rw [stL, if_pos h, if_pos h2]⟩
theorem pk_dec {a : Nat} (h : 0 < a) : nI a + Int32.ofInt (-1) = nI (a - 1) := by
  obtain ⟨b, rfl⟩ : ∃ b, a = b + 1 := ⟨a - 1, by omega⟩
  exact pk_m1 b
def hldB (fa : Nat → Int32) (u : Sto) (l : Nat) : Bool := let s := runL fa (u 20) (ix (u 21 l)) (ix (u 21 (l + 1)) - ix (u 21 l)); s.isEmpty || decide (¬ botL s = 0)
theorem hld_eq {fa : Nat → Int32} {u : Sto} {l b e : Nat} (hb : u 21 l = nI b) (he : u 21 (l + 1) = nI e) (hb4 : b < 2 ^ 31 := by omega) (he4 : e < 2 ^ 31 := by omega) : hldB fa u l = ((runL fa (u 20) b (e - b)).isEmpty || decide (¬ botL (runL fa (u 20) b (e - b)) = 0)) := by
  have e1 : ix (u 21 l) = b := by rw [hb]; exact ix_nI hb4
  have e2 : ix (u 21 (l + 1)) = e := by rw [he]; exact ix_nI he4
  unfold hldB
  rw [e1, e2]
theorem hold_e {s : List Int32} (h : s.length = 0) : (s.isEmpty || decide (¬ botL s = 0)) = true := by
  rw [List.eq_nil_of_length_eq_zero h]; rfl
theorem hold_n {f : Nat → Int32} {s : List Int32} (hf : stk f s) (h : ¬ s.length = 0) (h0 : f 0 = 0) : ¬ (s.isEmpty || decide (¬ botL s = 0)) = true := by
  have hn : s ≠ [] := fun q => h (by rw [q]; rfl)
  have e := stk_bot hf hn
  rw [h0] at e
  simp [hn, ← e]
theorem hold_y {f : Nat → Int32} {s : List Int32} (hf : stk f s) (h : ¬ s.length = 0) (h0 : ¬ f 0 = 0) : (s.isEmpty || decide (¬ botL s = 0)) = true := by
  have hn : s ≠ [] := fun q => h (by rw [q]; rfl)
  have e := stk_bot hf hn
  rw [e] at h0
  simp [h0]
def lwB (u : Sto) (n : Nat) : Prop := n ≤ 12 ∧ (∀ l, l ≤ n → u 21 l = nI (ix (u 21 l)) ∧ ix (u 21 l) ≤ 400) ∧ ∀ l, l < n → ix (u 21 l) ≤ ix (u 21 (l + 1))
abbrev P24 (v : Option Value) (u : Sto) : Res → Sto → Prop := fun o u' => o = .inl v ∧ ∃ f, u' = sc u 24 f
theorem p24_nx {v : Option Value} {u : Sto} : ∀ Ex u', ¬ P24 v u (.inr Ex) u' := fun _ _ h => nomatch h.1
set_option maxHeartbeats 1000000 in
theorem c_X2_holds {E : EE} (l b e : Nat) (hl : l < 12) (hbe : b ≤ e) (he4 : e ≤ 400) (u : Sto) (hb : u 21 l = nI b) (he : u 21 (l + 1) = nI e) : CtP E 2 0 yX2_holds cX2_holds 6 (some .boolean) [.ref (E.ad 19), .int (nI l), .ref (E.ad 25)] u (P24 (some (.int (b2 (hldB (u 25) u l = true)))) u) := by
  refine ctp_of (by decide) (Nat.le_of_ble_eq_true rfl) (fun X h hR hrt htab hargs => ?_)
  have LP : ∀ j k : Nat, ∀ f : Nat → Int32, stk f (runL (u 25) (u 20) b k) → e - b < k + j → k ≤ e - b → G E X (QMP E X (P24 (some (.int (b2 (hldB (u 25) u l = true)))) u) 0) 6 0 10 [(0, .ref (E.ad 19)), (1, .int (nI l)), (2, .ref (E.ad 25)), (3, .int (nI ((runL (u 25) (u 20) b k).length))), (4, .int (nI (b + k)))] [] (sc u 24 f) := by
    intro j
    induction j with
    | zero => intro k f hf h1 h2; omega
    | succ j ih =>
      intro k f hf h1 h2
      have hlen : (runL (u 25) (u 20) b k).length ≤ 40 := runL_len
      obtain ⟨w, hw⟩ : ∃ w, u 20 (b + k) = w := ⟨_, rfl⟩
      have hwk : sc u 24 f 20 (b + k) = w := by rw [sc_ne _ _ (by decide)]; exact hw
      have hr1 : runL (u 25) (u 20) b (k + 1) = stL (u 25) w (runL (u 25) (u 20) b k) := by rw [runL, hw]
      generalize hs : (runL (u 25) (u 20) b k) = s at hf hlen hr1 ⊢
      refine g_iload h dX2_holds_10 rfl ?_
      refine g_aload_n h dX2_holds_12 rfl rfl ?_
      refine g_getR h fl_X2_15_2 sh_19 (by decide) rfl dX2_holds_13 ?_
      refine g_iload_n h dX2_holds_16 rfl rfl ?_
      refine g_iconst (v := nI 1) h dX2_holds_17 (by decide) ?_
      refine g_iadd h dX2_holds_18 ?_
      refine g_top (nI_add l 1) ?_
      refine g_iald h _ _ _ sh_21 (by decide) (by decide) rfl (by omega) dX2_holds_19 ?_
      refine g_top (y := nI e) (by rw [sc_ne _ _ (by decide)]; exact he) ?_
      refine g_icmp_ge (tgt := 146) h dX2_holds_20 (by decide) (fun c20 => ?_) (fun c20 => ?_)
      · have n20 := le_n (by omega) (by omega) (show nI (e) ≤ nI (b + k) from c20)
        obtain rfl : k = e - b := by omega
        refine g_iload_n h dX2_holds_146 rfl rfl ?_
        refine g_if_eq (tgt := 159) h dX2_holds_147 (by decide) (fun c147 => ?_) (fun c147 => ?_)
        · skip
          refine g_iconst (v := nI 1) h dX2_holds_159 (by decide) ?_
          refine g_goto (tgt := 164) h dX2_holds_160 (by decide) ?_
          exact g_zretP h hrt dX2_holds_164 (by omega) (by first | exact Or.inl rfl | exact Or.inr rfl | simp) ⟨by rw [b2_t (show hldB (u 25) u l = true by rw [hld_eq hb he, hs]; exact hold_e (eq_n (by omega) (by omega) (show nI s.length = nI 0 from c147)))], f, rfl⟩
        · refine g_aload_n h dX2_holds_150 rfl rfl ?_
          refine g_getR h fl_X2_24_2 sh_19 (by decide) rfl dX2_holds_151 ?_
          refine g_iconst (v := nI 0) h dX2_holds_154 (by decide) ?_
          refine g_iald h _ _ _ sh_24 (by decide) (by decide) rfl (by omega) dX2_holds_155 ?_
          refine g_if_eq (tgt := 163) h dX2_holds_156 (by decide) (fun c156 => ?_) (fun c156 => ?_)
          · refine g_iconst (v := nI 0) h dX2_holds_163 (by decide) ?_
            exact g_zretP h hrt dX2_holds_164 (by omega) (by first | exact Or.inl rfl | exact Or.inr rfl | simp) ⟨by rw [b2_f (show ¬ hldB (u 25) u l = true by rw [hld_eq hb he, hs]; exact hold_n hf (fun q => c147 (by rw [q]; rfl)) (by rw [sc_at] at c156; exact c156))], f, rfl⟩
          · refine g_iconst (v := nI 1) h dX2_holds_159 (by decide) ?_
            refine g_goto (tgt := 164) h dX2_holds_160 (by decide) ?_
            exact g_zretP h hrt dX2_holds_164 (by omega) (by first | exact Or.inl rfl | exact Or.inr rfl | simp) ⟨by rw [b2_t (show hldB (u 25) u l = true by rw [hld_eq hb he, hs]; exact hold_y hf (fun q => c147 (by rw [q]; rfl)) (by rw [sc_at] at c156; exact c156))], f, rfl⟩
      · have n20 := nle_n (by omega) (by omega) (show ¬ nI (e) ≤ nI (b + k) from c20)
        refine g_aload_n h dX2_holds_23 rfl rfl ?_
        refine g_getR h fl_X2_9_2 sh_19 (by decide) rfl dX2_holds_24 ?_
        refine g_iload h dX2_holds_27 rfl ?_
        refine g_iald h _ _ _ sh_20 (by decide) (by decide) rfl (by omega) dX2_holds_29 ?_
        refine g_top hwk ?_
        refine g_istore (ls' := [(0, _), (1, _), (2, _), (3, _), (4, _), (5, _)]) h dX2_holds_30 (by decide) rfl rfl ?_
        refine g_iload h dX2_holds_32 rfl ?_
        refine g_bipush (v := -8) h dX2_holds_34 (by decide) ?_
        refine g_icmp_lt (tgt := 73) h dX2_holds_36 (by decide) (fun c36 => ?_) (fun c36 => ?_)
        · refine g_iload h dX2_holds_73 rfl ?_
          refine g_bipush (v := -12) h dX2_holds_75 (by decide) ?_
          refine g_icmp_ne (tgt := 105) h dX2_holds_77 (by decide) (fun c77 => ?_) (fun c77 => ?_)
          · refine g_iload_n h dX2_holds_105 rfl rfl ?_
            refine g_iconst (v := nI 1) h dX2_holds_106 (by decide) ?_
            refine g_icmp_le (tgt := 140) h dX2_holds_107 (by decide) (fun c107 => ?_) (fun c107 => ?_)
            · have n107 := le_n (by omega) (by omega) (show nI (s.length) ≤ nI (1) from c107)
              refine g_iinc (v := nI (b + (k + 1))) (ls' := [(0, _), (1, _), (2, _), (3, _), (4, _), (5, _)]) h dX2_holds_140 rfl (inc1 (b + k)) (by decide) rfl rfl ?_
              refine g_goto (tgt := 10) h dX2_holds_143 (by decide) ?_
              refine g_del 5 (ls' := [(0, _), (1, _), (2, _), (3, _), (4, _)]) rfl ?_
              have q := stL_bin0 (fa := u 25) c36 c77 n107
              exact g_cv (by rw [hr1, q]) rfl (ih (k + 1) f (by rw [hr1, q]; exact hf) (by omega) (by omega))
            · have n107 := nle_n (by omega) (by omega) (show ¬ nI (s.length) ≤ nI (1) from c107)
              refine g_iinc (v := nI (s.length - 1)) (ls' := [(0, _), (1, _), (2, _), (3, _), (4, _), (5, _)]) h dX2_holds_110 rfl (pk_dec (by omega)) (by decide) rfl rfl ?_
              refine g_aload_n h dX2_holds_113 rfl rfl ?_
              refine g_getR h fl_X2_24_2 sh_19 (by decide) rfl dX2_holds_114 ?_
              refine g_iload_n h dX2_holds_117 rfl rfl ?_
              refine g_iconst (v := nI 1) h dX2_holds_118 (by decide) ?_
              refine g_isub h dX2_holds_119 ?_
              refine g_top (pk_sub (a := s.length - 1) (b := 1) (by omega)) ?_
              refine g_iload h dX2_holds_120 rfl ?_
              refine g_aload_n h dX2_holds_122 rfl rfl ?_
              refine g_getR h fl_X2_24_2 sh_19 (by decide) rfl dX2_holds_123 ?_
              refine g_iload_n h dX2_holds_126 rfl rfl ?_
              refine g_iconst (v := nI 1) h dX2_holds_127 (by decide) ?_
              refine g_isub h dX2_holds_128 ?_
              refine g_top (pk_sub (a := s.length - 1) (b := 1) (by omega)) ?_
              refine g_iald h _ _ _ sh_24 (by decide) (by decide) rfl (by omega) dX2_holds_129 ?_
              refine g_aload_n h dX2_holds_130 rfl rfl ?_
              refine g_getR h fl_X2_24_2 sh_19 (by decide) rfl dX2_holds_131 ?_
              refine g_iload_n h dX2_holds_134 rfl rfl ?_
              refine g_iald h _ _ _ sh_24 (by decide) (by decide) rfl (by omega) dX2_holds_135 ?_
              refine g_S h ls_X2_41 (c_X2_join _ _ _ _) (fitR hR (by decide) (by decide) (by omega)) rfl rfl (Nat.le_of_ble_eq_true rfl) dX2_holds_136 ?_
              refine g_iast h _ _ _ sh_24 (by decide) (by decide) rfl (by omega) dX2_holds_139 ?_
              refine g_iinc (v := nI (b + (k + 1))) (ls' := [(0, _), (1, _), (2, _), (3, _), (4, _), (5, _)]) h dX2_holds_140 rfl (inc1 (b + k)) (by decide) rfl rfl ?_
              refine g_goto (tgt := 10) h dX2_holds_143 (by decide) ?_
              refine g_del 5 (ls' := [(0, _), (1, _), (2, _), (3, _), (4, _)]) rfl ?_
              obtain ⟨y9, x9, t9, rfl, q⟩ := stL_bin (fa := u 25) c36 c77 n107
              have q1 : f (t9.length + 1) = y9 := hf.1
              have q2 : f t9.length = x9 := hf.2.1
              exact g_cv (by rw [hr1, q]; rfl) (by rw [su_sc, sc_at]; simp [q1, q2]) (ih (k + 1) (upd f t9.length (jn w x9 y9)) (by rw [hr1, q]; exact stk_push hf.2.2 _) (by omega) (by omega))
          · refine g_iload_n h dX2_holds_80 rfl rfl ?_
            refine g_if_le (tgt := 140) h dX2_holds_81 (by decide) (fun c81 => ?_) (fun c81 => ?_)
            · have n81 := le_n (by omega) (by omega) (show nI (s.length) ≤ nI (0) from c81)
              refine g_iinc (v := nI (b + (k + 1))) (ls' := [(0, _), (1, _), (2, _), (3, _), (4, _), (5, _)]) h dX2_holds_140 rfl (inc1 (b + k)) (by decide) rfl rfl ?_
              refine g_goto (tgt := 10) h dX2_holds_143 (by decide) ?_
              refine g_del 5 (ls' := [(0, _), (1, _), (2, _), (3, _), (4, _)]) rfl ?_
              have q := stL_not0 (fa := u 25) c36 c77 n81
              exact g_cv (by rw [hr1, q]) rfl (ih (k + 1) f (by rw [hr1, q]; exact hf) (by omega) (by omega))
            · have n81 := nle_n (by omega) (by omega) (show ¬ nI (s.length) ≤ nI (0) from c81)
              refine g_aload_n h dX2_holds_84 rfl rfl ?_
              refine g_getR h fl_X2_24_2 sh_19 (by decide) rfl dX2_holds_85 ?_
              refine g_iload_n h dX2_holds_88 rfl rfl ?_
              refine g_iconst (v := nI 1) h dX2_holds_89 (by decide) ?_
              refine g_isub h dX2_holds_90 ?_
              refine g_top (pk_sub (a := s.length) (b := 1) (by omega)) ?_
              refine g_iconst (v := nI 1) h dX2_holds_91 (by decide) ?_
              refine g_aload_n h dX2_holds_92 rfl rfl ?_
              refine g_getR h fl_X2_24_2 sh_19 (by decide) rfl dX2_holds_93 ?_
              refine g_iload_n h dX2_holds_96 rfl rfl ?_
              refine g_iconst (v := nI 1) h dX2_holds_97 (by decide) ?_
              refine g_isub h dX2_holds_98 ?_
              refine g_top (pk_sub (a := s.length) (b := 1) (by omega)) ?_
              refine g_iald h _ _ _ sh_24 (by decide) (by decide) rfl (by omega) dX2_holds_99 ?_
              refine g_isub h dX2_holds_100 ?_
              refine g_iast h _ _ _ sh_24 (by decide) (by decide) rfl (by omega) dX2_holds_101 ?_
              refine g_goto (tgt := 140) h dX2_holds_102 (by decide) ?_
              refine g_iinc (v := nI (b + (k + 1))) (ls' := [(0, _), (1, _), (2, _), (3, _), (4, _), (5, _)]) h dX2_holds_140 rfl (inc1 (b + k)) (by decide) rfl rfl ?_
              refine g_goto (tgt := 10) h dX2_holds_143 (by decide) ?_
              refine g_del 5 (ls' := [(0, _), (1, _), (2, _), (3, _), (4, _)]) rfl ?_
              obtain ⟨x9, t9, rfl, q⟩ := stL_not (fa := u 25) c36 c77 n81
              have q1 : f t9.length = x9 := hf.1
              exact g_cv (by rw [hr1, q]; rfl) (by rw [su_sc, sc_at]; simp [q1]) (ih (k + 1) (upd f t9.length (nI 1 - x9)) (by rw [hr1, q]; exact stk_push hf.2 _) (by omega) (by omega))
        · refine g_iload_n h dX2_holds_39 rfl rfl ?_
          refine g_bipush (v := nI 40) h dX2_holds_40 (by decide) ?_
          refine g_icmp_ge (tgt := 140) h dX2_holds_42 (by decide) (fun c42 => ?_) (fun c42 => ?_)
          · have n42 := le_n (by omega) (by omega) (show nI (40) ≤ nI (s.length) from c42)
            refine g_iinc (v := nI (b + (k + 1))) (ls' := [(0, _), (1, _), (2, _), (3, _), (4, _), (5, _)]) h dX2_holds_140 rfl (inc1 (b + k)) (by decide) rfl rfl ?_
            refine g_goto (tgt := 10) h dX2_holds_143 (by decide) ?_
            refine g_del 5 (ls' := [(0, _), (1, _), (2, _), (3, _), (4, _)]) rfl ?_
            have q := stL_full (fa := u 25) c36 n42
            exact g_cv (by rw [hr1, q]) rfl (ih (k + 1) f (by rw [hr1, q]; exact hf) (by omega) (by omega))
          · have n42 := nle_n (by omega) (by omega) (show ¬ nI (40) ≤ nI (s.length) from c42)
            refine g_aload_n h dX2_holds_45 rfl rfl ?_
            refine g_getR h fl_X2_24_2 sh_19 (by decide) rfl dX2_holds_46 ?_
            refine g_iload_n h dX2_holds_49 rfl rfl ?_
            refine g_iload h dX2_holds_50 rfl ?_
            refine g_j1 66 (x := (if w < 0 then u 25 (ix (-1 - w)) else w)) ?_ (fun J66 => ?_)
            · refine g_iast h _ _ _ sh_24 (by decide) (by decide) rfl (by omega) dX2_holds_66 ?_
              refine g_iinc (v := nI (s.length + 1)) (ls' := [(0, _), (1, _), (2, _), (3, _), (4, _), (5, _)]) h dX2_holds_67 rfl (inc1 _) (by decide) rfl rfl ?_
              refine g_goto (tgt := 140) h dX2_holds_70 (by decide) ?_
              refine g_iinc (v := nI (b + (k + 1))) (ls' := [(0, _), (1, _), (2, _), (3, _), (4, _), (5, _)]) h dX2_holds_140 rfl (inc1 (b + k)) (by decide) rfl rfl ?_
              refine g_goto (tgt := 10) h dX2_holds_143 (by decide) ?_
              refine g_del 5 (ls' := [(0, _), (1, _), (2, _), (3, _), (4, _)]) rfl ?_
              have q := stL_push (fa := u 25) c36 n42
              exact g_cv (by rw [hr1, q]; rfl) (by rw [su_sc]) (ih (k + 1) _ (by rw [hr1, q]; exact stk_push hf _) (by omega) (by omega))
            · refine g_if_lt (tgt := 60) h dX2_holds_52 (by decide) (fun c52 => ?_) (fun c52 => ?_)
              · refine g_aload_n h dX2_holds_60 rfl rfl ?_
                refine g_iconst (v := -1) h dX2_holds_61 (by decide) ?_
                refine g_iload h dX2_holds_62 rfl ?_
                refine g_isub h dX2_holds_64 ?_
                obtain ⟨j9, hj9, hj⟩ := wi_fact c36 c52
                refine g_top hj ?_
                refine g_iald h _ _ _ sh_25 (by decide) (by decide) rfl (by omega) dX2_holds_65 ?_
                exact g_top (by first | (rw [if_pos c52, hj, ix_nI (by omega), sc_ne _ _ (by decide)]; done) | (rw [if_neg c52]; done)) J66
              · refine g_iload h dX2_holds_55 rfl ?_
                refine g_goto (tgt := 66) h dX2_holds_57 (by decide) ?_
                exact g_top (by first | (rw [if_pos c52, hj, ix_nI (by omega), sc_ne _ _ (by decide)]; done) | (rw [if_neg c52]; done)) J66
  refine g_iconst (v := nI 0) h dX2_holds_0 (by decide) ?_
  refine g_istore_n (ls' := [(0, _), (1, _), (2, _), (3, _)]) h dX2_holds_1 rfl (by decide) rfl rfl ?_
  refine g_aload_n h dX2_holds_2 rfl rfl ?_
  refine g_getR h fl_X2_15_2 sh_19 (by decide) rfl dX2_holds_3 ?_
  refine g_iload_n h dX2_holds_6 rfl rfl ?_
  refine g_iald h _ _ _ sh_21 (by decide) (by decide) rfl (by omega) dX2_holds_7 ?_
  refine g_top hb ?_
  refine g_istore (ls' := [(0, _), (1, _), (2, _), (3, _), (4, _)]) h dX2_holds_8 (by decide) rfl rfl ?_
  exact LP (e - b + 1) (0) (u 24) trivial (by omega) (by omega)
