-- after: 9a.oe
/-! fair afternoons -/
def mdF (v d : Nat → Int32) (a : Nat) (b : Int32) : Nat → Int32 := fun h => if d h = b then v (6 * a + h) else if d h = nI a then -(v (6 * a + h)) else 0
theorem md_eq {v d : Nat → Int32} {a : Nat} {b : Int32} (hb : ¬ b = nI a) : ∀ n, smI (mdF v d a b) n = woI v d a b n - woI v d a (nI a) n
  | 0 => by
    show (0 : Int32) = 0 - 0
    decide
  | n + 1 => by
    have ih := md_eq (v := v) (d := d) hb n
    have e1 : woI v d a b (n + 1) = woI v d a b n + (if d n = b then v (a * 6 + n) else 0) := rfl
    have e2 : woI v d a (nI a) (n + 1) = woI v d a (nI a) n + (if d n = nI a then v (a * 6 + n) else 0) := rfl
    show smI (mdF v d a b) n + mdF v d a b n = _
    rw [ih, e1, e2, mdF, Nat.mul_comm 6 a]
    generalize woI v d a b n = x
    generalize woI v d a (nI a) n = y
    generalize v (a * 6 + n) = z
    by_cases c : d n = b
    · rw [if_pos c, if_pos c, if_neg (fun q => hb (c.symm.trans q)), Int32.add_zero]
      simp only [Int32.sub_eq_add_neg]
      ac_rfl
    · rw [if_neg c, if_neg c, Int32.add_zero]
      by_cases c2 : d n = nI a
      · rw [if_pos c2, if_pos c2]
        simp only [Int32.sub_eq_add_neg, Int32.neg_add]
        ac_rfl
      · rw [if_neg c2, if_neg c2, Int32.add_zero, Int32.add_zero]
theorem wo_b {v d : Nat → Int32} {a B : Nat} {o : Int32} (h : ∀ j, j < 6 → ∃ m, m ≤ B ∧ v (a * 6 + j) = nI m) : ∃ m, m ≤ B * 6 ∧ woI v d a o 6 = nI m := sm_b 6 (fun k hk => by
  split
  · exact h k hk
  · exact ⟨0, by omega, rfl⟩)
theorem sb_gt {A B : Nat} (hA : A < 2 ^ 20) (hB : B < 2 ^ 20) : nI B - nI A ≤ 0 ↔ ¬ nI A < nI B := by
  have h1 : (nI B - nI A).toInt = (B : Int) - A := pk_sub_toInt (by omega) (by omega)
  have h0 : (0 : Int32).toInt = 0 := by decide
  rw [Int32.le_iff_toInt_le, h1, h0, Int32.lt_iff_toInt_lt, nI_toInt (by omega), nI_toInt (by omega)]
  omega
abbrev fqB (v d : Nat → Int32) (s o : Nat) : Bool := decide (¬ woI v d s (nI s) 6 < woI v d s (nI o) 6)
theorem fq_s {v d : Nat → Int32} {s : Nat} : fqB v d s s = true := decide_eq_true Int32.lt_irrefl
theorem fr_f {v d : Nat → Int32} {M s o : Nat} (hs : s < M) (ho : o < M) (h : ¬ fqB v d s o = true) : ¬ frB v d M = true := fun q => h (allB_i.mp (allB_i.mp q s hs) o ho)
set_option maxHeartbeats 1000000 in
theorem c_X11_isFair {E : EE} (M : Nat) (hM : M ≤ 3) (wv dd : Nat → Int32) (u : Sto) (hv : ∀ j, j < 6 * M → u 193 j = wv j) (hd : ∀ j, j < 6 → u 194 j = dd j) (hB : ∀ s, s < M → ∀ j, j < 6 → ∃ m, m ≤ 11988 ∧ wv (s * 6 + j) = nI m) : Ct E 1 0 yX11_isFair cX11_isFair 6 (some .boolean) [.ref (E.ad 178), .int (nI M)] u (.inl (some (.int (b2 (frB wv dd M = true))))) (u) := by
  refine ct_of (by decide) (Nat.le_of_ble_eq_true rfl) (fun X h hR hrt htab hargs hini => ?_)
  have LP : ∀ j a : Nat, (∀ s, s < a → allB (fqB wv dd s) M = true) → M < a + j → a ≤ M → G E X (QM E X (.inl (some (.int (b2 (frB wv dd M = true))))) (u) 0) 6 0 2 [(0, .ref (E.ad 178)), (1, .int (nI M)), (2, .int (nI a))] [] (u) := by
    intro j
    induction j with
    | zero => intro a hAll h1 h2; omega
    | succ j ih =>
      intro a hAll h1 h2
      refine g_iload_n h dX11_isFair_2 rfl rfl ?_
      refine g_iload_n h dX11_isFair_3 rfl rfl ?_
      refine g_icmp_ge (tgt := 116) h dX11_isFair_4 (by decide) (fun c4 => ?_) (fun c4 => ?_)
      · have n4 := le_n (by omega) (by omega) (show nI (M) ≤ nI (a) from c4)
        refine g_iconst (v := nI 1) h dX11_isFair_116 (by decide) ?_
        exact g_zret h hrt dX11_isFair_117 (by omega) (by first | exact Or.inl rfl | exact Or.inr rfl | exact b2_01 _ | exact hF.2.2.2.1 | exact hF.2.2.2.2 | exact hy | exact hv | simp) (by rw [b2_t (p := frB wv dd M = true) (allB_i.mpr (fun s hs => hAll s (by omega)))]) rfl
      · have n4 := nle_n (by omega) (by omega) (show ¬ nI (M) ≤ nI (a) from c4)
        have haM : a < M := n4
        refine g_iconst (v := nI 0) h dX11_isFair_7 (by decide) ?_
        refine g_istore_n (ls' := [(0, _), (1, _), (2, _), (3, _)]) h dX11_isFair_8 rfl (by decide) rfl rfl ?_
        have LP2 : ∀ j2 b : Nat, (∀ o, o < b → fqB wv dd a o = true) → M < b + j2 → b ≤ M → G E X (QM E X (.inl (some (.int (b2 (frB wv dd M = true))))) (u) 0) 6 0 9 [(0, .ref (E.ad 178)), (1, .int (nI M)), (2, .int (nI a)), (3, .int (nI b))] [] (u) := by
          intro j2
          induction j2 with
          | zero => intro b hQ h1 h2; omega
          | succ j2 ih2 =>
            intro b hQ h1 h2
            refine g_iload_n h dX11_isFair_9 rfl rfl ?_
            refine g_iload_n h dX11_isFair_10 rfl rfl ?_
            refine g_icmp_ge (tgt := 110) h dX11_isFair_11 (by decide) (fun c11 => ?_) (fun c11 => ?_)
            · have n11 := le_n (by omega) (by omega) (show nI (M) ≤ nI (b) from c11)
              refine g_iinc (v := nI (a + 1)) (ls' := [(0, _), (1, _), (2, _), (3, _)]) h dX11_isFair_110 rfl (nI_1 a) (by decide) rfl rfl ?_
              refine g_goto (tgt := 2) h dX11_isFair_113 (by decide) ?_
              refine g_del 3 (ls' := [(0, _), (1, _), (2, _)]) rfl ?_
              exact ih (a + 1) (fun s hs => by
                by_cases q : s = a
                · rw [q]; exact allB_i.mpr (fun o ho => hQ o (by omega))
                · exact hAll s (by omega)) (by omega) (by omega)
            · have n11 := nle_n (by omega) (by omega) (show ¬ nI (M) ≤ nI (b) from c11)
              have hbM : b < M := n11
              refine g_iconst (v := nI 0) h dX11_isFair_14 (by decide) ?_
              refine g_istore (ls' := [(0, _), (1, _), (2, _), (3, _), (4, _)]) h dX11_isFair_15 (by decide) rfl rfl ?_
              refine g_iconst (v := nI 0) h dX11_isFair_17 (by decide) ?_
              refine g_istore (ls' := [(0, _), (1, _), (2, _), (3, _), (4, _), (5, _)]) h dX11_isFair_18 (by decide) rfl rfl ?_
              have LP3 : ∀ j3 k : Nat, 6 < k + j3 → k ≤ 6 → G E X (QM E X (.inl (some (.int (b2 (frB wv dd M = true))))) (u) 0) 6 0 20 [(0, .ref (E.ad 178)), (1, .int (nI M)), (2, .int (nI a)), (3, .int (nI b)), (4, .int (smI (mdF wv dd a (nI b)) k)), (5, .int (nI k))] [] (u) := by
                intro j3
                induction j3 with
                | zero => intro k h1 h2; omega
                | succ j3 ih3 =>
                  intro k h1 h2
                  refine g_iload h dX11_isFair_20 rfl ?_
                  refine g_bipush (v := nI 6) h dX11_isFair_22 (by decide) ?_
                  refine g_icmp_ge (tgt := 92) h dX11_isFair_24 (by decide) (fun c24 => ?_) (fun c24 => ?_)
                  · have n24 := le_n (by omega) (by omega) (show nI (6) ≤ nI (k) from c24)
                    have hmd : b ≠ a → (¬ smI (mdF wv dd a (nI b)) k ≤ 0 ↔ ¬ fqB wv dd a b = true) := fun z => by
                      rw [show k = 6 by omega, md_eq (fun q => z (eq_n (by omega) (by omega) q))]
                      obtain ⟨m1, hm1, e1⟩ := wo_b (d := dd) (o := nI b) (hB a haM)
                      obtain ⟨m2, hm2, e2⟩ := wo_b (d := dd) (o := nI a) (hB a haM)
                      rw [e1, e2, sb_gt (by omega) (by omega), fqB, e1, e2, decide_eq_true_iff]
                    refine g_iload_n h dX11_isFair_92 rfl rfl ?_
                    refine g_iload_n h dX11_isFair_93 rfl rfl ?_
                    refine g_icmp_eq (tgt := 104) h dX11_isFair_94 (by decide) (fun c94 => ?_) (fun c94 => ?_)
                    · have n94 := eq_n (by omega) (by omega) (show nI (b) = nI (a) from c94)
                      refine g_iinc (v := nI (b + 1)) (ls' := [(0, _), (1, _), (2, _), (3, _), (4, _), (5, _)]) h dX11_isFair_104 rfl (nI_1 b) (by decide) rfl rfl ?_
                      refine g_goto (tgt := 9) h dX11_isFair_107 (by decide) ?_
                      refine g_del 4 (ls' := [(0, _), (1, _), (2, _), (3, _), (5, _)]) rfl ?_
                      refine g_del 5 (ls' := [(0, _), (1, _), (2, _), (3, _)]) rfl ?_
                      exact ih2 (b + 1) (fun o ho => by
                        by_cases q : o = b
                        · rw [q]; exact (by rw [n94]; exact fq_s)
                        · exact hQ o (by omega)) (by omega) (by omega)
                    · have n94 := ne_n (show ¬ nI (b) = nI (a) from c94)
                      refine g_iload h dX11_isFair_97 rfl ?_
                      refine g_if_le (tgt := 104) h dX11_isFair_99 (by decide) (fun c99 => ?_) (fun c99 => ?_)
                      · refine g_iinc (v := nI (b + 1)) (ls' := [(0, _), (1, _), (2, _), (3, _), (4, _), (5, _)]) h dX11_isFair_104 rfl (nI_1 b) (by decide) rfl rfl ?_
                        refine g_goto (tgt := 9) h dX11_isFair_107 (by decide) ?_
                        refine g_del 4 (ls' := [(0, _), (1, _), (2, _), (3, _), (5, _)]) rfl ?_
                        refine g_del 5 (ls' := [(0, _), (1, _), (2, _), (3, _)]) rfl ?_
                        exact ih2 (b + 1) (fun o ho => by
                          by_cases q : o = b
                          · rw [q]; exact (Decidable.byContradiction (fun q => (hmd n94).mpr q c99))
                          · exact hQ o (by omega)) (by omega) (by omega)
                      · refine g_iconst (v := nI 0) h dX11_isFair_102 (by decide) ?_
                        exact g_zret h hrt dX11_isFair_103 (by omega) (by first | exact Or.inl rfl | exact Or.inr rfl | exact b2_01 _ | exact hF.2.2.2.1 | exact hF.2.2.2.2 | exact hy | exact hv | simp) (by rw [b2_f (fr_f haM hbM ((hmd n94).mp c99))]) rfl
                  · have n24 := nle_n (by omega) (by omega) (show ¬ nI (6) ≤ nI (k) from c24)
                    refine g_iload h dX11_isFair_27 rfl ?_
                    refine g_aload_n h dX11_isFair_29 rfl rfl ?_
                    refine g_getR h fl_X11_60_10 sh_178 (by decide) rfl dX11_isFair_30 ?_
                    refine g_iload h dX11_isFair_33 rfl ?_
                    refine g_iald h _ _ _ sh_194 (by decide) (by decide) rfl (by omega) dX11_isFair_35 ?_
                    refine g_top (y := dd k) (hd k (by omega)) ?_
                    refine g_iload_n h dX11_isFair_36 rfl rfl ?_
                    refine g_icmp_ne (tgt := 55) h dX11_isFair_37 (by decide) (fun c37 => ?_) (fun c37 => ?_)
                    · refine g_aload_n h dX11_isFair_55 rfl rfl ?_
                      refine g_getR h fl_X11_60_10 sh_178 (by decide) rfl dX11_isFair_56 ?_
                      refine g_iload h dX11_isFair_59 rfl ?_
                      refine g_iald h _ _ _ sh_194 (by decide) (by decide) rfl (by omega) dX11_isFair_61 ?_
                      refine g_top (y := dd k) (hd k (by omega)) ?_
                      refine g_iload_n h dX11_isFair_62 rfl rfl ?_
                      refine g_icmp_ne (tgt := 82) h dX11_isFair_63 (by decide) (fun c63 => ?_) (fun c63 => ?_)
                      · refine g_iconst (v := nI 0) h dX11_isFair_82 (by decide) ?_
                        refine g_iadd h dX11_isFair_83 ?_
                        refine g_istore (ls' := [(0, _), (1, _), (2, _), (3, _), (4, _), (5, _)]) h dX11_isFair_84 (by decide) rfl rfl ?_
                        refine g_iinc (v := nI (k + 1)) (ls' := [(0, _), (1, _), (2, _), (3, _), (4, _), (5, _)]) h dX11_isFair_86 rfl (nI_1 k) (by decide) rfl rfl ?_
                        refine g_goto (tgt := 20) h dX11_isFair_89 (by decide) ?_
                        exact g_cv (by rw [sm_s (f := mdF wv dd a (nI b)), show mdF wv dd a (nI b) k = _ from (if_neg c37).trans (if_neg c63)]; rfl) rfl (ih3 (k + 1) (by omega) (by omega))
                      · refine g_aload_n h dX11_isFair_66 rfl rfl ?_
                        refine g_getR h fl_X11_57_10 sh_178 (by decide) rfl dX11_isFair_67 ?_
                        refine g_bipush (v := nI 6) h dX11_isFair_70 (by decide) ?_
                        refine g_iload_n h dX11_isFair_72 rfl rfl ?_
                        refine g_imul h dX11_isFair_73 ?_
                        refine g_iload h dX11_isFair_74 rfl ?_
                        refine g_iadd h dX11_isFair_76 ?_
                        refine g_top (y := nI (6 * a + k)) (by rw [nI_mul, nI_add]) ?_
                        refine g_iald h _ _ _ sh_193 (by decide) (by decide) rfl (by omega) dX11_isFair_77 ?_
                        refine g_top (y := wv (6 * a + k)) (hv (6 * a + k) (by omega)) ?_
                        refine g_ineg h dX11_isFair_78 ?_
                        refine g_goto (tgt := 83) h dX11_isFair_79 (by decide) ?_
                        refine g_iadd h dX11_isFair_83 ?_
                        refine g_istore (ls' := [(0, _), (1, _), (2, _), (3, _), (4, _), (5, _)]) h dX11_isFair_84 (by decide) rfl rfl ?_
                        refine g_iinc (v := nI (k + 1)) (ls' := [(0, _), (1, _), (2, _), (3, _), (4, _), (5, _)]) h dX11_isFair_86 rfl (nI_1 k) (by decide) rfl rfl ?_
                        refine g_goto (tgt := 20) h dX11_isFair_89 (by decide) ?_
                        exact g_cv (by rw [sm_s (f := mdF wv dd a (nI b)), show mdF wv dd a (nI b) k = _ from (if_neg c37).trans (if_pos c63)]) rfl (ih3 (k + 1) (by omega) (by omega))
                    · refine g_aload_n h dX11_isFair_40 rfl rfl ?_
                      refine g_getR h fl_X11_57_10 sh_178 (by decide) rfl dX11_isFair_41 ?_
                      refine g_bipush (v := nI 6) h dX11_isFair_44 (by decide) ?_
                      refine g_iload_n h dX11_isFair_46 rfl rfl ?_
                      refine g_imul h dX11_isFair_47 ?_
                      refine g_iload h dX11_isFair_48 rfl ?_
                      refine g_iadd h dX11_isFair_50 ?_
                      refine g_top (y := nI (6 * a + k)) (by rw [nI_mul, nI_add]) ?_
                      refine g_iald h _ _ _ sh_193 (by decide) (by decide) rfl (by omega) dX11_isFair_51 ?_
                      refine g_top (y := wv (6 * a + k)) (hv (6 * a + k) (by omega)) ?_
                      refine g_goto (tgt := 83) h dX11_isFair_52 (by decide) ?_
                      refine g_iadd h dX11_isFair_83 ?_
                      refine g_istore (ls' := [(0, _), (1, _), (2, _), (3, _), (4, _), (5, _)]) h dX11_isFair_84 (by decide) rfl rfl ?_
                      refine g_iinc (v := nI (k + 1)) (ls' := [(0, _), (1, _), (2, _), (3, _), (4, _), (5, _)]) h dX11_isFair_86 rfl (nI_1 k) (by decide) rfl rfl ?_
                      refine g_goto (tgt := 20) h dX11_isFair_89 (by decide) ?_
                      exact g_cv (by rw [sm_s (f := mdF wv dd a (nI b)), show mdF wv dd a (nI b) k = _ from if_pos c37]) rfl (ih3 (k + 1) (by omega) (by omega))
              exact LP3 (6 + 1) (0) (by omega) (by omega)
              
        exact LP2 (M + 1) (0) (fun o ho => absurd ho (Nat.not_lt_zero _)) (by omega) (by omega)
        
  refine g_iconst (v := nI 0) h dX11_isFair_0 (by decide) ?_
  refine g_istore_n (ls' := [(0, _), (1, _), (2, _)]) h dX11_isFair_1 rfl (by decide) rfl rfl ?_
  exact LP (M + 1) (0) (fun s hs => absurd hs (Nat.not_lt_zero _)) (by omega) (by omega)
def adL (v : Sto) (x : Int32) : Nat → List Nat
  | 0 => []
  | k + 1 => if ¬ bitJ x (nI k) = 0 ∧ v 13 k = -1 then adL v x k ++ [k] else adL v x k
theorem ad_1 {v : Sto} {x : Int32} {k : Nat} (h : ¬ bitJ x (nI k) = 0 ∧ v 13 k = -1) : adL v x (k + 1) = adL v x k ++ [k] := by rw [adL, if_pos h]
theorem ad_0 {v : Sto} {x : Int32} {k : Nat} (h : ¬ (¬ bitJ x (nI k) = 0 ∧ v 13 k = -1)) : adL v x (k + 1) = adL v x k := by rw [adL, if_neg h]
theorem ad_mono {v : Sto} {x : Int32} {k : Nat} : ∀ n, (adL v x k).length ≤ (adL v x (k + n)).length
  | 0 => Nat.le_refl _
  | n + 1 => by
    have := ad_mono (v := v) (x := x) (k := k) n
    show _ ≤ (adL v x (k + n + 1)).length
    by_cases c : ¬ bitJ x (nI (k + n)) = 0 ∧ v 13 (k + n) = -1
    · rw [ad_1 c, List.length_append]; exact Nat.le_trans this (Nat.le_add_right _ _)
    · rw [ad_0 c]; exact this
theorem ad_lt {v : Sto} {x : Int32} : ∀ k, ∀ a, a ∈ adL v x k → a < k
  | 0, a, h => nomatch h
  | k + 1, a, h => by
    by_cases c : ¬ bitJ x (nI k) = 0 ∧ v 13 k = -1
    · rw [ad_1 c] at h
      rcases List.mem_append.mp h with h | h
      · have := ad_lt k a h; omega
      · rcases List.mem_cons.mp h with h | h
        · omega
        · exact nomatch h
    · rw [ad_0 c] at h
      have := ad_lt k a h; omega
def blL (x : Int32) : Nat → List Nat
  | 0 => []
  | k + 1 => if ¬ bitI x k = 0 then blL x k ++ [k] else blL x k
theorem bl_len : ∀ m, m < 1024 → bcI (nI m) = nI (blL (nI m) 10).length := by decide +kernel
theorem bl_10 {x : Int32} : ∀ k, (blL x k).length ≤ k
  | 0 => Nat.le_refl _
  | k + 1 => by
    have := bl_10 (x := x) k
    unfold blL
    split
    · rw [List.length_append]; simp; omega
    · omega
theorem bl_se {x : Int32} : ∀ k, (blL x k).length ≤ 3 → seL x k = blL x k
  | 0, _ => rfl
  | k + 1, h => by
    unfold blL at h ⊢
    unfold seL
    by_cases c : ¬ bitI x k = 0
    · rw [if_pos c, List.length_append] at h
      simp at h
      rw [if_pos c, bl_se k (by omega), if_pos ⟨c, by omega⟩]
    · rw [if_neg c] at h
      rw [if_neg c, if_neg (fun q => c q.1), bl_se k h]
theorem ad_bl {v : Sto} {x : Int32} {T : Nat} (hT : T ≤ 10) : ∀ k, k ≤ T → adL v x k = blL (guI v x T) k
  | 0, _ => rfl
  | k + 1, hk => by
    have ih := ad_bl (v := v) (x := x) hT k (by omega)
    have hb : ¬ bitI (guI v x T) k = 0 ↔ ¬ bitJ x (nI k) = 0 ∧ v 13 k = -1 := by
      rw [bt_I (by omega), gu_bt T hT k (by omega), bt_J (by omega)]
      exact ⟨fun h => h.2, fun h => ⟨by omega, h⟩⟩
    unfold blL
    by_cases c : ¬ bitJ x (nI k) = 0 ∧ v 13 k = -1
    · rw [ad_1 c, if_pos (hb.mpr c), ih]
    · rw [ad_0 c, if_neg (fun q => c (hb.mp q)), ih]
theorem bl_T {v : Sto} {x : Int32} {T : Nat} (hT : T ≤ 10) : ∀ n, T + n ≤ 10 → blL (guI v x T) (T + n) = blL (guI v x T) T
  | 0, _ => rfl
  | n + 1, hn => by
    show blL (guI v x T) (T + n + 1) = _
    unfold blL
    rw [if_neg (fun q => by
      have := (gu_bt T hT (T + n) (by omega)).mp ((bt_I (by omega)).mp q)
      omega), bl_T hT n (by omega)]
    cases T <;> rfl
theorem ad_se {v : Sto} {x : Int32} {T : Nat} (hT : T ≤ 10) : (seP (guI v x T) ↔ (adL v x T).length = 2 ∨ (adL v x T).length = 3) ∧ ((adL v x T).length ≤ 3 → seL (guI v x T) 10 = adL v x T) := by
  have e1 : adL v x T = blL (guI v x T) 10 := by
    rw [ad_bl hT T (Nat.le_refl _), ← bl_T hT (10 - T) (by omega), show T + (10 - T) = 10 by omega]
  rw [e1]
  obtain ⟨m, hm, e⟩ := gu_lt v x T hT
  have hm2 : m < 1024 := Nat.lt_of_lt_of_le hm (show 2 ^ T ≤ 1024 from Nat.pow_le_pow_right (n := 2) (by omega) hT)
  refine ⟨?_, fun h => bl_se 10 h⟩
  have hl := bl_10 (x := guI v x T) 10
  unfold seP
  rw [e] at hl ⊢
  rw [bl_len m hm2]
  exact ⟨fun h => h.elim (fun q => Or.inl (eq_n (by omega) (by omega) q)) (fun q => Or.inr (eq_n (by omega) (by omega) q)), fun h => h.elim (fun q => Or.inl (by rw [q])) (fun q => Or.inr (by rw [q]))⟩
