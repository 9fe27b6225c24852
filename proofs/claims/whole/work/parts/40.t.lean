-- after: 38.r 39.s
/-- what all rooms so far are worth to a, by who lives there -/
def wtF (u : Sto) (a : Nat) : Nat → Nat → Int32
  | 0 => fun _ => nI 0
  | k + 1 => if lvT u 3 k = -1 then wtF u a k else upd (wtF u a k) (ix (lvT u 3 k)) (wtF u a k (ix (lvT u 3 k)) + vlI u a k)
def ebF (g : Nat → Int32) (a : Nat) : Nat → Int32
  | 0 => nI 0
  | o + 1 => if g a < g o then ebF g a o ||| one o else ebF g a o
def envV (u : Sto) (a : Nat) : Int32 := if ¬ u 13 a = -1 then nI 0 else ebF (wtF u a 168) a 10
abbrev LI (u : Sto) : Prop := ∀ r, r < 168 → tn (lvT u 3 r) 10
theorem LI_sim {w u : Sto} (h : sim w u) (q : LI u) : LI w := fun r hr => by rw [lvT_sim h]; exact q r hr
theorem lv_sim {w u : Sto} (h : sim w u) (r : Nat) : lvT w 3 r = lvT u 3 r := lvT_sim h r
set_option maxHeartbeats 1000000 in
theorem c_X0_enviedBy {E : EE} (a : Nat) (ha : a < 10) (u : Sto) (hl : lawI u) (hL : LI u) : CtP E 6 0 yX0_enviedBy cX0_enviedBy 4 (some .int) [.ref (E.ad 164), .int (nI a)] u (PS (.inl (some (.int (envV u a)))) u) := by
  refine ctp_of (by decide) (Nat.le_of_ble_eq_true rfl) (fun X h hR hrt htab hargs => ?_)
  refine g_aload_n h dX0_enviedBy_0 rfl rfl ?_
  refine g_getR h fl_X0_36_0 sh_164 (by decide) rfl dX0_enviedBy_1 ?_
  refine g_iload_n h dX0_enviedBy_4 rfl rfl ?_
  refine g_V h lv_X0_64_X9 sh_2 (by decide) rfl (c_X9_isChild a ha _) (fitR hR (by decide) (by decide) (by omega)) rfl rfl (Nat.le_of_ble_eq_true rfl) dX0_enviedBy_5 ?_
  refine g_if_eq (tgt := 13) h dX0_enviedBy_8 (by decide) (fun c8 => ?_) (fun c8 => ?_)
  · have d8 := Decidable.not_not.mp (b2_0.mp c8)
    refine g_aload_n h dX0_enviedBy_13 rfl rfl ?_
    refine g_getR h fl_X0_15_0 sh_164 (by decide) rfl dX0_enviedBy_14 ?_
    refine g_iconst (v := nI 0) h dX0_enviedBy_17 (by decide) ?_
    refine g_S h ls_X0_68 (c_J7_fill_53178 166 10 sh_166 (by decide) (by decide) _ _) (fitR hR (by decide) (by decide) (by omega)) rfl rfl (Nat.le_of_ble_eq_true rfl) dX0_enviedBy_18 ?_
    refine g_iconst (v := nI 0) h dX0_enviedBy_21 (by decide) ?_
    refine g_istore_n (ls' := [(0, _), (1, _), (2, _)]) h dX0_enviedBy_22 rfl (by decide) rfl rfl ?_
    have LP : ∀ j k : Nat, ∀ w : Sto, sim w u → (∀ j, j < 10 → w 166 j = wtF u a k j) → 168 < k + j → k ≤ 168 → G E X (QMP E X (PS (.inl (some (.int (envV u a)))) u) 0) 4 0 23 [(0, .ref (E.ad 164)), (1, .int (nI a)), (2, .int (nI k))] [] (w) := by
      intro j
      induction j with
      | zero => intro k w hs hv h1 h2; omega
      | succ j ih =>
        intro k w hs hv h1 h2
        refine g_iload_n h dX0_enviedBy_23 rfl rfl ?_
        refine g_sipush (v := nI 168) h dX0_enviedBy_24 (by decide) ?_
        refine g_icmp_ge (tgt := 68) h dX0_enviedBy_27 (by decide) (fun c27 => ?_) (fun c27 => ?_)
        · have n27 := le_n (by omega) (by omega) (show nI (168) ≤ nI (k) from c27)
          obtain rfl : k = 168 := by omega
          refine g_iconst (v := nI 0) h dX0_enviedBy_68 (by decide) ?_
          refine g_istore_n (ls' := [(0, _), (1, _), (2, _)]) h dX0_enviedBy_69 rfl (by decide) rfl rfl ?_
          refine g_iconst (v := nI 0) h dX0_enviedBy_70 (by decide) ?_
          refine g_istore_n (ls' := [(0, _), (1, _), (2, _), (3, _)]) h dX0_enviedBy_71 rfl (by decide) rfl rfl ?_
          have LP2 : ∀ j k : Nat, 10 < k + j → k ≤ 10 → G E X (QMP E X (PS (.inl (some (.int (envV u a)))) u) 0) 4 0 72 [(0, .ref (E.ad 164)), (1, .int (nI a)), (2, .int (ebF (wtF u a 168) a k)), (3, .int (nI k))] [] (w) := by
            intro j
            induction j with
            | zero => intro k h1 h2; omega
            | succ j ih =>
              intro k h1 h2
              refine g_iload_n h dX0_enviedBy_72 rfl rfl ?_
              refine g_bipush (v := nI 10) h dX0_enviedBy_73 (by decide) ?_
              refine g_icmp_ge (tgt := 105) h dX0_enviedBy_75 (by decide) (fun c75 => ?_) (fun c75 => ?_)
              · have n75 := le_n (by omega) (by omega) (show nI (10) ≤ nI (k) from c75)
                obtain rfl : k = 10 := by omega
                refine g_iload_n h dX0_enviedBy_105 rfl rfl ?_
                exact g_iretP h hrt dX0_enviedBy_106 (by omega) ⟨by rw [envV, if_neg (fun q => q d8)], hs⟩
              · have n75 := nle_n (by omega) (by omega) (show ¬ nI (10) ≤ nI (k) from c75)
                refine g_aload_n h dX0_enviedBy_78 rfl rfl ?_
                refine g_getR h fl_X0_15_0 sh_164 (by decide) rfl dX0_enviedBy_79 ?_
                refine g_iload_n h dX0_enviedBy_82 rfl rfl ?_
                refine g_iald h _ _ _ sh_166 (by decide) (by decide) rfl (by omega) dX0_enviedBy_83 ?_
                refine g_top (hv _ (by omega)) ?_
                refine g_aload_n h dX0_enviedBy_84 rfl rfl ?_
                refine g_getR h fl_X0_15_0 sh_164 (by decide) rfl dX0_enviedBy_85 ?_
                refine g_iload_n h dX0_enviedBy_88 rfl rfl ?_
                refine g_iald h _ _ _ sh_166 (by decide) (by decide) rfl (by omega) dX0_enviedBy_89 ?_
                refine g_top (hv _ (by omega)) ?_
                refine g_icmp_le (tgt := 99) h dX0_enviedBy_90 (by decide) (fun c90 => ?_) (fun c90 => ?_)
                · refine g_iinc (v := nI (k + 1)) (ls' := [(0, _), (1, _), (2, _), (3, _)]) h dX0_enviedBy_99 rfl (nI_1 k) (by decide) rfl rfl ?_
                  refine g_goto (tgt := 72) h dX0_enviedBy_102 (by decide) ?_
                  exact g_cv (by rw [ebF, if_neg (Int32.not_lt.mpr c90)]) rfl (ih (k + 1) (by omega) (by omega))
                · refine g_iload_n h dX0_enviedBy_93 rfl rfl ?_
                  refine g_iconst (v := nI 1) h dX0_enviedBy_94 (by decide) ?_
                  refine g_iload_n h dX0_enviedBy_95 rfl rfl ?_
                  refine g_ishl h dX0_enviedBy_96 ?_
                  refine g_ior h dX0_enviedBy_97 ?_
                  refine g_istore_n (ls' := [(0, _), (1, _), (2, _), (3, _)]) h dX0_enviedBy_98 rfl (by decide) rfl rfl ?_
                  refine g_iinc (v := nI (k + 1)) (ls' := [(0, _), (1, _), (2, _), (3, _)]) h dX0_enviedBy_99 rfl (nI_1 k) (by decide) rfl rfl ?_
                  refine g_goto (tgt := 72) h dX0_enviedBy_102 (by decide) ?_
                  exact g_cv (by rw [ebF, if_pos (Int32.not_le.mp c90)]; rfl) rfl (ih (k + 1) (by omega) (by omega))
          exact LP2 (10 + 1) (0) (by omega) (by omega)
          
        · have n27 := nle_n (by omega) (by omega) (show ¬ nI (168) ≤ nI (k) from c27)
          refine g_aload_n h dX0_enviedBy_30 rfl rfl ?_
          refine g_getR h fl_X0_46_0 sh_164 (by decide) rfl dX0_enviedBy_31 ?_
          refine g_iload_n h dX0_enviedBy_34 rfl rfl ?_
          refine g_V h lv_X0_74_X7 sh_3 (by decide) rfl (c_X7_livesIn 3 (by decide) k (by omega) _) (fitR hR (by decide) (by decide) (by omega)) rfl rfl (Nat.le_of_ble_eq_true rfl) dX0_enviedBy_35 ?_
          refine g_top (lvT_sim hs k) ?_
          refine g_istore_n (ls' := [(0, _), (1, _), (2, _), (3, _)]) h dX0_enviedBy_38 rfl (by decide) rfl rfl ?_
          refine g_iload_n h dX0_enviedBy_39 rfl rfl ?_
          refine g_iconst (v := -1) h dX0_enviedBy_40 (by decide) ?_
          refine g_icmp_eq (tgt := 62) h dX0_enviedBy_41 (by decide) (fun c41 => ?_) (fun c41 => ?_)
          · have hz : wtF u a (k + 1) = wtF u a k := if_pos c41
            refine g_iinc (v := nI (k + 1)) (ls' := [(0, _), (1, _), (2, _), (3, _)]) h dX0_enviedBy_62 rfl (nI_1 k) (by decide) rfl rfl ?_
            refine g_goto (tgt := 23) h dX0_enviedBy_65 (by decide) ?_
            refine g_del 3 (ls' := [(0, _), (1, _), (2, _)]) rfl ?_
            exact ih (k + 1) _ hs (by rw [hz]; exact hv) (by omega) (by omega)
          · have hq := tn_ix (by decide) (hL k (by omega)) c41
            have hz : wtF u a (k + 1) = upd (wtF u a k) (ix (lvT u 3 k)) (wtF u a k (ix (lvT u 3 k)) + vlI u a k) := if_neg c41
            refine g_aload_n h dX0_enviedBy_44 rfl rfl ?_
            refine g_getR h fl_X0_15_0 sh_164 (by decide) rfl dX0_enviedBy_45 ?_
            refine g_iload_n h dX0_enviedBy_48 rfl rfl ?_
            refine g_top hq.1 ?_
            refine g_dup2 h dX0_enviedBy_49 rfl rfl ?_
            refine g_iald h _ _ _ sh_166 (by decide) (by decide) rfl hq.2 dX0_enviedBy_50 ?_
            refine g_top (hv _ hq.2) ?_
            refine g_aload_n h dX0_enviedBy_51 rfl rfl ?_
            refine g_getR h fl_X0_36_0 sh_164 (by decide) rfl dX0_enviedBy_52 ?_
            refine g_iload_n h dX0_enviedBy_55 rfl rfl ?_
            refine g_iload_n h dX0_enviedBy_56 rfl rfl ?_
            refine g_VP h lv_X0_79_X9 sh_2 (by decide) rfl (c_X9_valueOfT a ha k (by omega) _ (lawI_sim hs hl)) pt_nx (fitR hR (by decide) (by decide) (by omega)) rfl rfl (Nat.le_of_ble_eq_true rfl) dX0_enviedBy_57 (fun v57 u57 hs57 => ?_)
            obtain ⟨hv57, hs57⟩ := hs57
            cases hv57
            refine g_top (vlI_sim hs a k) ?_
            refine g_iadd h dX0_enviedBy_60 ?_
            refine g_iast h _ _ _ sh_166 (by decide) (by decide) rfl hq.2 dX0_enviedBy_61 ?_
            refine g_iinc (v := nI (k + 1)) (ls' := [(0, _), (1, _), (2, _), (3, _)]) h dX0_enviedBy_62 rfl (nI_1 k) (by decide) rfl rfl ?_
            refine g_goto (tgt := 23) h dX0_enviedBy_65 (by decide) ?_
            refine g_del 3 (ls' := [(0, _), (1, _), (2, _)]) rfl ?_
            exact ih (k + 1) _ (sim_scr (hs57.sim.trans hs) _ (by rfl)) (fun j hj => by
              rw [su_row, hz, upd, hs57 166 (by decide) (by decide)]
              split
              · rfl
              · exact hv j hj) (by omega) (by omega)
    exact LP (168 + 1) (0) _ (sim_sc (fun _ => rfl)) (fun j hj => by rw [sc_at]; exact if_pos hj) (by omega) (by omega)
    
  · have d8 := b2_n0.mp c8
    refine g_iconst (v := nI 0) h dX0_enviedBy_11 (by decide) ?_
    exact g_iretP h hrt dX0_enviedBy_12 (by omega) ⟨by rw [envV, if_pos d8], sim.refl _⟩
/-- who is seated, by the bits -/
def seL (x : Int32) : Nat → List Nat
  | 0 => []
  | k + 1 => if ¬ bitI x k = 0 ∧ (seL x k).length < 3 then seL x k ++ [k] else seL x k
theorem seL_len (x : Int32) : ∀ k, (seL x k).length ≤ 3
  | 0 => Nat.zero_le _
  | k + 1 => by
    rw [seL]
    split
    · rename_i h; rw [List.length_append]; have := h.2; simp; omega
    · exact seL_len x k
theorem seL_lt (x : Int32) : ∀ k, ∀ a ∈ seL x k, a < k
  | 0, a, h => nomatch h
  | k + 1, a, h => by
    rw [seL] at h
    split at h
    · rcases List.mem_append.mp h with q | q
      · have := seL_lt x k a q; omega
      · rw [List.mem_singleton.mp q]; omega
    · have := seL_lt x k a h; omega
abbrev seP (x : Int32) : Prop := bcI x = nI 2 ∨ bcI x = nI 3
def rowL (f : Nat → Int32) (L : List Nat) : Prop := ∀ i, (h : i < L.length) → f i = nI L[i]
/-- the store behind a seating -/
def seQ (u : Sto) (x : Int32) : Res → Sto → Prop := fun o w => o = .inl (some (.int (b2 (seP x)))) ∧ sim w u ∧ (seP x → w 164 10 = nI (seL x 10).length ∧ rowL (w 167) (seL x 10))
theorem rowL_app {f : Nat → Int32} {L : List Nat} {v : Sto} {a : Nat} (hv : v 167 = f) (h : rowL f L) : rowL (su v 167 L.length (nI a) 167) (L ++ [a]) := fun i hi => by
  rw [su_row]
  by_cases e : i = L.length
  · subst e; rw [if_pos rfl, List.getElem_append_right (Nat.le_refl _)]; simp
  · rw [if_neg e, hv]
    have hl : i < L.length := by rw [List.length_append] at hi; simp at hi; omega
    rw [List.getElem_append_left hl]
    exact h i hl
theorem su_row2 {v : Sto} {c k d : Nat} {x : Int32} (h : d ≠ c) : su v c k x d = v d := su_c h
set_option maxHeartbeats 1000000 in
theorem c_X0_seat {E : EE} (x : Int32) (u : Sto) : CtP E 2 0 yX0_seat cX0_seat 4 (some .boolean) [.ref (E.ad 164), .int x] u (seQ u x) := by
  refine ctp_of (by decide) (Nat.le_of_ble_eq_true rfl) (fun X h hR hrt htab hargs => ?_)
  refine g_iload_n h dX0_seat_0 rfl rfl ?_
  refine g_S h ls_X0_82 (c_J6_bitCount_0f7a4 _ _) (fitR hR (by decide) (by decide) (by omega)) rfl rfl (Nat.le_of_ble_eq_true rfl) dX0_seat_1 ?_
  refine g_istore_n (ls' := [(0, _), (1, _), (2, _)]) h dX0_seat_4 rfl (by decide) rfl rfl ?_
  refine g_iload_n h dX0_seat_5 rfl rfl ?_
  refine g_iconst (v := nI 2) h dX0_seat_6 (by decide) ?_
  refine g_icmp_eq (tgt := 17) h dX0_seat_7 (by decide) (fun c7 => ?_) (fun c7 => ?_)
  · have hz : seP x := Or.inl c7
    refine g_aload_n h dX0_seat_17 rfl rfl ?_
    refine g_iconst (v := nI 0) h dX0_seat_18 (by decide) ?_
    refine g_putI h pfl_X0_87_0 sh_164 (by decide) rfl dX0_seat_19 ?_
    refine g_iconst (v := nI 0) h dX0_seat_22 (by decide) ?_
    refine g_istore_n (ls' := [(0, _), (1, _), (2, _), (3, _)]) h dX0_seat_23 rfl (by decide) rfl rfl ?_
    have LP : ∀ j k : Nat, ∀ w : Sto, sim w u → w 164 10 = nI (seL x k).length → rowL (w 167) (seL x k) → 10 < k + j → k ≤ 10 → G E X (QMP E X (seQ u x) 0) 4 0 24 [(0, .ref (E.ad 164)), (1, .int x), (2, .int (bcI x)), (3, .int (nI k))] [] (w) := by
      intro j
      induction j with
      | zero => intro k w hs hn hv h1 h2; omega
      | succ j ih =>
        intro k w hs hn hv h1 h2
        refine g_iload_n h dX0_seat_24 rfl rfl ?_
        refine g_bipush (v := nI 10) h dX0_seat_25 (by decide) ?_
        refine g_icmp_ge (tgt := 72) h dX0_seat_27 (by decide) (fun c27 => ?_) (fun c27 => ?_)
        · have n27 := le_n (by omega) (by omega) (show nI (10) ≤ nI (k) from c27)
          obtain rfl : k = 10 := by omega
          refine g_iconst (v := nI 1) h dX0_seat_72 (by decide) ?_
          exact g_zretP h hrt dX0_seat_73 (by omega) (by first | exact Or.inl rfl | exact Or.inr rfl | simp) ⟨by rw [b2_t hz], hs, fun _ => ⟨hn, hv⟩⟩
        · have n27 := nle_n (by omega) (by omega) (show ¬ nI (10) ≤ nI (k) from c27)
          have hl3 := seL_len x k
          refine g_iload_n h dX0_seat_30 rfl rfl ?_
          refine g_iload_n h dX0_seat_31 rfl rfl ?_
          refine g_iushr h dX0_seat_32 ?_
          refine g_iconst (v := nI 1) h dX0_seat_33 (by decide) ?_
          refine g_iand h dX0_seat_34 ?_
          refine g_if_eq (tgt := 66) h dX0_seat_35 (by decide) (fun c35 => ?_) (fun c35 => ?_)
          · have hy : seL x (k + 1) = seL x k := if_neg (fun q => q.1 c35)
            refine g_iinc (v := nI (k + 1)) (ls' := [(0, _), (1, _), (2, _), (3, _)]) h dX0_seat_66 rfl (nI_1 k) (by decide) rfl rfl ?_
            refine g_goto (tgt := 24) h dX0_seat_69 (by decide) ?_
            exact ih (k + 1) _ hs (by rw [hy]; exact hn) (by rw [hy]; exact hv) (by omega) (by omega)
          · refine g_aload_n h dX0_seat_38 rfl rfl ?_
            refine g_getI h fl_X0_87_0 sh_164 (by decide) rfl dX0_seat_39 ?_
            refine g_top hn ?_
            refine g_iconst (v := nI 3) h dX0_seat_42 (by decide) ?_
            refine g_icmp_ge (tgt := 66) h dX0_seat_43 (by decide) (fun c43 => ?_) (fun c43 => ?_)
            · have n43 := le_n (by omega) (by omega) (show nI (3) ≤ nI ((seL x k).length) from c43)
              have hy : seL x (k + 1) = seL x k := if_neg (fun q => by omega)
              refine g_iinc (v := nI (k + 1)) (ls' := [(0, _), (1, _), (2, _), (3, _)]) h dX0_seat_66 rfl (nI_1 k) (by decide) rfl rfl ?_
              refine g_goto (tgt := 24) h dX0_seat_69 (by decide) ?_
              exact ih (k + 1) _ hs (by rw [hy]; exact hn) (by rw [hy]; exact hv) (by omega) (by omega)
            · have n43 := nle_n (by omega) (by omega) (show ¬ nI (3) ≤ nI ((seL x k).length) from c43)
              have hy : seL x (k + 1) = seL x k ++ [k] := if_pos ⟨c35, by omega⟩
              refine g_aload_n h dX0_seat_46 rfl rfl ?_
              refine g_getR h fl_X0_18_0 sh_164 (by decide) rfl dX0_seat_47 ?_
              refine g_aload_n h dX0_seat_50 rfl rfl ?_
              refine g_getI h fl_X0_87_0 sh_164 (by decide) rfl dX0_seat_51 ?_
              refine g_top hn ?_
              refine g_iload_n h dX0_seat_54 rfl rfl ?_
              refine g_iast h _ _ _ sh_167 (by decide) (by decide) rfl (by omega) dX0_seat_55 ?_
              refine g_aload_n h dX0_seat_56 rfl rfl ?_
              refine g_dup h dX0_seat_57 rfl ?_
              refine g_getI h fl_X0_87_0 sh_164 (by decide) rfl dX0_seat_58 ?_
              refine g_top (y := nI (seL x k).length) (by rw [su_row2 (by decide)]; exact hn) ?_
              refine g_iconst (v := nI 1) h dX0_seat_61 (by decide) ?_
              refine g_iadd h dX0_seat_62 ?_
              refine g_top (nI_add _ _) ?_
              refine g_putI h pfl_X0_87_0 sh_164 (by decide) rfl dX0_seat_63 ?_
              refine g_iinc (v := nI (k + 1)) (ls' := [(0, _), (1, _), (2, _), (3, _)]) h dX0_seat_66 rfl (nI_1 k) (by decide) rfl rfl ?_
              refine g_goto (tgt := 24) h dX0_seat_69 (by decide) ?_
              exact ih (k + 1) _ (sim_scr (sim_scr hs _ (by rfl)) _ (by rfl)) (by rw [hy, List.length_append]; exact su_same _ _ _ _) (by rw [hy, su_row2 (by decide)]; exact rowL_app rfl hv) (by omega) (by omega)
    exact LP (10 + 1) (0) _ (sim_scr (sim.refl u) _ (by rfl)) (su_same _ _ _ _) (fun i hi => absurd hi (by simp [seL])) (by omega) (by omega)
    
  · refine g_iload_n h dX0_seat_10 rfl rfl ?_
    refine g_iconst (v := nI 3) h dX0_seat_11 (by decide) ?_
    refine g_icmp_eq (tgt := 17) h dX0_seat_12 (by decide) (fun c12 => ?_) (fun c12 => ?_)
    · have hz : seP x := Or.inr c12
      refine g_aload_n h dX0_seat_17 rfl rfl ?_
      refine g_iconst (v := nI 0) h dX0_seat_18 (by decide) ?_
      refine g_putI h pfl_X0_87_0 sh_164 (by decide) rfl dX0_seat_19 ?_
      refine g_iconst (v := nI 0) h dX0_seat_22 (by decide) ?_
      refine g_istore_n (ls' := [(0, _), (1, _), (2, _), (3, _)]) h dX0_seat_23 rfl (by decide) rfl rfl ?_
      have LP : ∀ j k : Nat, ∀ w : Sto, sim w u → w 164 10 = nI (seL x k).length → rowL (w 167) (seL x k) → 10 < k + j → k ≤ 10 → G E X (QMP E X (seQ u x) 0) 4 0 24 [(0, .ref (E.ad 164)), (1, .int x), (2, .int (bcI x)), (3, .int (nI k))] [] (w) := by
        intro j
        induction j with
        | zero => intro k w hs hn hv h1 h2; omega
        | succ j ih =>
          intro k w hs hn hv h1 h2
          refine g_iload_n h dX0_seat_24 rfl rfl ?_
          refine g_bipush (v := nI 10) h dX0_seat_25 (by decide) ?_
          refine g_icmp_ge (tgt := 72) h dX0_seat_27 (by decide) (fun c27 => ?_) (fun c27 => ?_)
          · have n27 := le_n (by omega) (by omega) (show nI (10) ≤ nI (k) from c27)
            obtain rfl : k = 10 := by omega
            refine g_iconst (v := nI 1) h dX0_seat_72 (by decide) ?_
            exact g_zretP h hrt dX0_seat_73 (by omega) (by first | exact Or.inl rfl | exact Or.inr rfl | simp) ⟨by rw [b2_t hz], hs, fun _ => ⟨hn, hv⟩⟩
          · have n27 := nle_n (by omega) (by omega) (show ¬ nI (10) ≤ nI (k) from c27)
            have hl3 := seL_len x k
            refine g_iload_n h dX0_seat_30 rfl rfl ?_
            refine g_iload_n h dX0_seat_31 rfl rfl ?_
            refine g_iushr h dX0_seat_32 ?_
            refine g_iconst (v := nI 1) h dX0_seat_33 (by decide) ?_
            refine g_iand h dX0_seat_34 ?_
            refine g_if_eq (tgt := 66) h dX0_seat_35 (by decide) (fun c35 => ?_) (fun c35 => ?_)
            · have hy : seL x (k + 1) = seL x k := if_neg (fun q => q.1 c35)
              refine g_iinc (v := nI (k + 1)) (ls' := [(0, _), (1, _), (2, _), (3, _)]) h dX0_seat_66 rfl (nI_1 k) (by decide) rfl rfl ?_
              refine g_goto (tgt := 24) h dX0_seat_69 (by decide) ?_
              exact ih (k + 1) _ hs (by rw [hy]; exact hn) (by rw [hy]; exact hv) (by omega) (by omega)
            · refine g_aload_n h dX0_seat_38 rfl rfl ?_
              refine g_getI h fl_X0_87_0 sh_164 (by decide) rfl dX0_seat_39 ?_
              refine g_top hn ?_
              refine g_iconst (v := nI 3) h dX0_seat_42 (by decide) ?_
              refine g_icmp_ge (tgt := 66) h dX0_seat_43 (by decide) (fun c43 => ?_) (fun c43 => ?_)
              · have n43 := le_n (by omega) (by omega) (show nI (3) ≤ nI ((seL x k).length) from c43)
                have hy : seL x (k + 1) = seL x k := if_neg (fun q => by omega)
                refine g_iinc (v := nI (k + 1)) (ls' := [(0, _), (1, _), (2, _), (3, _)]) h dX0_seat_66 rfl (nI_1 k) (by decide) rfl rfl ?_
                refine g_goto (tgt := 24) h dX0_seat_69 (by decide) ?_
                exact ih (k + 1) _ hs (by rw [hy]; exact hn) (by rw [hy]; exact hv) (by omega) (by omega)
              · have n43 := nle_n (by omega) (by omega) (show ¬ nI (3) ≤ nI ((seL x k).length) from c43)
                have hy : seL x (k + 1) = seL x k ++ [k] := if_pos ⟨c35, by omega⟩
                refine g_aload_n h dX0_seat_46 rfl rfl ?_
                refine g_getR h fl_X0_18_0 sh_164 (by decide) rfl dX0_seat_47 ?_
                refine g_aload_n h dX0_seat_50 rfl rfl ?_
                refine g_getI h fl_X0_87_0 sh_164 (by decide) rfl dX0_seat_51 ?_
                refine g_top hn ?_
                refine g_iload_n h dX0_seat_54 rfl rfl ?_
                refine g_iast h _ _ _ sh_167 (by decide) (by decide) rfl (by omega) dX0_seat_55 ?_
                refine g_aload_n h dX0_seat_56 rfl rfl ?_
                refine g_dup h dX0_seat_57 rfl ?_
                refine g_getI h fl_X0_87_0 sh_164 (by decide) rfl dX0_seat_58 ?_
                refine g_top (y := nI (seL x k).length) (by rw [su_row2 (by decide)]; exact hn) ?_
                refine g_iconst (v := nI 1) h dX0_seat_61 (by decide) ?_
                refine g_iadd h dX0_seat_62 ?_
                refine g_top (nI_add _ _) ?_
                refine g_putI h pfl_X0_87_0 sh_164 (by decide) rfl dX0_seat_63 ?_
                refine g_iinc (v := nI (k + 1)) (ls' := [(0, _), (1, _), (2, _), (3, _)]) h dX0_seat_66 rfl (nI_1 k) (by decide) rfl rfl ?_
                refine g_goto (tgt := 24) h dX0_seat_69 (by decide) ?_
                exact ih (k + 1) _ (sim_scr (sim_scr hs _ (by rfl)) _ (by rfl)) (by rw [hy, List.length_append]; exact su_same _ _ _ _) (by rw [hy, su_row2 (by decide)]; exact rowL_app rfl hv) (by omega) (by omega)
      exact LP (10 + 1) (0) _ (sim_scr (sim.refl u) _ (by rfl)) (su_same _ _ _ _) (fun i hi => absurd hi (by simp [seL])) (by omega) (by omega)
      
    · have hz : ¬ seP x := fun q => by rcases q with q | q; exact c7 q; exact c12 q
      refine g_iconst (v := nI 0) h dX0_seat_15 (by decide) ?_
      exact g_zretP h hrt dX0_seat_16 (by omega) (by first | exact Or.inl rfl | exact Or.inr rfl | simp) ⟨by rw [b2_f hz], sim.refl _, fun q => absurd q hz⟩
/-- what a seat's hours that are dealt to another are worth to it -/
def woI (v d : Nat → Int32) (s : Nat) (o : Int32) (n : Nat) : Int32 := smI (fun i => if d i = o then v (s * 6 + i) else 0) n
theorem add0 (x : Int32) : x + 0 = x := by simp
set_option maxHeartbeats 1000000 in
theorem c_X0_worthOfSeat {E : EE} (s : Nat) (hs : s < 3) (x : Int32) (u : Sto) : Ct E 1 0 yX0_worthOfSeat cX0_worthOfSeat 5 (some .int) [.ref (E.ad 164), .int (nI s), .int x] u (.inl (some (.int (woI (u 168) (u 169) s x 6)))) (u) := by
  refine ct_of (by decide) (Nat.le_of_ble_eq_true rfl) (fun X h hR hrt htab hargs hini => ?_)
  have LP : ∀ j k : Nat, 6 < k + j → k ≤ 6 → G E X (QM E X (.inl (some (.int (woI (u 168) (u 169) s x 6)))) (u) 0) 5 0 5 [(0, .ref (E.ad 164)), (1, .int (nI s)), (2, .int x), (3, .int (woI (u 168) (u 169) s x k)), (4, .int (nI k))] [] (u) := by
    intro j
    induction j with
    | zero => intro k h1 h2; omega
    | succ j ih =>
      intro k h1 h2
      refine g_iload h dX0_worthOfSeat_5 rfl ?_
      refine g_bipush (v := nI 6) h dX0_worthOfSeat_7 (by decide) ?_
      refine g_icmp_ge (tgt := 44) h dX0_worthOfSeat_9 (by decide) (fun c9 => ?_) (fun c9 => ?_)
      · have n9 := le_n (by omega) (by omega) (show nI (6) ≤ nI (k) from c9)
        obtain rfl : k = 6 := by omega
        refine g_iload_n h dX0_worthOfSeat_44 rfl rfl ?_
        exact g_iret h hrt dX0_worthOfSeat_45 (by omega) (by rfl) rfl
      · have n9 := nle_n (by omega) (by omega) (show ¬ nI (6) ≤ nI (k) from c9)
        refine g_aload_n h dX0_worthOfSeat_12 rfl rfl ?_
        refine g_getR h fl_X0_24_0 sh_164 (by decide) rfl dX0_worthOfSeat_13 ?_
        refine g_iload h dX0_worthOfSeat_16 rfl ?_
        refine g_iald h _ _ _ sh_169 (by decide) (by decide) rfl (by omega) dX0_worthOfSeat_18 ?_
        refine g_iload_n h dX0_worthOfSeat_19 rfl rfl ?_
        refine g_icmp_ne (tgt := 38) h dX0_worthOfSeat_20 (by decide) (fun c20 => ?_) (fun c20 => ?_)
        · refine g_iinc (v := nI (k + 1)) (ls' := [(0, _), (1, _), (2, _), (3, _), (4, _)]) h dX0_worthOfSeat_38 rfl (nI_1 k) (by decide) rfl rfl ?_
          refine g_goto (tgt := 5) h dX0_worthOfSeat_41 (by decide) ?_
          exact g_cv (by rw [woI, woI, smI, if_neg c20, add0]) rfl (ih (k + 1) (by omega) (by omega))
        · refine g_iload_n h dX0_worthOfSeat_23 rfl rfl ?_
          refine g_aload_n h dX0_worthOfSeat_24 rfl rfl ?_
          refine g_getR h fl_X0_21_0 sh_164 (by decide) rfl dX0_worthOfSeat_25 ?_
          refine g_iload_n h dX0_worthOfSeat_28 rfl rfl ?_
          refine g_bipush (v := nI 6) h dX0_worthOfSeat_29 (by decide) ?_
          refine g_imul h dX0_worthOfSeat_31 ?_
          refine g_top (pk_mul s 6) ?_
          refine g_iload h dX0_worthOfSeat_32 rfl ?_
          refine g_iadd h dX0_worthOfSeat_34 ?_
          refine g_top (nI_add (s * 6) k) ?_
          refine g_iald h _ _ _ sh_168 (by decide) (by decide) rfl (by omega) dX0_worthOfSeat_35 ?_
          refine g_iadd h dX0_worthOfSeat_36 ?_
          refine g_istore_n (ls' := [(0, _), (1, _), (2, _), (3, _), (4, _)]) h dX0_worthOfSeat_37 rfl (by decide) rfl rfl ?_
          refine g_iinc (v := nI (k + 1)) (ls' := [(0, _), (1, _), (2, _), (3, _), (4, _)]) h dX0_worthOfSeat_38 rfl (nI_1 k) (by decide) rfl rfl ?_
          refine g_goto (tgt := 5) h dX0_worthOfSeat_41 (by decide) ?_
          exact g_cv (by rw [woI, woI, smI, if_pos c20]) rfl (ih (k + 1) (by omega) (by omega))
  refine g_iconst (v := nI 0) h dX0_worthOfSeat_0 (by decide) ?_
  refine g_istore_n (ls' := [(0, _), (1, _), (2, _), (3, _)]) h dX0_worthOfSeat_1 rfl (by decide) rfl rfl ?_
  refine g_iconst (v := nI 0) h dX0_worthOfSeat_2 (by decide) ?_
  refine g_istore (ls' := [(0, _), (1, _), (2, _), (3, _), (4, _)]) h dX0_worthOfSeat_3 (by decide) rfl rfl ?_
  exact LP (6 + 1) (0) (by omega) (by omega)
def allB (p : Nat → Bool) : Nat → Bool
  | 0 => true
  | n + 1 => allB p n && p n
theorem allB_f {p : Nat → Bool} {k : Nat} (h : ¬ p k = true) : ∀ {n : Nat}, k < n → ¬ allB p n = true
  | 0, q => absurd q (by omega)
  | n + 1, q => by
    rw [allB, Bool.and_eq_true]
    intro z
    by_cases e : k = n
    · subst e; exact h z.2
    · exact allB_f h (by omega) z.1
theorem allB_i {p : Nat → Bool} : ∀ {n : Nat}, allB p n = true ↔ ∀ k, k < n → p k = true
  | 0 => ⟨fun _ k hk => absurd hk (by omega), fun _ => rfl⟩
  | n + 1 => by
    rw [allB, Bool.and_eq_true, allB_i]
    refine ⟨fun h k hk => ?_, fun h => ⟨fun k hk => h k (by omega), h n (by omega)⟩⟩
    by_cases e : k = n
    · subst e; exact h.2
    · exact h.1 k (by omega)
def frB (v d : Nat → Int32) (m : Nat) : Bool := allB (fun s => allB (fun o => decide (¬ woI v d s (nI s) 6 < woI v d s (nI o) 6)) m) m
set_option maxHeartbeats 1000000 in
theorem c_X0_isFair {E : EE} (M : Nat) (hM3 : M ≤ 3) (u : Sto) (hM : u 164 10 = nI M) : Ct E 2 0 yX0_isFair cX0_isFair 4 (some .boolean) [.ref (E.ad 164)] u (.inl (some (.int (b2 (frB (u 168) (u 169) M = true))))) (u) := by
  refine ct_of (by decide) (Nat.le_of_ble_eq_true rfl) (fun X h hR hrt htab hargs hini => ?_)
  have LP : ∀ j k : Nat, allB (fun s => allB (fun o => decide (¬ woI (u 168) (u 169) s (nI s) 6 < woI (u 168) (u 169) s (nI o) 6)) M) k = true → M < k + j → k ≤ M → G E X (QM E X (.inl (some (.int (b2 (frB (u 168) (u 169) M = true))))) (u) 0) 4 0 2 [(0, .ref (E.ad 164)), (1, .int (nI k))] [] (u) := by
    intro j
    induction j with
    | zero => intro k hA h1 h2; omega
    | succ j ih =>
      intro k hA h1 h2
      refine g_iload_n h dX0_isFair_2 rfl rfl ?_
      refine g_aload_n h dX0_isFair_3 rfl rfl ?_
      refine g_getI h fl_X0_87_0 sh_164 (by decide) rfl dX0_isFair_4 ?_
      refine g_top hM ?_
      refine g_icmp_ge (tgt := 51) h dX0_isFair_7 (by decide) (fun c7 => ?_) (fun c7 => ?_)
      · have n7 := le_n (by omega) (by omega) (show nI (M) ≤ nI (k) from c7)
        obtain rfl : k = M := by omega
        refine g_iconst (v := nI 1) h dX0_isFair_51 (by decide) ?_
        exact g_zret h hrt dX0_isFair_52 (by omega) (by first | exact Or.inl rfl | exact Or.inr rfl | simp) (by rw [b2_t (show frB (u 168) (u 169) k = true from hA)]) rfl
      · have n7 := nle_n (by omega) (by omega) (show ¬ nI (M) ≤ nI (k) from c7)
        refine g_aload_n h dX0_isFair_10 rfl rfl ?_
        refine g_iload_n h dX0_isFair_11 rfl rfl ?_
        refine g_iload_n h dX0_isFair_12 rfl rfl ?_
        refine g_V h lv_X0_104_X0 sh_164 (by decide) rfl (c_X0_worthOfSeat k (by omega) _ _) (fitR hR (by decide) (by decide) (by omega)) rfl rfl (Nat.le_of_ble_eq_true rfl) dX0_isFair_13 ?_
        refine g_istore_n (ls' := [(0, _), (1, _), (2, _)]) h dX0_isFair_16 rfl (by decide) rfl rfl ?_
        refine g_iconst (v := nI 0) h dX0_isFair_17 (by decide) ?_
        refine g_istore_n (ls' := [(0, _), (1, _), (2, _), (3, _)]) h dX0_isFair_18 rfl (by decide) rfl rfl ?_
        have LP2 : ∀ j9 j2 : Nat, (∀ o, o < j2 → decide (¬ woI (u 168) (u 169) k (nI k) 6 < woI (u 168) (u 169) k (nI o) 6) = true) → M < j2 + j9 → j2 ≤ M → G E X (QM E X (.inl (some (.int (b2 (frB (u 168) (u 169) M = true))))) (u) 0) 4 0 19 [(0, .ref (E.ad 164)), (1, .int (nI k)), (2, .int (woI (u 168) (u 169) k (nI k) 6)), (3, .int (nI j2))] [] (u) := by
          intro j9
          induction j9 with
          | zero => intro j2 hB h1 h2; omega
          | succ j9 ih2 =>
            intro j2 hB h1 h2
            refine g_iload_n h dX0_isFair_19 rfl rfl ?_
            refine g_aload_n h dX0_isFair_20 rfl rfl ?_
            refine g_getI h fl_X0_87_0 sh_164 (by decide) rfl dX0_isFair_21 ?_
            refine g_top hM ?_
            refine g_icmp_ge (tgt := 45) h dX0_isFair_24 (by decide) (fun c24 => ?_) (fun c24 => ?_)
            · have n24 := le_n (by omega) (by omega) (show nI (M) ≤ nI (j2) from c24)
              obtain rfl : j2 = M := by omega
              refine g_iinc (v := nI (k + 1)) (ls' := [(0, _), (1, _), (2, _), (3, _)]) h dX0_isFair_45 rfl (nI_1 k) (by decide) rfl rfl ?_
              refine g_goto (tgt := 2) h dX0_isFair_48 (by decide) ?_
              refine g_del 2 (ls' := [(0, _), (1, _), (3, _)]) rfl ?_
              refine g_del 3 (ls' := [(0, _), (1, _)]) rfl ?_
              exact ih (k + 1) (by rw [allB, hA, Bool.true_and]; exact allB_i.mpr (fun o ho => hB o ho)) (by omega) (by omega)
            · have n24 := nle_n (by omega) (by omega) (show ¬ nI (M) ≤ nI (j2) from c24)
              refine g_aload_n h dX0_isFair_27 rfl rfl ?_
              refine g_iload_n h dX0_isFair_28 rfl rfl ?_
              refine g_iload_n h dX0_isFair_29 rfl rfl ?_
              refine g_V h lv_X0_104_X0 sh_164 (by decide) rfl (c_X0_worthOfSeat k (by omega) _ _) (fitR hR (by decide) (by decide) (by omega)) rfl rfl (Nat.le_of_ble_eq_true rfl) dX0_isFair_30 ?_
              refine g_iload_n h dX0_isFair_33 rfl rfl ?_
              refine g_icmp_le (tgt := 39) h dX0_isFair_34 (by decide) (fun c34 => ?_) (fun c34 => ?_)
              · refine g_iinc (v := nI (j2 + 1)) (ls' := [(0, _), (1, _), (2, _), (3, _)]) h dX0_isFair_39 rfl (nI_1 j2) (by decide) rfl rfl ?_
                refine g_goto (tgt := 19) h dX0_isFair_42 (by decide) ?_
                exact ih2 (j2 + 1) (fun o ho => by
                  by_cases e : o = j2
                  · subst e; exact decide_eq_true (Int32.not_lt.mpr c34)
                  · exact hB o (by omega)) (by omega) (by omega)
              · refine g_iconst (v := nI 0) h dX0_isFair_37 (by decide) ?_
                exact g_zret h hrt dX0_isFair_38 (by omega) (by first | exact Or.inl rfl | exact Or.inr rfl | simp) (by rw [b2_f (p := frB (u 168) (u 169) M = true) (fun q => absurd q (allB_f (k := k) (by rw [Bool.not_eq_true]; exact Bool.eq_false_iff.mpr (allB_f (k := j2) (by simp [Int32.not_le.mp c34]) n24)) n7))]) rfl
        exact LP2 (M + 1) (0) (fun o ho => absurd ho (by omega)) (by omega) (by omega)
        
  refine g_iconst (v := nI 0) h dX0_isFair_0 (by decide) ?_
  refine g_istore_n (ls' := [(0, _), (1, _)]) h dX0_isFair_1 rfl (by decide) rfl rfl ?_
  exact LP (M + 1) (0) rfl (by omega) (by omega)
set_option maxHeartbeats 1000000 in
theorem c_X0_dealtTo {E : EE} (i : Nat) (hi : i < 6) (j : Nat) (hj : j < 3) (u : Sto) (hx : u 170 i = nI j) : Ct E 1 0 yX0_dealtTo cX0_dealtTo 2 (some .int) [.ref (E.ad 164), .int (nI i)] u (.inl (some (.int (u 167 j)))) (u) := by
  refine ct_of (by decide) (Nat.le_of_ble_eq_true rfl) (fun X h hR hrt htab hargs hini => ?_)
  refine g_aload_n h dX0_dealtTo_0 rfl rfl ?_
  refine g_getR h fl_X0_18_0 sh_164 (by decide) rfl dX0_dealtTo_1 ?_
  refine g_aload_n h dX0_dealtTo_4 rfl rfl ?_
  refine g_getR h fl_X0_27_0 sh_164 (by decide) rfl dX0_dealtTo_5 ?_
  refine g_iload_n h dX0_dealtTo_8 rfl rfl ?_
  refine g_iald h _ _ _ sh_170 (by decide) (by decide) rfl (by omega) dX0_dealtTo_9 ?_
  refine g_top hx ?_
  refine g_iald h _ _ _ sh_167 (by decide) (by decide) rfl (by omega) dX0_dealtTo_10 ?_
  exact g_iret h hrt dX0_dealtTo_11 (by omega) (by rfl) rfl
set_option maxHeartbeats 1000000 in
theorem c_X0_pointedBy {E : EE} (i : Nat) (hi : i < 10) (u : Sto) : Ct E 1 0 yX0_pointedBy cX0_pointedBy 2 (some .int) [.ref (E.ad 164), .int (nI i)] u (.inl (some (.int (u 172 i)))) (u) := by
  refine ct_of (by decide) (Nat.le_of_ble_eq_true rfl) (fun X h hR hrt htab hargs hini => ?_)
  refine g_aload_n h dX0_pointedBy_0 rfl rfl ?_
  refine g_getR h fl_X0_33_0 sh_164 (by decide) rfl dX0_pointedBy_1 ?_
  refine g_iload_n h dX0_pointedBy_4 rfl rfl ?_
  refine g_iald h _ _ _ sh_172 (by decide) (by decide) rfl (by omega) dX0_pointedBy_5 ?_
  exact g_iret h hrt dX0_pointedBy_6 (by omega) (by rfl) rfl
