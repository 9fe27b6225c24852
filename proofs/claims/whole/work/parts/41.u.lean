-- after: 38.r 39.s 40.t
def dnI (c : Nat) : Int32 := Int32.ofInt ((c : Int) - 1)
theorem dn_s : ∀ c, c < 8 → dnI (c + 1) = nI c := by decide
theorem dn_n : ∀ c, c < 8 → ¬ dnI (c + 1) < 0 := by decide
theorem dn_m : ∀ c, c < 8 → dnI (c + 1) + Int32.ofInt (-1) = dnI c := by decide
theorem dn_0 : dnI 0 < 0 := by decide
def dnF (M : Nat) : Nat → (Nat → Int32) → Nat → Int32
  | 0, f => f
  | i + 1, f => if upd f i (f i + nI 1) i < nI M then upd f i (f i + nI 1) else dnF M i (upd (upd f i (f i + nI 1)) i (nI 0))
theorem dnF_s {M k : Nat} {f : Nat → Int32} (h : k < 6) : dnF M (6 - k) f = if upd f (5 - k) (f (5 - k) + nI 1) (5 - k) < nI M then upd f (5 - k) (f (5 - k) + nI 1) else dnF M (6 - (k + 1)) (upd (upd f (5 - k) (f (5 - k) + nI 1)) (5 - k) (nI 0)) := by
  rw [show 6 - k = (5 - k) + 1 by omega, show 6 - (k + 1) = 5 - k by omega]; rfl
theorem su_scr {u : Sto} {c i : Nat} {f : Nat → Int32} {v : Int32} : su (sc u c f) c i v = sc u c (upd f i v) := su_sc _ _ _ _ _
set_option maxHeartbeats 1000000 in
theorem c_X0_dealNext {E : EE} (M : Nat) (u : Sto) (hM : u 164 10 = nI M) : Ct E 1 0 yX0_dealNext cX0_dealNext 2 none [.ref (E.ad 164)] u (.inl none) (sc u 169 (dnF M 6 (u 169))) := by
  refine ct_of (by decide) (Nat.le_of_ble_eq_true rfl) (fun X h hR hrt htab hargs hini => ?_)
  have LP : ∀ j k : Nat, ∀ f : Nat → Int32, dnF M 6 (u 169) = dnF M (6 - k) f → 6 < k + j → k ≤ 6 → G E X (QM E X (.inl none) (sc u 169 (dnF M 6 (u 169))) 0) 2 0 2 [(0, .ref (E.ad 164)), (1, .int (dnI (6 - k)))] [] (sc u 169 f) := by
    intro j
    induction j with
    | zero => intro k f hf h1 h2; omega
    | succ j ih =>
      intro k f hf h1 h2
      refine g_iload_n h dX0_dealNext_2 rfl rfl ?_
      refine g_if_lt (tgt := 43) h dX0_dealNext_3 (by decide) (fun c3 => ?_) (fun c3 => ?_)
      · obtain rfl : k = 6 := by
          by_cases q : k < 6
          · rw [show 6 - k = (5 - k) + 1 by omega] at c3; exact absurd c3 (dn_n _ (by omega))
          · omega
        exact g_vret h hrt dX0_dealNext_43 (by omega) rfl (by rw [hf]; rfl)
      · have n3 : k < 6 := by
          by_cases q : k < 6
          · exact q
          · obtain rfl : k = 6 := by omega
            exact absurd dn_0 c3
        have e9 : dnI (6 - k) = nI (5 - k) := by rw [show 6 - k = (5 - k) + 1 by omega]; exact dn_s _ (by omega)
        rw [dnF_s n3] at hf
        refine g_aload_n h dX0_dealNext_6 rfl rfl ?_
        refine g_getR h fl_X0_24_0 sh_164 (by decide) rfl dX0_dealNext_7 ?_
        refine g_iload_n h dX0_dealNext_10 rfl rfl ?_
        refine g_top e9 ?_
        refine g_dup2 h dX0_dealNext_11 rfl rfl ?_
        refine g_iald h _ _ _ sh_169 (by decide) (by decide) rfl (by omega) dX0_dealNext_12 ?_
        refine g_top (y := f (5 - k)) (by rw [sc_at]) ?_
        refine g_iconst (v := nI 1) h dX0_dealNext_13 (by decide) ?_
        refine g_iadd h dX0_dealNext_14 ?_
        refine g_iast h _ _ _ sh_169 (by decide) (by decide) rfl (by omega) dX0_dealNext_15 ?_
        refine g_sto su_scr ?_
        refine g_aload_n h dX0_dealNext_16 rfl rfl ?_
        refine g_getR h fl_X0_24_0 sh_164 (by decide) rfl dX0_dealNext_17 ?_
        refine g_iload_n h dX0_dealNext_20 rfl rfl ?_
        refine g_top e9 ?_
        refine g_iald h _ _ _ sh_169 (by decide) (by decide) rfl (by omega) dX0_dealNext_21 ?_
        refine g_top (y := upd f (5 - k) (f (5 - k) + nI 1) (5 - k)) (by rw [sc_at]) ?_
        refine g_aload_n h dX0_dealNext_22 rfl rfl ?_
        refine g_getI h fl_X0_87_0 sh_164 (by decide) rfl dX0_dealNext_23 ?_
        refine g_top (y := nI M) (by rw [sc_c (by decide)]; exact hM) ?_
        refine g_icmp_ge (tgt := 30) h dX0_dealNext_26 (by decide) (fun c26 => ?_) (fun c26 => ?_)
        · rw [if_neg (Int32.not_lt.mpr c26)] at hf
          refine g_aload_n h dX0_dealNext_30 rfl rfl ?_
          refine g_getR h fl_X0_24_0 sh_164 (by decide) rfl dX0_dealNext_31 ?_
          refine g_iload_n h dX0_dealNext_34 rfl rfl ?_
          refine g_top e9 ?_
          refine g_iconst (v := nI 0) h dX0_dealNext_35 (by decide) ?_
          refine g_iast h _ _ _ sh_169 (by decide) (by decide) rfl (by omega) dX0_dealNext_36 ?_
          refine g_sto su_scr ?_
          refine g_iinc (v := dnI (6 - (k + 1))) (ls' := [(0, _), (1, _)]) h dX0_dealNext_37 rfl (by rw [show 6 - k = (5 - k) + 1 by omega, show 6 - (k + 1) = 5 - k by omega]; exact dn_m _ (by omega)) (by decide) rfl rfl ?_
          refine g_goto (tgt := 2) h dX0_dealNext_40 (by decide) ?_
          exact ih (k + 1) _ hf (by omega) (by omega)
        · rw [if_pos (Int32.not_le.mp c26)] at hf
          exact g_vret h hrt dX0_dealNext_29 (by omega) rfl (by rw [hf])
  refine g_iconst (v := nI 5) h dX0_dealNext_0 (by decide) ?_
  refine g_istore_n (ls' := [(0, _), (1, _)]) h dX0_dealNext_1 rfl (by decide) rfl rfl ?_
  exact g_cv rfl (sc_self u 169).symm (LP 7 0 (u 169) rfl (by omega) (by omega))
abbrev mpP (u : Sto) (a r : Nat) : Prop := ¬ u 4 r = -1 ∧ ¬ u 4 r = nI a ∧ u 5 r = -1 ∧ brP u a r = false
theorem mpP_sim {w u : Sto} (h : sim w u) (a r : Nat) : mpP w a r ↔ mpP u a r := by
  unfold mpP
  rw [h.c 4 (by decide), h.c 5 (by decide), brP_sim h]
def pmF (u : Sto) (a : Nat) : Nat → Int32
  | 0 => nI 0
  | k + 1 => if u 4 k = nI a then mxI (pmF u a k) (vlI u a k) else pmF u a k
def pbF (u : Sto) (a : Nat) (mo : Int32) : Nat → Int32 × Int32
  | 0 => (mo, -1)
  | k + 1 => if mpP u a k ∧ (pbF u a mo k).1 < vlI u a k then (vlI u a k, nI k) else pbF u a mo k
theorem pb_tn (u : Sto) (a : Nat) (mo : Int32) : ∀ k, tn (pbF u a mo k).2 k
  | 0 => Or.inl rfl
  | k + 1 => by
    rw [pbF]
    split
    · exact Or.inr ⟨k, by omega, rfl⟩
    · rcases pb_tn u a mo k with h | ⟨b, hb, h⟩
      · exact Or.inl h
      · exact Or.inr ⟨b, by omega, h⟩
def ptI (u : Sto) (a : Nat) : Int32 := if u 8 a = 0 then -1 else (pbF u a (pmF u a 168) 168).2
theorem pt_tn (u : Sto) (a : Nat) : tn (ptI u a) 168 := by
  unfold ptI
  split
  · exact Or.inl rfl
  · exact pb_tn u a _ 168
theorem pmF_sim {w u : Sto} (h : sim w u) (a : Nat) : ∀ k, pmF w a k = pmF u a k
  | 0 => rfl
  | k + 1 => by rw [pmF, pmF, pmF_sim h a k, h.c 4 (by decide), vlI_sim h]
theorem pbF_sim {w u : Sto} (h : sim w u) (a : Nat) (mo : Int32) : ∀ k, pbF w a mo k = pbF u a mo k
  | 0 => rfl
  | k + 1 => by
    rw [pbF, pbF, pbF_sim h a mo k, vlI_sim h]
    by_cases q : mpP u a k ∧ (pbF u a mo k).1 < vlI u a k
    · rw [if_pos q, if_pos ⟨(mpP_sim h a k).mpr q.1, q.2⟩]
    · rw [if_neg q, if_neg (fun z => q ⟨(mpP_sim h a k).mp z.1, z.2⟩)]
theorem ptI_sim {w u : Sto} (h : sim w u) (a : Nat) : ptI w a = ptI u a := by
  unfold ptI
  rw [h.c 8 (by decide), pmF_sim h, pbF_sim h]
set_option maxHeartbeats 1000000 in
theorem c_X0_mayPointTo {E : EE} (a : Nat) (ha : a < 10) (r : Nat) (hr : r < 168) (u : Sto) (hl : lawI u) : CtP E 5 0 yX0_mayPointTo cX0_mayPointTo 4 (some .boolean) [.ref (E.ad 164), .int (nI a), .int (nI r)] u (PT (.inl (some (.int (b2 (mpP u a r))))) u) := by
  refine ctp_of (by decide) (Nat.le_of_ble_eq_true rfl) (fun X h hR hrt htab hargs => ?_)
  refine g_aload_n h dX0_mayPointTo_0 rfl rfl ?_
  refine g_getR h fl_X0_46_0 sh_164 (by decide) rfl dX0_mayPointTo_1 ?_
  refine g_getR h fl_X0_110_6 sh_3 (by decide) rfl dX0_mayPointTo_4 ?_
  refine g_iload_n h dX0_mayPointTo_7 rfl rfl ?_
  refine g_iald h _ _ _ sh_4 (by decide) (by decide) rfl (by omega) dX0_mayPointTo_8 ?_
  refine g_istore_n (ls' := [(0, _), (1, _), (2, _), (3, _)]) h dX0_mayPointTo_9 rfl (by decide) rfl rfl ?_
  refine g_iload_n h dX0_mayPointTo_10 rfl rfl ?_
  refine g_iconst (v := -1) h dX0_mayPointTo_11 (by decide) ?_
  refine g_icmp_eq (tgt := 49) h dX0_mayPointTo_12 (by decide) (fun c12 => ?_) (fun c12 => ?_)
  · have hz : ¬ mpP u a r := fun q => q.1 c12
    refine g_iconst (v := nI 0) h dX0_mayPointTo_49 (by decide) ?_
    exact g_zretP h hrt dX0_mayPointTo_50 (by omega) (by first | exact Or.inl rfl | exact Or.inr rfl | simp) (by first | exact ⟨by rw [b2_t hz], hs39⟩ | exact ⟨by rw [b2_f hz], hs39⟩ | exact ⟨by rw [b2_f hz], tim.refl _⟩)
  · refine g_iload_n h dX0_mayPointTo_15 rfl rfl ?_
    refine g_iload_n h dX0_mayPointTo_16 rfl rfl ?_
    refine g_icmp_eq (tgt := 49) h dX0_mayPointTo_17 (by decide) (fun c17 => ?_) (fun c17 => ?_)
    · have hz : ¬ mpP u a r := fun q => q.2.1 c17
      refine g_iconst (v := nI 0) h dX0_mayPointTo_49 (by decide) ?_
      exact g_zretP h hrt dX0_mayPointTo_50 (by omega) (by first | exact Or.inl rfl | exact Or.inr rfl | simp) (by first | exact ⟨by rw [b2_t hz], hs39⟩ | exact ⟨by rw [b2_f hz], hs39⟩ | exact ⟨by rw [b2_f hz], tim.refl _⟩)
    · refine g_aload_n h dX0_mayPointTo_20 rfl rfl ?_
      refine g_getR h fl_X0_46_0 sh_164 (by decide) rfl dX0_mayPointTo_21 ?_
      refine g_getR h fl_X0_125_6 sh_3 (by decide) rfl dX0_mayPointTo_24 ?_
      refine g_iload_n h dX0_mayPointTo_27 rfl rfl ?_
      refine g_iald h _ _ _ sh_5 (by decide) (by decide) rfl (by omega) dX0_mayPointTo_28 ?_
      refine g_iconst (v := -1) h dX0_mayPointTo_29 (by decide) ?_
      refine g_icmp_ne (tgt := 49) h dX0_mayPointTo_30 (by decide) (fun c30 => ?_) (fun c30 => ?_)
      · have hz : ¬ mpP u a r := fun q => c30 q.2.2.1
        refine g_iconst (v := nI 0) h dX0_mayPointTo_49 (by decide) ?_
        exact g_zretP h hrt dX0_mayPointTo_50 (by omega) (by first | exact Or.inl rfl | exact Or.inr rfl | simp) (by first | exact ⟨by rw [b2_t hz], hs39⟩ | exact ⟨by rw [b2_f hz], hs39⟩ | exact ⟨by rw [b2_f hz], tim.refl _⟩)
      · refine g_aload_n h dX0_mayPointTo_33 rfl rfl ?_
        refine g_getR h fl_X0_36_0 sh_164 (by decide) rfl dX0_mayPointTo_34 ?_
        refine g_iload_n h dX0_mayPointTo_37 rfl rfl ?_
        refine g_iload_n h dX0_mayPointTo_38 rfl rfl ?_
        refine g_VP h lv_X0_128_X9 sh_2 (by decide) rfl (c_X9_isBarredT a ha r hr _ hl) pt_nx (fitR hR (by decide) (by decide) (by omega)) rfl rfl (Nat.le_of_ble_eq_true rfl) dX0_mayPointTo_39 (fun v39 u39 hs39 => ?_)
        obtain ⟨hv39, hs39⟩ := hs39
        cases hv39
        refine g_if_ne (tgt := 49) h dX0_mayPointTo_42 (by decide) (fun c42 => ?_) (fun c42 => ?_)
        · have hz : ¬ mpP u a r := fun q => b2_n0.mp c42 |> fun z => absurd z (by rw [q.2.2.2]; exact Bool.false_ne_true)
          refine g_iconst (v := nI 0) h dX0_mayPointTo_49 (by decide) ?_
          exact g_zretP h hrt dX0_mayPointTo_50 (by omega) (by first | exact Or.inl rfl | exact Or.inr rfl | simp) (by first | exact ⟨by rw [b2_t hz], hs39⟩ | exact ⟨by rw [b2_f hz], hs39⟩ | exact ⟨by rw [b2_f hz], tim.refl _⟩)
        · have hz : mpP u a r := ⟨c12, c17, c30, Bool.eq_false_iff.mpr (b2_0.mp c42)⟩
          refine g_iconst (v := nI 1) h dX0_mayPointTo_45 (by decide) ?_
          refine g_goto (tgt := 50) h dX0_mayPointTo_46 (by decide) ?_
          exact g_zretP h hrt dX0_mayPointTo_50 (by omega) (by first | exact Or.inl rfl | exact Or.inr rfl | simp) (by first | exact ⟨by rw [b2_t hz], hs39⟩ | exact ⟨by rw [b2_f hz], hs39⟩ | exact ⟨by rw [b2_f hz], tim.refl _⟩)
set_option maxHeartbeats 1000000 in
theorem c_X0_pointsTo {E : EE} (a : Nat) (ha : a < 10) (u : Sto) (hl : lawI u) : CtP E 6 0 yX0_pointsTo cX0_pointsTo 6 (some .int) [.ref (E.ad 164), .int (nI a)] u (PT (.inl (some (.int (ptI u a)))) u) := by
  refine ctp_of (by decide) (Nat.le_of_ble_eq_true rfl) (fun X h hR hrt htab hargs => ?_)
  refine g_aload_n h dX0_pointsTo_0 rfl rfl ?_
  refine g_getR h fl_X0_46_0 sh_164 (by decide) rfl dX0_pointsTo_1 ?_
  refine g_getR h fl_X0_113_6 sh_3 (by decide) rfl dX0_pointsTo_4 ?_
  refine g_iload_n h dX0_pointsTo_7 rfl rfl ?_
  refine g_iald h _ _ _ sh_8 (by decide) (by decide) rfl (by omega) dX0_pointsTo_8 ?_
  refine g_if_ne (tgt := 14) h dX0_pointsTo_9 (by decide) (fun c9 => ?_) (fun c9 => ?_)
  · refine g_iconst (v := nI 0) h dX0_pointsTo_14 (by decide) ?_
    refine g_istore_n (ls' := [(0, _), (1, _), (2, _)]) h dX0_pointsTo_15 rfl (by decide) rfl rfl ?_
    refine g_iconst (v := nI 0) h dX0_pointsTo_16 (by decide) ?_
    refine g_istore_n (ls' := [(0, _), (1, _), (2, _), (3, _)]) h dX0_pointsTo_17 rfl (by decide) rfl rfl ?_
    have LP : ∀ j k : Nat, ∀ w : Sto, tim w u → 168 < k + j → k ≤ 168 → G E X (QMP E X (PT (.inl (some (.int (ptI u a)))) u) 0) 6 0 18 [(0, .ref (E.ad 164)), (1, .int (nI a)), (2, .int (pmF u a k)), (3, .int (nI k))] [] (w) := by
      intro j
      induction j with
      | zero => intro k w hs h1 h2; omega
      | succ j ih =>
        intro k w hs h1 h2
        refine g_iload_n h dX0_pointsTo_18 rfl rfl ?_
        refine g_sipush (v := nI 168) h dX0_pointsTo_19 (by decide) ?_
        refine g_icmp_ge (tgt := 58) h dX0_pointsTo_22 (by decide) (fun c22 => ?_) (fun c22 => ?_)
        · have n22 := le_n (by omega) (by omega) (show nI (168) ≤ nI (k) from c22)
          obtain rfl : k = 168 := by omega
          refine g_iconst (v := -1) h dX0_pointsTo_58 (by decide) ?_
          refine g_istore_n (ls' := [(0, _), (1, _), (2, _), (3, _)]) h dX0_pointsTo_59 rfl (by decide) rfl rfl ?_
          refine g_iconst (v := nI 0) h dX0_pointsTo_60 (by decide) ?_
          refine g_istore (ls' := [(0, _), (1, _), (2, _), (3, _), (4, _)]) h dX0_pointsTo_61 (by decide) rfl rfl ?_
          have LP2 : ∀ j k : Nat, ∀ w2 : Sto, tim w2 u → 168 < k + j → k ≤ 168 → G E X (QMP E X (PT (.inl (some (.int (ptI u a)))) u) 0) 6 0 63 [(0, .ref (E.ad 164)), (1, .int (nI a)), (2, .int (pbF u a (pmF u a 168) k).1), (3, .int (pbF u a (pmF u a 168) k).2), (4, .int (nI k))] [] (w2) := by
            intro j
            induction j with
            | zero => intro k w2 hw h1 h2; omega
            | succ j ih =>
              intro k w2 hw h1 h2
              refine g_iload h dX0_pointsTo_63 rfl ?_
              refine g_sipush (v := nI 168) h dX0_pointsTo_65 (by decide) ?_
              refine g_icmp_ge (tgt := 111) h dX0_pointsTo_68 (by decide) (fun c68 => ?_) (fun c68 => ?_)
              · have n68 := le_n (by omega) (by omega) (show nI (168) ≤ nI (k) from c68)
                obtain rfl : k = 168 := by omega
                refine g_iload_n h dX0_pointsTo_111 rfl rfl ?_
                exact g_iretP h hrt dX0_pointsTo_112 (by omega) ⟨by rw [ptI, if_neg c9], hw⟩
              · have n68 := nle_n (by omega) (by omega) (show ¬ nI (168) ≤ nI (k) from c68)
                refine g_aload_n h dX0_pointsTo_71 rfl rfl ?_
                refine g_iload_n h dX0_pointsTo_72 rfl rfl ?_
                refine g_iload h dX0_pointsTo_73 rfl ?_
                refine g_VP h lv_X0_121_X0 sh_164 (by decide) rfl (c_X0_mayPointTo a ha k (by omega) _ (lawI_tim hw hl)) pt_nx (fitR hR (by decide) (by decide) (by omega)) rfl rfl (Nat.le_of_ble_eq_true rfl) dX0_pointsTo_75 (fun v75 u75 hs75 => ?_)
                obtain ⟨hv75, hs75⟩ := hs75
                cases hv75
                refine g_if_eq (tgt := 105) h dX0_pointsTo_78 (by decide) (fun c78 => ?_) (fun c78 => ?_)
                · have hz : ¬ (mpP u a k ∧ (pbF u a (pmF u a 168) k).1 < vlI u a k) := fun q => b2_0.mp c78 ((mpP_sim hw.sim a k).mpr q.1)
                  refine g_iinc (v := nI (k + 1)) (ls' := [(0, _), (1, _), (2, _), (3, _), (4, _)]) h dX0_pointsTo_105 rfl (nI_1 k) (by decide) rfl rfl ?_
                  refine g_goto (tgt := 63) h dX0_pointsTo_108 (by decide) ?_
                  exact g_cv (by rw [pbF, if_neg hz]) rfl (ih (k + 1) _ (hs75.trans hw) (by omega) (by omega))
                · have hy : mpP u a k := (mpP_sim hw.sim a k).mp (b2_n0.mp c78)
                  have hw2 := hs75.trans hw
                  refine g_aload_n h dX0_pointsTo_81 rfl rfl ?_
                  refine g_getR h fl_X0_36_0 sh_164 (by decide) rfl dX0_pointsTo_82 ?_
                  refine g_iload_n h dX0_pointsTo_85 rfl rfl ?_
                  refine g_iload h dX0_pointsTo_86 rfl ?_
                  refine g_VP h lv_X0_79_X9 sh_2 (by decide) rfl (c_X9_valueOfT a ha k (by omega) _ (lawI_tim hw2 hl)) pt_nx (fitR hR (by decide) (by decide) (by omega)) rfl rfl (Nat.le_of_ble_eq_true rfl) dX0_pointsTo_88 (fun v88 u88 hs88 => ?_)
                  obtain ⟨hv88, hs88⟩ := hs88
                  cases hv88
                  refine g_top (vlI_sim hw2.sim a k) ?_
                  refine g_istore (ls' := [(0, _), (1, _), (2, _), (3, _), (4, _), (5, _)]) h dX0_pointsTo_91 (by decide) rfl rfl ?_
                  refine g_iload h dX0_pointsTo_93 rfl ?_
                  refine g_iload_n h dX0_pointsTo_95 rfl rfl ?_
                  refine g_icmp_le (tgt := 105) h dX0_pointsTo_96 (by decide) (fun c96 => ?_) (fun c96 => ?_)
                  · have hz : ¬ (mpP u a k ∧ (pbF u a (pmF u a 168) k).1 < vlI u a k) := fun q => absurd q.2 (Int32.not_lt.mpr c96)
                    refine g_iinc (v := nI (k + 1)) (ls' := [(0, _), (1, _), (2, _), (3, _), (4, _), (5, _)]) h dX0_pointsTo_105 rfl (nI_1 k) (by decide) rfl rfl ?_
                    refine g_goto (tgt := 63) h dX0_pointsTo_108 (by decide) ?_
                    refine g_del 5 (ls' := [(0, _), (1, _), (2, _), (3, _), (4, _)]) rfl ?_
                    exact g_cv (by rw [pbF, if_neg hz]) rfl (ih (k + 1) _ (hs88.trans hw2) (by omega) (by omega))
                  · have hz : mpP u a k ∧ (pbF u a (pmF u a 168) k).1 < vlI u a k := ⟨hy, Int32.not_le.mp c96⟩
                    refine g_iload h dX0_pointsTo_99 rfl ?_
                    refine g_istore_n (ls' := [(0, _), (1, _), (2, _), (3, _), (4, _), (5, _)]) h dX0_pointsTo_101 rfl (by decide) rfl rfl ?_
                    refine g_iload h dX0_pointsTo_102 rfl ?_
                    refine g_istore_n (ls' := [(0, _), (1, _), (2, _), (3, _), (4, _), (5, _)]) h dX0_pointsTo_104 rfl (by decide) rfl rfl ?_
                    refine g_iinc (v := nI (k + 1)) (ls' := [(0, _), (1, _), (2, _), (3, _), (4, _), (5, _)]) h dX0_pointsTo_105 rfl (nI_1 k) (by decide) rfl rfl ?_
                    refine g_goto (tgt := 63) h dX0_pointsTo_108 (by decide) ?_
                    refine g_del 5 (ls' := [(0, _), (1, _), (2, _), (3, _), (4, _)]) rfl ?_
                    exact g_cv (by rw [pbF, if_pos hz]) rfl (ih (k + 1) _ (hs88.trans hw2) (by omega) (by omega))
          exact LP2 (168 + 1) (0) w hs (by omega) (by omega)
          
        · have n22 := nle_n (by omega) (by omega) (show ¬ nI (168) ≤ nI (k) from c22)
          refine g_aload_n h dX0_pointsTo_25 rfl rfl ?_
          refine g_getR h fl_X0_46_0 sh_164 (by decide) rfl dX0_pointsTo_26 ?_
          refine g_getR h fl_X0_110_6 sh_3 (by decide) rfl dX0_pointsTo_29 ?_
          refine g_iload_n h dX0_pointsTo_32 rfl rfl ?_
          refine g_iald h _ _ _ sh_4 (by decide) (by decide) rfl (by omega) dX0_pointsTo_33 ?_
          refine g_top (y := u 4 k) (by rw [hs 4 (by decide) (by decide)]) ?_
          refine g_iload_n h dX0_pointsTo_34 rfl rfl ?_
          refine g_icmp_ne (tgt := 52) h dX0_pointsTo_35 (by decide) (fun c35 => ?_) (fun c35 => ?_)
          · refine g_iinc (v := nI (k + 1)) (ls' := [(0, _), (1, _), (2, _), (3, _)]) h dX0_pointsTo_52 rfl (nI_1 k) (by decide) rfl rfl ?_
            refine g_goto (tgt := 18) h dX0_pointsTo_55 (by decide) ?_
            exact g_cv (by rw [pmF, if_neg c35]) rfl (ih (k + 1) _ hs (by omega) (by omega))
          · refine g_iload_n h dX0_pointsTo_38 rfl rfl ?_
            refine g_aload_n h dX0_pointsTo_39 rfl rfl ?_
            refine g_getR h fl_X0_36_0 sh_164 (by decide) rfl dX0_pointsTo_40 ?_
            refine g_iload_n h dX0_pointsTo_43 rfl rfl ?_
            refine g_iload_n h dX0_pointsTo_44 rfl rfl ?_
            refine g_VP h lv_X0_79_X9 sh_2 (by decide) rfl (c_X9_valueOfT a ha k (by omega) _ (lawI_tim hs hl)) pt_nx (fitR hR (by decide) (by decide) (by omega)) rfl rfl (Nat.le_of_ble_eq_true rfl) dX0_pointsTo_45 (fun v45 u45 hs45 => ?_)
            obtain ⟨hv45, hs45⟩ := hs45
            cases hv45
            refine g_top (vlI_sim hs.sim a k) ?_
            refine g_S h ls_X0_116 (c_J9_max_7cf53 _ _ _) (fitR hR (by decide) (by decide) (by omega)) rfl rfl (Nat.le_of_ble_eq_true rfl) dX0_pointsTo_48 ?_
            refine g_istore_n (ls' := [(0, _), (1, _), (2, _), (3, _)]) h dX0_pointsTo_51 rfl (by decide) rfl rfl ?_
            refine g_iinc (v := nI (k + 1)) (ls' := [(0, _), (1, _), (2, _), (3, _)]) h dX0_pointsTo_52 rfl (nI_1 k) (by decide) rfl rfl ?_
            refine g_goto (tgt := 18) h dX0_pointsTo_55 (by decide) ?_
            exact g_cv (by rw [pmF, if_pos c35]) rfl (ih (k + 1) _ (hs45.trans hs) (by omega) (by omega))
    exact LP (168 + 1) (0) u (tim.refl u) (by omega) (by omega)
    
  · refine g_iconst (v := -1) h dX0_pointsTo_12 (by decide) ?_
    exact g_iretP h hrt dX0_pointsTo_13 (by omega) ⟨by rw [ptI, if_pos c9], tim.refl _⟩
def atF (u : Sto) (a : Nat) : Nat → Nat
  | 0 => a
  | n + 1 => ix (u 4 (ix (ptI u (atF u a n))))
def rgN (u : Sto) (a : Nat) : Nat → Nat → Nat
  | 0, _ => 0
  | j + 1, n => if ptI u (atF u a n) = -1 then 0 else if u 4 (ix (ptI u (atF u a n))) = nI a then n + 1 else rgN u a j (n + 1)
theorem rg_s {u : Sto} {a N n : Nat} (h : n < N) : rgN u a (N - n) n = if ptI u (atF u a n) = -1 then 0 else if u 4 (ix (ptI u (atF u a n))) = nI a then n + 1 else rgN u a (N - (n + 1)) (n + 1) := by
  rw [show N - n = (N - (n + 1)) + 1 by omega]; rfl
theorem rg_e {u : Sto} {a N : Nat} : rgN u a (N - N) N = 0 := by rw [Nat.sub_self]; rfl
def rgQ (u : Sto) (a : Nat) : Res → Sto → Prop := fun o w => o = .inl (some (.int (nI (rgN u a 10 0)))) ∧ sim w u ∧ ∀ i, i < rgN u a 10 0 → w 171 i = nI (atF u a i) ∧ w 172 i = ptI u (atF u a i) ∧ ¬ ptI u (atF u a i) = -1 ∧ atF u a i < 10
theorem rg_nx {u : Sto} {a : Nat} : ∀ Ex u', ¬ rgQ u a (.inr Ex) u' := fun _ _ h => nomatch h.1
theorem pt_own {u : Sto} {a : Nat} (h : ¬ ptI u a = -1) : ¬ u 4 (ix (ptI u a)) = -1 := by
  unfold ptI at h ⊢
  by_cases e : u 8 a = 0
  · rw [if_pos e] at h; exact absurd rfl h
  · rw [if_neg e] at h ⊢
    have H : ∀ k, k < 169 → ¬ (pbF u a (pmF u a 168) k).2 = -1 → ¬ u 4 (ix (pbF u a (pmF u a 168) k).2) = -1 := by
      intro k
      induction k with
      | zero => intro _ q; exact absurd rfl q
      | succ k ih =>
        intro hk
        rw [pbF]
        split
        · rename_i z
          intro _
          rw [ix_nI (by omega)]
          exact z.1.1
        · exact ih (by omega)
    exact H 168 (by omega) h
set_option maxHeartbeats 1000000 in
theorem c_X0_findRing {E : EE} (a : Nat) (ha : a < 10) (u : Sto) (hl : lawI u) (hO : ∀ r, r < 168 → tn (u 4 r) 10) : CtP E 7 0 yX0_findRing cX0_findRing 5 (some .int) [.ref (E.ad 164), .int (nI a)] u (rgQ u a) := by
  refine ctp_of (by decide) (Nat.le_of_ble_eq_true rfl) (fun X h hR hrt htab hargs => ?_)
  have LP : ∀ j k : Nat, ∀ w : Sto, sim w u → atF u a k < 10 → (∀ i, i < k → w 171 i = nI (atF u a i) ∧ w 172 i = ptI u (atF u a i) ∧ ¬ ptI u (atF u a i) = -1 ∧ atF u a i < 10) → rgN u a 10 0 = rgN u a (10 - k) k → 10 < k + j → k ≤ 10 → G E X (QMP E X (rgQ u a) 0) 5 0 4 [(0, .ref (E.ad 164)), (1, .int (nI a)), (2, .int (nI (atF u a k))), (3, .int (nI k))] [] (w) := by
    intro j
    induction j with
    | zero => intro k w hs hA hv hf h1 h2; omega
    | succ j ih =>
      intro k w hs hA hv hf h1 h2
      refine g_iload_n h dX0_findRing_4 rfl rfl ?_
      refine g_bipush (v := nI 10) h dX0_findRing_5 (by decide) ?_
      refine g_icmp_ge (tgt := 66) h dX0_findRing_7 (by decide) (fun c7 => ?_) (fun c7 => ?_)
      · have n7 := le_n (by omega) (by omega) (show nI (10) ≤ nI (k) from c7)
        obtain rfl : k = 10 := by omega
        rw [rg_e] at hf
        refine g_iconst (v := nI 0) h dX0_findRing_66 (by decide) ?_
        exact g_iretP h hrt dX0_findRing_67 (by omega) ⟨by rw [hf], hs, fun i hi => absurd hi (by rw [hf]; omega)⟩
      · have n7 := nle_n (by omega) (by omega) (show ¬ nI (10) ≤ nI (k) from c7)
        rw [rg_s (by omega)] at hf
        refine g_aload_n h dX0_findRing_10 rfl rfl ?_
        refine g_iload_n h dX0_findRing_11 rfl rfl ?_
        refine g_VP h lv_X0_107_X0 sh_164 (by decide) rfl (c_X0_pointsTo _ hA _ (lawI_sim hs hl)) pt_nx (fitR hR (by decide) (by decide) (by omega)) rfl rfl (Nat.le_of_ble_eq_true rfl) dX0_findRing_12 (fun v12 u12 hs12 => ?_)
        obtain ⟨hv12, hs12⟩ := hs12
        cases hv12
        refine g_top (ptI_sim hs _) ?_
        refine g_istore (ls' := [(0, _), (1, _), (2, _), (3, _), (4, _)]) h dX0_findRing_15 (by decide) rfl rfl ?_
        refine g_iload h dX0_findRing_17 rfl ?_
        refine g_iconst (v := -1) h dX0_findRing_19 (by decide) ?_
        refine g_icmp_ne (tgt := 25) h dX0_findRing_20 (by decide) (fun c20 => ?_) (fun c20 => ?_)
        · rw [if_neg c20] at hf
          have hq := tn_ix (by decide) (pt_tn u (atF u a k)) c20
          have hs2 := hs12.sim.trans hs
          have ho := tn_ix (by decide) (hO _ hq.2) (pt_own c20)
          refine g_aload_n h dX0_findRing_25 rfl rfl ?_
          refine g_getR h fl_X0_30_0 sh_164 (by decide) rfl dX0_findRing_26 ?_
          refine g_iload_n h dX0_findRing_29 rfl rfl ?_
          refine g_iload_n h dX0_findRing_30 rfl rfl ?_
          refine g_iast h _ _ _ sh_171 (by decide) (by decide) rfl (by omega) dX0_findRing_31 ?_
          refine g_aload_n h dX0_findRing_32 rfl rfl ?_
          refine g_getR h fl_X0_33_0 sh_164 (by decide) rfl dX0_findRing_33 ?_
          refine g_iload_n h dX0_findRing_36 rfl rfl ?_
          refine g_iload h dX0_findRing_37 rfl ?_
          refine g_iast h _ _ _ sh_172 (by decide) (by decide) rfl (by omega) dX0_findRing_39 ?_
          refine g_aload_n h dX0_findRing_40 rfl rfl ?_
          refine g_getR h fl_X0_46_0 sh_164 (by decide) rfl dX0_findRing_41 ?_
          refine g_getR h fl_X0_110_6 sh_3 (by decide) rfl dX0_findRing_44 ?_
          refine g_iload h dX0_findRing_47 rfl ?_
          refine g_top hq.1 ?_
          refine g_iald h _ _ _ sh_4 (by decide) (by decide) rfl hq.2 dX0_findRing_49 ?_
          refine g_top (y := nI (atF u a (k + 1))) (by rw [su_ne2 (by decide), su_ne2 (by decide), hs2.c 4 (by decide)]; exact ho.1) ?_
          refine g_istore_n (ls' := [(0, _), (1, _), (2, _), (3, _), (4, _)]) h dX0_findRing_50 rfl (by decide) rfl rfl ?_
          refine g_iload_n h dX0_findRing_51 rfl rfl ?_
          refine g_iload_n h dX0_findRing_52 rfl rfl ?_
          refine g_icmp_ne (tgt := 60) h dX0_findRing_53 (by decide) (fun c53 => ?_) (fun c53 => ?_)
          · have d53 : ¬ u 4 (ix (ptI u (atF u a k))) = nI a := fun q => c53 (by rw [← q, ho.1]; rfl)
            rw [if_neg d53] at hf
            refine g_iinc (v := nI (k + 1)) (ls' := [(0, _), (1, _), (2, _), (3, _), (4, _)]) h dX0_findRing_60 rfl (nI_1 k) (by decide) rfl rfl ?_
            refine g_goto (tgt := 4) h dX0_findRing_63 (by decide) ?_
            refine g_del 4 (ls' := [(0, _), (1, _), (2, _), (3, _)]) rfl ?_
            exact ih (k + 1) _ (sim_scr (sim_scr hs2 _ (by rfl)) _ (by rfl)) ho.2 (fun i hi => by
              by_cases e : i = k
              · subst e
                exact ⟨by rw [su_ne2 (by decide)]; exact su_same _ _ _ _, su_same _ _ _ _, c20, hA⟩
              · obtain ⟨q1, q2, q3⟩ := hv i (by omega)
                refine ⟨?_, ?_, q3⟩
                · rw [su_ne2 (by decide), su_slot e, hs12 171 (by decide) (by decide)]; exact q1
                · rw [su_slot e, su_ne2 (by decide), hs12 172 (by decide) (by decide)]; exact q2) hf (by omega) (by omega)
          · have d53 : u 4 (ix (ptI u (atF u a k))) = nI a := by rw [ho.1]; exact c53
            rw [if_pos d53] at hf
            refine g_iload_n h dX0_findRing_56 rfl rfl ?_
            refine g_iconst (v := nI 1) h dX0_findRing_57 (by decide) ?_
            refine g_iadd h dX0_findRing_58 ?_
            refine g_top (nI_add k 1) ?_
            exact g_iretP h hrt dX0_findRing_59 (by omega) ⟨by rw [hf], (sim_scr (sim_scr hs2 _ (by rfl)) _ (by rfl)), by rw [hf]; exact (fun i hi => by
  by_cases e : i = k
  · subst e
    exact ⟨by rw [su_ne2 (by decide)]; exact su_same _ _ _ _, su_same _ _ _ _, c20, hA⟩
  · obtain ⟨q1, q2, q3⟩ := hv i (by omega)
    refine ⟨?_, ?_, q3⟩
    · rw [su_ne2 (by decide), su_slot e, hs12 171 (by decide) (by decide)]; exact q1
    · rw [su_slot e, su_ne2 (by decide), hs12 172 (by decide) (by decide)]; exact q2)⟩
        · rw [if_pos c20] at hf
          refine g_iconst (v := nI 0) h dX0_findRing_23 (by decide) ?_
          exact g_iretP h hrt dX0_findRing_24 (by omega) ⟨by rw [hf], hs12.sim.trans hs, fun i hi => absurd hi (by rw [hf]; omega)⟩
  refine g_iload_n h dX0_findRing_0 rfl rfl ?_
  refine g_istore_n (ls' := [(0, _), (1, _), (2, _)]) h dX0_findRing_1 rfl (by decide) rfl rfl ?_
  refine g_iconst (v := nI 0) h dX0_findRing_2 (by decide) ?_
  refine g_istore_n (ls' := [(0, _), (1, _), (2, _), (3, _)]) h dX0_findRing_3 rfl (by decide) rfl rfl ?_
  exact LP (10 + 1) (0) u (sim.refl u) ha (fun i hi => absurd hi (by omega)) rfl (by omega) (by omega)
def trW (w : Sto) (A B : Nat → Nat) : Nat → Sto
  | 0 => w
  | i + 1 => ctT (trW w A B i) 3 (B i) (A i) (nI 4)
theorem ctT_c {u : Sto} {r a k : Nat} {x : Int32} (h1 : k ≠ 4) (h2 : k ≠ 5) (h3 : k ≠ 8) (h4 : k ≠ 9) (h5 : k ≠ 3) : ctT u 3 r a x k = u k := by
  unfold ctT
  rw [enT_c h4 h5, soT_c h1 h2 h3]
theorem trW_c {w : Sto} {A B : Nat → Nat} {k : Nat} (h1 : k ≠ 4) (h2 : k ≠ 5) (h3 : k ≠ 8) (h4 : k ≠ 9) (h5 : k ≠ 3) : ∀ i, trW w A B i k = w k
  | 0 => rfl
  | i + 1 => by rw [trW, ctT_c h1 h2 h3 h4 h5, trW_c h1 h2 h3 h4 h5 i]
theorem WI_tr {w : Sto} (h : WI w) {A B : Nat → Nat} {n : Nat} (hA : ∀ i, i < n → A i < 10) : ∀ i, i ≤ n → WI (trW w A B i)
  | 0, _ => h
  | i + 1, hi => WI_ct (WI_tr h hA i (by omega)) _ (hA i (by omega)) _
theorem trW_sim {w u : Sto} (h : sim w u) (A B : Nat → Nat) : ∀ i, sim (trW w A B i) (trW u A B i)
  | 0 => h
  | i + 1 => ctT_sim (trW_sim h A B i) _ _ _
set_option maxHeartbeats 1000000 in
theorem c_X0_turnRing {E : EE} (A B : Nat → Nat) (N : Nat) (hN : N ≤ 10) (u : Sto) (hw : WI u) (hv : ∀ i, i < N → u 171 i = nI (A i) ∧ u 172 i = nI (B i) ∧ A i < 10 ∧ B i < 168) : Ct E 4 0 yX0_turnRing cX0_turnRing 3 none [.ref (E.ad 164), .int (nI N)] u (.inl none) (trW u A B N) := by
  refine ct_of (by decide) (Nat.le_of_ble_eq_true rfl) (fun X h hR hrt htab hargs hini => ?_)
  have LP : ∀ j k : Nat, N < k + j → k ≤ N → G E X (QM E X (.inl none) (trW u A B N) 0) 3 0 2 [(0, .ref (E.ad 164)), (1, .int (nI N)), (2, .int (nI k))] [] (trW u A B k) := by
    intro j
    induction j with
    | zero => intro k h1 h2; omega
    | succ j ih =>
      intro k h1 h2
      refine g_iload_n h dX0_turnRing_2 rfl rfl ?_
      refine g_iload_n h dX0_turnRing_3 rfl rfl ?_
      refine g_icmp_ge (tgt := 33) h dX0_turnRing_4 (by decide) (fun c4 => ?_) (fun c4 => ?_)
      · have n4 := le_n (by omega) (by omega) (show nI (N) ≤ nI (k) from c4)
        obtain rfl : k = N := by omega
        exact g_vret h hrt dX0_turnRing_33 (by omega) rfl rfl
      · have n4 := nle_n (by omega) (by omega) (show ¬ nI (N) ≤ nI (k) from c4)
        have hq := hv k n4
        have hW := WI_tr (B := B) hw (n := N) (fun i hi => (hv i hi).2.2.1) k (by omega)
        obtain ⟨ln, hln, hl6⟩ := hW.2.2
        refine g_aload_n h dX0_turnRing_7 rfl rfl ?_
        refine g_getR h fl_X0_46_0 sh_164 (by decide) rfl dX0_turnRing_8 ?_
        refine g_aload_n h dX0_turnRing_11 rfl rfl ?_
        refine g_getR h fl_X0_33_0 sh_164 (by decide) rfl dX0_turnRing_12 ?_
        refine g_iload_n h dX0_turnRing_15 rfl rfl ?_
        refine g_iald h _ _ _ sh_172 (by decide) (by decide) rfl (by omega) dX0_turnRing_16 ?_
        refine g_top (y := nI (B k)) (by rw [trW_c (by decide) (by decide) (by decide) (by decide) (by decide)]; exact hq.2.1) ?_
        refine g_aload_n h dX0_turnRing_17 rfl rfl ?_
        refine g_getR h fl_X0_30_0 sh_164 (by decide) rfl dX0_turnRing_18 ?_
        refine g_iload_n h dX0_turnRing_21 rfl rfl ?_
        refine g_iald h _ _ _ sh_171 (by decide) (by decide) rfl (by omega) dX0_turnRing_22 ?_
        refine g_top (y := nI (A k)) (by rw [trW_c (by decide) (by decide) (by decide) (by decide) (by decide)]; exact hq.1) ?_
        refine g_iconst (v := nI 4) h dX0_turnRing_23 (by decide) ?_
        refine g_V h lv_X0_131_X7 sh_3 (by decide) rfl (c_X7_comeTo 3 (by decide) (B k) hq.2.2.2 (A k) hq.2.2.1 _ ln hln _ hl6 (hW.2.1 _ hq.2.2.2)) (fitR hR (by decide) (by decide) (by omega)) rfl rfl (Nat.le_of_ble_eq_true rfl) dX0_turnRing_24 ?_
        refine g_iinc (v := nI (k + 1)) (ls' := [(0, _), (1, _), (2, _)]) h dX0_turnRing_27 rfl (nI_1 k) (by decide) rfl rfl ?_
        refine g_goto (tgt := 2) h dX0_turnRing_30 (by decide) ?_
        exact ih (k + 1) (by omega) (by omega)
  refine g_iconst (v := nI 0) h dX0_turnRing_0 (by decide) ?_
  refine g_istore_n (ls' := [(0, _), (1, _), (2, _)]) h dX0_turnRing_1 rfl (by decide) rfl rfl ?_
  exact LP (N + 1) (0) (by omega) (by omega)
