/-- what the world keeps to: the law is one, owners are tenants or nobody, the log goes on within its row -/
def WI (u : Sto) : Prop := lawI u ∧ (∀ r, r < 168 → tn (u 4 r) 10) ∧ ∃ ln, ln < 80 ∧ u 3 6 = nI ln
section SIM2
variable {w u : Sto}
theorem WI_sim (h : sim w u) (q : WI u) : WI w := ⟨lawI_sim h q.1, fun r hr => by rw [h.c 4 (by decide)]; exact q.2.1 r hr, by rw [h.c 3 (by decide)]; exact q.2.2⟩
theorem pyS_sim (h : sim w u) (a : Nat) (x : Int32) : sim (pyS w a x) (pyS u a x) := by
  unfold pyS
  rw [h.c 7 (by decide), h.c 3 (by decide)]
  exact sim_su (sim_su h _ _ _) _ _ _
theorem frT_sim (h : sim w u) (r : Nat) : sim (frT w 3 r) (frT u 3 r) := by
  unfold frT
  rw [h.c (3 + 1) (by decide), h.c (3 + 5) (by decide)]
  refine sim_su (sim_su ?_ _ _ _) _ _ _
  split
  · exact h
  · exact sim_su h _ _ _
theorem soT_sim (h : sim w u) (r a : Nat) : sim (soT w 3 r a) (soT u 3 r a) := by
  unfold soT
  rw [(frT_sim h r).c (3 + 5) (by decide)]
  exact sim_su (sim_su (frT_sim h r) _ _ _) _ _ _
theorem enT_sim (h : sim w u) (r a x : Int32) : sim (enT w 3 r a x) (enT u 3 r a x) := by
  unfold enT
  rw [h.c 3 (by decide)]
  exact sim_su (sim_su (sim_su h _ _ _) _ _ _) _ _ _
theorem ctT_sim (h : sim w u) (r a : Nat) (x : Int32) : sim (ctT w 3 r a x) (ctT u 3 r a x) := enT_sim (soT_sim h r a) _ _ _
end SIM2
theorem tn_1 (n : Nat) : tn (-1) n := Or.inl rfl
theorem tn_n {a n : Nat} (h : a < n) : tn (nI a) n := Or.inr ⟨a, h, rfl⟩
theorem law_c {u v : Sto} (h : lawI u) (h19 : v 19 = u 19) (h21 : v 21 = u 21) : lawI v := by
  unfold lawI
  rw [h19]
  rcases h with q | ⟨n, q1, q2⟩
  · exact Or.inl q
  · exact Or.inr ⟨n, lwB_cong h21.symm q1, q2⟩
theorem su_c {u : Sto} {k j a : Nat} {v : Int32} (h : a ≠ k) : su u k j v a = u a := su_cell _ _ h
theorem frT_c {u : Sto} {r k : Nat} (h1 : k ≠ 4) (h2 : k ≠ 5) (h3 : k ≠ 8) : frT u 3 r k = u k := by
  unfold frT
  rw [su_c h2, su_c h1]
  split
  · rfl
  · rw [su_c h3]
theorem frT_4 {u : Sto} {r b : Nat} : frT u 3 r 4 b = if b = r then -1 else u 4 b := by
  unfold frT
  rw [su_ne2 (by decide)]
  by_cases h : b = r
  · rw [if_pos h, h]; exact su_same _ _ _ _
  · rw [if_neg h, su_slot h]
    split
    · rfl
    · rw [su_ne2 (by decide)]
theorem soT_c {u : Sto} {r a k : Nat} (h1 : k ≠ 4) (h2 : k ≠ 5) (h3 : k ≠ 8) : soT u 3 r a k = u k := by
  unfold soT
  rw [su_c h3, su_c h1, frT_c h1 h2 h3]
theorem soT_4 {u : Sto} {r a b : Nat} : soT u 3 r a 4 b = if b = r then nI a else u 4 b := by
  unfold soT
  rw [su_ne2 (by decide)]
  by_cases h : b = r
  · rw [if_pos h, h]; exact su_same _ _ _ _
  · rw [if_neg h, su_slot h, frT_4, if_neg h]
theorem enT_c {u : Sto} {r a x : Int32} {k : Nat} (h1 : k ≠ 9) (h2 : k ≠ 3) : enT u 3 r a x k = u k := by
  unfold enT
  rw [su_c h2, su_c h2, su_c h1]
theorem enT_36 {u : Sto} {r a x : Int32} : ∃ ln, ln < 80 ∧ enT u 3 r a x 3 6 = nI ln := by
  refine ⟨(ix (u 3 6) + 1) % 80, Nat.mod_lt _ (by omega), ?_⟩
  unfold enT
  rw [su_slot (by decide)]
  exact su_same _ _ _ _
theorem WI_fr {u : Sto} (h : WI u) (r : Nat) : WI (frT u 3 r) := by
  refine ⟨law_c h.1 (frT_c (by decide) (by decide) (by decide)) (frT_c (by decide) (by decide) (by decide)), fun b hb => ?_, by rw [frT_c (by decide) (by decide) (by decide)]; exact h.2.2⟩
  rw [frT_4]
  split
  · exact tn_1 _
  · exact h.2.1 b hb
theorem WI_py {u : Sto} (h : WI u) (a : Nat) (x : Int32) : WI (pyS u a x) := by
  unfold pyS
  refine ⟨law_c h.1 (by rw [su_c (by decide), su_c (by decide)]) (by rw [su_c (by decide), su_c (by decide)]), fun b hb => by rw [su_c (by decide), su_c (by decide)]; exact h.2.1 b hb, ?_⟩
  rw [su_slot (by decide), su_ne2 (by decide)]
  exact h.2.2
theorem WI_ct {u : Sto} (h : WI u) (r : Nat) {a : Nat} (ha : a < 10) (x : Int32) : WI (ctT u 3 r a x) := by
  unfold ctT
  refine ⟨law_c h.1 (by rw [enT_c (by decide) (by decide), soT_c (by decide) (by decide) (by decide)]) (by rw [enT_c (by decide) (by decide), soT_c (by decide) (by decide) (by decide)]), fun b hb => ?_, enT_36⟩
  rw [enT_c (by decide) (by decide), soT_4]
  split
  · exact tn_n ha
  · exact h.2.1 b hb
def gvS (u : Sto) (a r : Nat) (x : Int32) : Sto := ctT (pyS u a (rtI u a r)) 3 r a x
theorem gvS_sim {w u : Sto} (h : sim w u) (a r : Nat) (x : Int32) : sim (gvS w a r x) (gvS u a r x) := by
  unfold gvS
  rw [rtI_sim h]
  exact ctT_sim (pyS_sim h _ _) _ _ _
set_option maxHeartbeats 1000000 in
theorem c_X9_giveTo {E : EE} (a : Nat) (ha : a < 10) (r : Nat) (hr : r < 168) (x : Int32) (u : Sto) (hw : WI u) : CtP E 5 0 yX9_giveTo cX9_giveTo 5 (some .int) [.ref (E.ad 2), .int (nI a), .int (nI r), .int x] u (PS (.inl (some (.int (rtI u a r)))) (gvS u a r x)) := by
  refine ctp_of (by decide) (Nat.le_of_ble_eq_true rfl) (fun X h hR hrt htab hargs => ?_)
  refine g_aload_n h dX9_giveTo_0 rfl rfl ?_
  refine g_iload_n h dX9_giveTo_1 rfl rfl ?_
  refine g_iload_n h dX9_giveTo_2 rfl rfl ?_
  refine g_VP h lv_X9_67_X9 sh_2 (by decide) rfl (c_X9_rentOf a ha r hr _ hw.1) ps_nx (fitR hR (by decide) (by decide) (by omega)) rfl rfl (Nat.le_of_ble_eq_true rfl) dX9_giveTo_3 (fun v3 u3 hs3 => ?_)
  obtain ⟨hv3, hs3⟩ := hs3
  cases hv3
  have hw3 := WI_py (WI_sim hs3 hw) a (rtI u a r)
  obtain ⟨ln, hln, hl6⟩ := hw3.2.2
  refine g_istore (ls' := [(0, _), (1, _), (2, _), (3, _), (4, _)]) h dX9_giveTo_6 (by decide) rfl rfl ?_
  refine g_aload_n h dX9_giveTo_8 rfl rfl ?_
  refine g_iload_n h dX9_giveTo_9 rfl rfl ?_
  refine g_iload h dX9_giveTo_10 rfl ?_
  refine g_V h lv_X9_117_X9 sh_2 (by decide) rfl (c_X9_pay _ (by omega) _ _) (fitR hR (by decide) (by decide) (by omega)) rfl rfl (Nat.le_of_ble_eq_true rfl) dX9_giveTo_12 ?_
  refine g_aload_n h dX9_giveTo_15 rfl rfl ?_
  refine g_getR h fl_X9_12_8 sh_2 (by decide) rfl dX9_giveTo_16 ?_
  refine g_iload_n h dX9_giveTo_19 rfl rfl ?_
  refine g_iload_n h dX9_giveTo_20 rfl rfl ?_
  refine g_iload_n h dX9_giveTo_21 rfl rfl ?_
  refine g_V h lv_X9_121_X7 sh_3 (by decide) rfl (c_X7_comeTo 3 (by decide) r hr a ha _ ln hln _ hl6 (hw3.2.1 r hr)) (fitR hR (by decide) (by decide) (by omega)) rfl rfl (Nat.le_of_ble_eq_true rfl) dX9_giveTo_22 ?_
  refine g_iload h dX9_giveTo_25 rfl ?_
  exact g_iretP h hrt dX9_giveTo_27 (by omega) ⟨rfl, ctT_sim (pyS_sim hs3 _ _) _ _ _⟩
abbrev msP (u : Sto) (r a : Nat) (x : Int32) : Prop := ¬ u 4 r = -1 ∧ u 5 r = -1 ∧ ¬ u 4 r = nI a ∧ u 13 a = -1 ∧ ¬ u 7 a < x ∧ brP u a r = false
set_option maxHeartbeats 1000000 in
theorem c_X9_maySublet {E : EE} (r : Nat) (hr : r < 168) (a : Nat) (ha : a < 10) (x : Int32) (u : Sto) (hl : lawI u) : CtP E 5 0 yX9_maySublet cX9_maySublet 5 (some .boolean) [.ref (E.ad 2), .int (nI r), .int (nI a), .int x] u (PS (.inl (some (.int (b2 (msP u r a x))))) u) := by
  refine ctp_of (by decide) (Nat.le_of_ble_eq_true rfl) (fun X h hR hrt htab hargs => ?_)
  refine g_aload_n h dX9_maySublet_0 rfl rfl ?_
  refine g_getR h fl_X9_12_8 sh_2 (by decide) rfl dX9_maySublet_1 ?_
  refine g_getR h fl_X9_64_6 sh_3 (by decide) rfl dX9_maySublet_4 ?_
  refine g_iload_n h dX9_maySublet_7 rfl rfl ?_
  refine g_iald h _ _ _ sh_4 (by decide) (by decide) rfl (by omega) dX9_maySublet_8 ?_
  refine g_istore (ls' := [(0, _), (1, _), (2, _), (3, _), (4, _)]) h dX9_maySublet_9 (by decide) rfl rfl ?_
  refine g_iload h dX9_maySublet_11 rfl ?_
  refine g_iconst (v := -1) h dX9_maySublet_13 (by decide) ?_
  refine g_icmp_eq (tgt := 70) h dX9_maySublet_14 (by decide) (fun c14 => ?_) (fun c14 => ?_)
  · refine g_iconst (v := nI 0) h dX9_maySublet_70 (by decide) ?_
    exact g_zretP h hrt dX9_maySublet_71 (by omega) (by first | exact Or.inl rfl | exact Or.inr rfl | simp) ⟨by first | (rw [b2_t (show msP u r a x from ⟨c14, c27, c33, d41, c54, d63⟩)]; done) | (rw [b2_f (fun q => by first | exact q.1 c14 | exact c27 q.2.1 | exact q.2.2.1 c33 | exact d41 q.2.2.2.1 | exact q.2.2.2.2.1 c54 | exact absurd d63 (by rw [q.2.2.2.2.2]; exact Bool.false_ne_true))]; done), by first | exact sim.refl _ | exact hs60⟩
  · refine g_aload_n h dX9_maySublet_17 rfl rfl ?_
    refine g_getR h fl_X9_12_8 sh_2 (by decide) rfl dX9_maySublet_18 ?_
    refine g_getR h fl_X9_61_6 sh_3 (by decide) rfl dX9_maySublet_21 ?_
    refine g_iload_n h dX9_maySublet_24 rfl rfl ?_
    refine g_iald h _ _ _ sh_5 (by decide) (by decide) rfl (by omega) dX9_maySublet_25 ?_
    refine g_iconst (v := -1) h dX9_maySublet_26 (by decide) ?_
    refine g_icmp_ne (tgt := 70) h dX9_maySublet_27 (by decide) (fun c27 => ?_) (fun c27 => ?_)
    · refine g_iconst (v := nI 0) h dX9_maySublet_70 (by decide) ?_
      exact g_zretP h hrt dX9_maySublet_71 (by omega) (by first | exact Or.inl rfl | exact Or.inr rfl | simp) ⟨by first | (rw [b2_t (show msP u r a x from ⟨c14, c27, c33, d41, c54, d63⟩)]; done) | (rw [b2_f (fun q => by first | exact q.1 c14 | exact c27 q.2.1 | exact q.2.2.1 c33 | exact d41 q.2.2.2.1 | exact q.2.2.2.2.1 c54 | exact absurd d63 (by rw [q.2.2.2.2.2]; exact Bool.false_ne_true))]; done), by first | exact sim.refl _ | exact hs60⟩
    · refine g_iload h dX9_maySublet_30 rfl ?_
      refine g_iload_n h dX9_maySublet_32 rfl rfl ?_
      refine g_icmp_eq (tgt := 70) h dX9_maySublet_33 (by decide) (fun c33 => ?_) (fun c33 => ?_)
      · refine g_iconst (v := nI 0) h dX9_maySublet_70 (by decide) ?_
        exact g_zretP h hrt dX9_maySublet_71 (by omega) (by first | exact Or.inl rfl | exact Or.inr rfl | simp) ⟨by first | (rw [b2_t (show msP u r a x from ⟨c14, c27, c33, d41, c54, d63⟩)]; done) | (rw [b2_f (fun q => by first | exact q.1 c14 | exact c27 q.2.1 | exact q.2.2.1 c33 | exact d41 q.2.2.2.1 | exact q.2.2.2.2.1 c54 | exact absurd d63 (by rw [q.2.2.2.2.2]; exact Bool.false_ne_true))]; done), by first | exact sim.refl _ | exact hs60⟩
      · refine g_aload_n h dX9_maySublet_36 rfl rfl ?_
        refine g_iload_n h dX9_maySublet_37 rfl rfl ?_
        refine g_V h lv_X9_49_X9 sh_2 (by decide) rfl (c_X9_isChild _ (by omega) _) (fitR hR (by decide) (by decide) (by omega)) rfl rfl (Nat.le_of_ble_eq_true rfl) dX9_maySublet_38 ?_
        refine g_if_ne (tgt := 70) h dX9_maySublet_41 (by decide) (fun c41 => ?_) (fun c41 => ?_)
        · have d41 := b2_n0.mp c41
          refine g_iconst (v := nI 0) h dX9_maySublet_70 (by decide) ?_
          exact g_zretP h hrt dX9_maySublet_71 (by omega) (by first | exact Or.inl rfl | exact Or.inr rfl | simp) ⟨by first | (rw [b2_t (show msP u r a x from ⟨c14, c27, c33, d41, c54, d63⟩)]; done) | (rw [b2_f (fun q => by first | exact q.1 c14 | exact c27 q.2.1 | exact q.2.2.1 c33 | exact d41 q.2.2.2.1 | exact q.2.2.2.2.1 c54 | exact absurd d63 (by rw [q.2.2.2.2.2]; exact Bool.false_ne_true))]; done), by first | exact sim.refl _ | exact hs60⟩
        · have d41 := Decidable.not_not.mp (b2_0.mp c41)
          refine g_aload_n h dX9_maySublet_44 rfl rfl ?_
          refine g_getR h fl_X9_12_8 sh_2 (by decide) rfl dX9_maySublet_45 ?_
          refine g_getR h fl_X9_74_6 sh_3 (by decide) rfl dX9_maySublet_48 ?_
          refine g_iload_n h dX9_maySublet_51 rfl rfl ?_
          refine g_iald h _ _ _ sh_7 (by decide) (by decide) rfl (by omega) dX9_maySublet_52 ?_
          refine g_iload_n h dX9_maySublet_53 rfl rfl ?_
          refine g_icmp_lt (tgt := 70) h dX9_maySublet_54 (by decide) (fun c54 => ?_) (fun c54 => ?_)
          · refine g_iconst (v := nI 0) h dX9_maySublet_70 (by decide) ?_
            exact g_zretP h hrt dX9_maySublet_71 (by omega) (by first | exact Or.inl rfl | exact Or.inr rfl | simp) ⟨by first | (rw [b2_t (show msP u r a x from ⟨c14, c27, c33, d41, c54, d63⟩)]; done) | (rw [b2_f (fun q => by first | exact q.1 c14 | exact c27 q.2.1 | exact q.2.2.1 c33 | exact d41 q.2.2.2.1 | exact q.2.2.2.2.1 c54 | exact absurd d63 (by rw [q.2.2.2.2.2]; exact Bool.false_ne_true))]; done), by first | exact sim.refl _ | exact hs60⟩
          · refine g_aload_n h dX9_maySublet_57 rfl rfl ?_
            refine g_iload_n h dX9_maySublet_58 rfl rfl ?_
            refine g_iload_n h dX9_maySublet_59 rfl rfl ?_
            refine g_VP h lv_X9_114_X9 sh_2 (by decide) rfl (c_X9_isBarred _ (by omega) _ (by omega) _ hl) ps_nx (fitR hR (by decide) (by decide) (by omega)) rfl rfl (Nat.le_of_ble_eq_true rfl) dX9_maySublet_60 (fun v60 u60 hs60 => ?_)
            obtain ⟨hv60, hs60⟩ := hs60
            cases hv60
            refine g_if_ne (tgt := 70) h dX9_maySublet_63 (by decide) (fun c63 => ?_) (fun c63 => ?_)
            · have d63 := b2_n0.mp c63
              refine g_iconst (v := nI 0) h dX9_maySublet_70 (by decide) ?_
              exact g_zretP h hrt dX9_maySublet_71 (by omega) (by first | exact Or.inl rfl | exact Or.inr rfl | simp) ⟨by first | (rw [b2_t (show msP u r a x from ⟨c14, c27, c33, d41, c54, d63⟩)]; done) | (rw [b2_f (fun q => by first | exact q.1 c14 | exact c27 q.2.1 | exact q.2.2.1 c33 | exact d41 q.2.2.2.1 | exact q.2.2.2.2.1 c54 | exact absurd d63 (by rw [q.2.2.2.2.2]; exact Bool.false_ne_true))]; done), by first | exact sim.refl _ | exact hs60⟩
            · have d63 := Bool.eq_false_iff.mpr (b2_0.mp c63)
              refine g_iconst (v := nI 1) h dX9_maySublet_66 (by decide) ?_
              refine g_goto (tgt := 71) h dX9_maySublet_67 (by decide) ?_
              exact g_zretP h hrt dX9_maySublet_71 (by omega) (by first | exact Or.inl rfl | exact Or.inr rfl | simp) ⟨by first | (rw [b2_t (show msP u r a x from ⟨c14, c27, c33, d41, c54, d63⟩)]; done) | (rw [b2_f (fun q => by first | exact q.1 c14 | exact c27 q.2.1 | exact q.2.2.1 c33 | exact d41 q.2.2.2.1 | exact q.2.2.2.2.1 c54 | exact absurd d63 (by rw [q.2.2.2.2.2]; exact Bool.false_ne_true))]; done), by first | exact sim.refl _ | exact hs60⟩
def sbS (u : Sto) (r a o : Nat) (x : Int32) : Sto :=
  let kp := mnI x (nI 9999 - u 7 o)
  let u1 := su u 7 a (u 7 a - x)
  let u2 := su u1 7 o (u1 7 o + kp)
  let u3 := su u2 3 8 (u2 3 8 + (x - kp))
  let u4 := su u3 5 r (nI a)
  enT u4 3 (nI r) (nI a) (nI 1)
set_option maxHeartbeats 1000000 in
theorem c_X9_subletTo {E : EE} (r : Nat) (hr : r < 168) (a : Nat) (ha : a < 10) (o : Nat) (ho : o < 10) (x : Int32) (u : Sto) (hw : WI u) (hox : u 4 r = nI o) : Ct E 4 0 yX9_subletTo cX9_subletTo 6 none [.ref (E.ad 2), .int (nI r), .int (nI a), .int x] u (.inl none) (sbS u r a o x) := by
  obtain ⟨ln, hln, hl6⟩ := hw.2.2
  refine ct_of (by decide) (Nat.le_of_ble_eq_true rfl) (fun X h hR hrt htab hargs hini => ?_)
  refine g_aload_n h dX9_subletTo_0 rfl rfl ?_
  refine g_getR h fl_X9_12_8 sh_2 (by decide) rfl dX9_subletTo_1 ?_
  refine g_getR h fl_X9_64_6 sh_3 (by decide) rfl dX9_subletTo_4 ?_
  refine g_iload_n h dX9_subletTo_7 rfl rfl ?_
  refine g_iald h _ _ _ sh_4 (by decide) (by decide) rfl (by omega) dX9_subletTo_8 ?_
  refine g_top hox ?_
  refine g_istore (ls' := [(0, _), (1, _), (2, _), (3, _), (4, _)]) h dX9_subletTo_9 (by decide) rfl rfl ?_
  refine g_iload_n h dX9_subletTo_11 rfl rfl ?_
  refine g_sipush (v := nI 9999) h dX9_subletTo_12 (by decide) ?_
  refine g_aload_n h dX9_subletTo_15 rfl rfl ?_
  refine g_getR h fl_X9_12_8 sh_2 (by decide) rfl dX9_subletTo_16 ?_
  refine g_getR h fl_X9_74_6 sh_3 (by decide) rfl dX9_subletTo_19 ?_
  refine g_iload h dX9_subletTo_22 rfl ?_
  refine g_iald h _ _ _ sh_7 (by decide) (by decide) rfl (by omega) dX9_subletTo_24 ?_
  refine g_isub h dX9_subletTo_25 ?_
  refine g_S h ls_X9_128 (c_J9_min_7cf53 _ _ _) (fitR hR (by decide) (by decide) (by omega)) rfl rfl (Nat.le_of_ble_eq_true rfl) dX9_subletTo_26 ?_
  refine g_istore (ls' := [(0, _), (1, _), (2, _), (3, _), (4, _), (5, _)]) h dX9_subletTo_29 (by decide) rfl rfl ?_
  refine g_aload_n h dX9_subletTo_31 rfl rfl ?_
  refine g_getR h fl_X9_12_8 sh_2 (by decide) rfl dX9_subletTo_32 ?_
  refine g_getR h fl_X9_74_6 sh_3 (by decide) rfl dX9_subletTo_35 ?_
  refine g_iload_n h dX9_subletTo_38 rfl rfl ?_
  refine g_dup2 h dX9_subletTo_39 rfl rfl ?_
  refine g_iald h _ _ _ sh_7 (by decide) (by decide) rfl (by omega) dX9_subletTo_40 ?_
  refine g_iload_n h dX9_subletTo_41 rfl rfl ?_
  refine g_isub h dX9_subletTo_42 ?_
  refine g_iast h _ _ _ sh_7 (by decide) (by decide) rfl (by omega) dX9_subletTo_43 ?_
  refine g_aload_n h dX9_subletTo_44 rfl rfl ?_
  refine g_getR h fl_X9_12_8 sh_2 (by decide) rfl dX9_subletTo_45 ?_
  refine g_getR h fl_X9_74_6 sh_3 (by decide) rfl dX9_subletTo_48 ?_
  refine g_iload h dX9_subletTo_51 rfl ?_
  refine g_dup2 h dX9_subletTo_53 rfl rfl ?_
  refine g_iald h _ _ _ sh_7 (by decide) (by decide) rfl (by omega) dX9_subletTo_54 ?_
  refine g_iload h dX9_subletTo_55 rfl ?_
  refine g_iadd h dX9_subletTo_57 ?_
  refine g_iast h _ _ _ sh_7 (by decide) (by decide) rfl (by omega) dX9_subletTo_58 ?_
  refine g_aload_n h dX9_subletTo_59 rfl rfl ?_
  refine g_getR h fl_X9_12_8 sh_2 (by decide) rfl dX9_subletTo_60 ?_
  refine g_dup h dX9_subletTo_63 rfl ?_
  refine g_getI h fl_X9_125_6 sh_3 (by decide) rfl dX9_subletTo_64 ?_
  refine g_iload_n h dX9_subletTo_67 rfl rfl ?_
  refine g_iload h dX9_subletTo_68 rfl ?_
  refine g_isub h dX9_subletTo_70 ?_
  refine g_iadd h dX9_subletTo_71 ?_
  refine g_putI h pfl_X9_125_6 sh_3 (by decide) rfl dX9_subletTo_72 ?_
  refine g_aload_n h dX9_subletTo_75 rfl rfl ?_
  refine g_getR h fl_X9_12_8 sh_2 (by decide) rfl dX9_subletTo_76 ?_
  refine g_getR h fl_X9_61_6 sh_3 (by decide) rfl dX9_subletTo_79 ?_
  refine g_iload_n h dX9_subletTo_82 rfl rfl ?_
  refine g_iload_n h dX9_subletTo_83 rfl rfl ?_
  refine g_iast h _ _ _ sh_5 (by decide) (by decide) rfl (by omega) dX9_subletTo_84 ?_
  refine g_aload_n h dX9_subletTo_85 rfl rfl ?_
  refine g_getR h fl_X9_12_8 sh_2 (by decide) rfl dX9_subletTo_86 ?_
  refine g_iload_n h dX9_subletTo_89 rfl rfl ?_
  refine g_iload_n h dX9_subletTo_90 rfl rfl ?_
  refine g_iconst (v := nI 1) h dX9_subletTo_91 (by decide) ?_
  refine g_V h lv_X9_133_X7 sh_3 (by decide) rfl (c_X7_enter 3 (by decide) _ _ _ ln hln _ (by simp [su, hl6])) (fitR hR (by decide) (by decide) (by omega)) rfl rfl (Nat.le_of_ble_eq_true rfl) dX9_subletTo_92 ?_
  exact g_vret h hrt dX9_subletTo_95 (by omega) rfl rfl
def otR (r : Nat) : Nat := r - r % 24 + 3
theorem otR_lt {r : Nat} (h : r < 168) : otR r < 168 := by unfold otR; omega
abbrev poP (u : Sto) (r : Nat) : Prop := ¬ otR r = r ∧ u 4 (otR r) = -1 ∧ u 14 (otR r) = 0
def poS (u : Sto) (r o : Nat) : Sto := if poP u r then ctT (frT u 3 r) 3 (otR r) o (nI 2) else frT u 3 r
def poV (u : Sto) (r : Nat) : Int32 := if poP u r then nI (otR r) else -1
set_option maxHeartbeats 1000000 in
theorem c_X9_putOut {E : EE} (r : Nat) (hr : r < 168) (o : Nat) (ho : o < 10) (u : Sto) (hw : WI u) (hox : u 4 r = nI o) : Ct E 4 0 yX9_putOut cX9_putOut 5 (some .int) [.ref (E.ad 2), .int (nI r)] u (.inl (some (.int (poV u r)))) (poS u r o) := by
  have hot := otR_lt hr
  obtain ⟨ln, hln, hl6⟩ := (WI_fr hw r).2.2
  refine ct_of (by decide) (Nat.le_of_ble_eq_true rfl) (fun X h hR hrt htab hargs hini => ?_)
  refine g_aload_n h dX9_putOut_0 rfl rfl ?_
  refine g_getR h fl_X9_12_8 sh_2 (by decide) rfl dX9_putOut_1 ?_
  refine g_getR h fl_X9_64_6 sh_3 (by decide) rfl dX9_putOut_4 ?_
  refine g_iload_n h dX9_putOut_7 rfl rfl ?_
  refine g_iald h _ _ _ sh_4 (by decide) (by decide) rfl (by omega) dX9_putOut_8 ?_
  refine g_top hox ?_
  refine g_istore_n (ls' := [(0, _), (1, _), (2, _)]) h dX9_putOut_9 rfl (by decide) rfl rfl ?_
  refine g_iload_n h dX9_putOut_10 rfl rfl ?_
  refine g_iload_n h dX9_putOut_11 rfl rfl ?_
  refine g_bipush (v := nI 24) h dX9_putOut_12 (by decide) ?_
  refine g_irem h dX9_putOut_14 (by decide) ?_
  refine g_top (pk_rem (a := r) (d := 24) (by omega) (by omega) (by omega)) ?_
  refine g_isub h dX9_putOut_15 ?_
  refine g_top (pk_sub (a := r) (b := r % 24) (Nat.mod_le _ _)) ?_
  refine g_iconst (v := nI 3) h dX9_putOut_16 (by decide) ?_
  refine g_iadd h dX9_putOut_17 ?_
  refine g_top (y := nI (otR r)) (nI_add (r - r % 24) 3) ?_
  refine g_istore_n (ls' := [(0, _), (1, _), (2, _), (3, _)]) h dX9_putOut_18 rfl (by decide) rfl rfl ?_
  refine g_iload_n h dX9_putOut_19 rfl rfl ?_
  refine g_iload_n h dX9_putOut_20 rfl rfl ?_
  refine g_j2 37 (x := b2 (poP u r)) ?_ (fun J37 => ?_)
  · refine g_istore (ls' := [(0, _), (1, _), (2, _), (3, _), (4, _)]) h dX9_putOut_37 (by decide) rfl rfl ?_
    refine g_aload_n h dX9_putOut_39 rfl rfl ?_
    refine g_getR h fl_X9_12_8 sh_2 (by decide) rfl dX9_putOut_40 ?_
    refine g_iload_n h dX9_putOut_43 rfl rfl ?_
    refine g_V h lv_X9_136_X7 sh_3 (by decide) rfl (c_X7_free 3 (by decide) r hr _ (hw.2.1 r hr)) (fitR hR (by decide) (by decide) (by omega)) rfl rfl (Nat.le_of_ble_eq_true rfl) dX9_putOut_44 ?_
    refine g_iload h dX9_putOut_47 rfl ?_
    refine g_if_ne (tgt := 54) h dX9_putOut_49 (by decide) (fun c49 => ?_) (fun c49 => ?_)
    · have d49 := b2_n0.mp c49
      refine g_aload_n h dX9_putOut_54 rfl rfl ?_
      refine g_getR h fl_X9_12_8 sh_2 (by decide) rfl dX9_putOut_55 ?_
      refine g_iload_n h dX9_putOut_58 rfl rfl ?_
      refine g_iload_n h dX9_putOut_59 rfl rfl ?_
      refine g_iconst (v := nI 2) h dX9_putOut_60 (by decide) ?_
      refine g_V h lv_X9_121_X7 sh_3 (by decide) rfl (c_X7_comeTo 3 (by decide) (otR r) hot o ho _ ln hln _ hl6 ((WI_fr hw r).2.1 _ hot)) (fitR hR (by decide) (by decide) (by omega)) rfl rfl (Nat.le_of_ble_eq_true rfl) dX9_putOut_61 ?_
      refine g_iload_n h dX9_putOut_64 rfl rfl ?_
      exact g_iret h hrt dX9_putOut_65 (by omega) (by rw [poV, if_pos d49]) (by rw [poS, if_pos d49])
    · have d49 := b2_0.mp c49
      refine g_iconst (v := -1) h dX9_putOut_52 (by decide) ?_
      exact g_iret h hrt dX9_putOut_53 (by omega) (by rw [poV, if_neg d49]) (by rw [poS, if_neg d49])
  · refine g_icmp_eq (tgt := 36) h dX9_putOut_21 (by decide) (fun c21 => ?_) (fun c21 => ?_)
    · have n21 := eq_n (by omega) (by omega) (show nI (otR r) = nI (r) from c21)
      refine g_iconst (v := nI 0) h dX9_putOut_36 (by decide) ?_
      exact g_top (by first | exact (b2_f (p := poP u r) (fun q => q.1 n21)).symm | exact (b2_f (p := poP u r) (fun q => d29 q.2)).symm | exact (b2_t (p := poP u r) ⟨n21, d29⟩).symm) J37
    · have n21 := ne_n (show ¬ nI (otR r) = nI (r) from c21)
      refine g_aload_n h dX9_putOut_24 rfl rfl ?_
      refine g_iload_n h dX9_putOut_25 rfl rfl ?_
      refine g_V h lv_X9_111_X9 sh_2 (by decide) rfl (c_X9_isFree _ (by omega) _) (fitR hR (by decide) (by decide) (by omega)) rfl rfl (Nat.le_of_ble_eq_true rfl) dX9_putOut_26 ?_
      refine g_if_eq (tgt := 36) h dX9_putOut_29 (by decide) (fun c29 => ?_) (fun c29 => ?_)
      · have d29 := b2_0.mp c29
        refine g_iconst (v := nI 0) h dX9_putOut_36 (by decide) ?_
        exact g_top (by first | exact (b2_f (p := poP u r) (fun q => q.1 n21)).symm | exact (b2_f (p := poP u r) (fun q => d29 q.2)).symm | exact (b2_t (p := poP u r) ⟨n21, d29⟩).symm) J37
      · have d29 := b2_n0.mp c29
        refine g_iconst (v := nI 1) h dX9_putOut_32 (by decide) ?_
        refine g_goto (tgt := 37) h dX9_putOut_33 (by decide) ?_
        exact g_top (by first | exact (b2_f (p := poP u r) (fun q => q.1 n21)).symm | exact (b2_f (p := poP u r) (fun q => d29 q.2)).symm | exact (b2_t (p := poP u r) ⟨n21, d29⟩).symm) J37
abbrev mwP (u : Sto) (r o : Nat) (a b : Nat) : Prop := ¬ a = b ∧ u 5 r = -1 ∧ u 5 o = -1 ∧ brP u b r = false ∧ brP u a o = false
