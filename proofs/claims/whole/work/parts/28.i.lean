abbrev mwQ (u : Sto) (r o : Nat) : Prop := ¬ u 4 r = -1 ∧ ¬ u 4 o = -1 ∧ ¬ u 4 r = u 4 o ∧ u 5 r = -1 ∧ u 5 o = -1 ∧ brP u (ix (u 4 o)) r = false ∧ brP u (ix (u 4 r)) o = false
set_option maxHeartbeats 1000000 in
theorem c_X9_maySwap {E : EE} (r : Nat) (hr : r < 168) (o : Nat) (ho : o < 168) (u : Sto) (hw : WI u) : CtP E 5 0 yX9_maySwap cX9_maySwap 5 (some .boolean) [.ref (E.ad 2), .int (nI r), .int (nI o)] u (PS (.inl (some (.int (b2 (mwQ u r o))))) u) := by
  refine ctp_of (by decide) (Nat.le_of_ble_eq_true rfl) (fun X h hR hrt htab hargs => ?_)
  refine g_aload_n h dX9_maySwap_0 rfl rfl ?_
  refine g_getR h fl_X9_12_8 sh_2 (by decide) rfl dX9_maySwap_1 ?_
  refine g_getR h fl_X9_64_6 sh_3 (by decide) rfl dX9_maySwap_4 ?_
  refine g_iload_n h dX9_maySwap_7 rfl rfl ?_
  refine g_iald h _ _ _ sh_4 (by decide) (by decide) rfl (by omega) dX9_maySwap_8 ?_
  refine g_istore_n (ls' := [(0, _), (1, _), (2, _), (3, _)]) h dX9_maySwap_9 rfl (by decide) rfl rfl ?_
  refine g_aload_n h dX9_maySwap_10 rfl rfl ?_
  refine g_getR h fl_X9_12_8 sh_2 (by decide) rfl dX9_maySwap_11 ?_
  refine g_getR h fl_X9_64_6 sh_3 (by decide) rfl dX9_maySwap_14 ?_
  refine g_iload_n h dX9_maySwap_17 rfl rfl ?_
  refine g_iald h _ _ _ sh_4 (by decide) (by decide) rfl (by omega) dX9_maySwap_18 ?_
  refine g_istore (ls' := [(0, _), (1, _), (2, _), (3, _), (4, _)]) h dX9_maySwap_19 (by decide) rfl rfl ?_
  refine g_iload_n h dX9_maySwap_21 rfl rfl ?_
  refine g_iconst (v := -1) h dX9_maySwap_22 (by decide) ?_
  refine g_icmp_eq (tgt := 87) h dX9_maySwap_23 (by decide) (fun c23 => ?_) (fun c23 => ?_)
  · refine g_iconst (v := nI 0) h dX9_maySwap_87 (by decide) ?_
    exact g_zretP h hrt dX9_maySwap_88 (by omega) (by first | exact Or.inl rfl | exact Or.inr rfl | simp) ⟨by first | (rw [b2_t (show mwQ u r o from ⟨c23, c29, c35, c48, c61, by rw [hib]; exact d71, by rw [hia]; exact d80⟩)]; done) | (rw [b2_f (fun q => by first | exact q.1 c23 | exact q.2.1 c29 | exact q.2.2.1 c35 | exact c48 q.2.2.2.1 | exact c61 q.2.2.2.2.1 | exact absurd d80 (by rw [← hia, q.2.2.2.2.2.2]; exact Bool.false_ne_true) | exact absurd d71 (by rw [← hib, q.2.2.2.2.2.1]; exact Bool.false_ne_true))]; done), by first | exact sim.refl _ | exact hs68 | exact hs77.trans hs68⟩
  · obtain ⟨a, ha, hax⟩ := (hw.2.1 r hr).resolve_left c23
    have hia : ix (u 4 r) = a := by rw [hax]; exact ix_nI (by omega)
    refine g_iload h dX9_maySwap_26 rfl ?_
    refine g_iconst (v := -1) h dX9_maySwap_28 (by decide) ?_
    refine g_icmp_eq (tgt := 87) h dX9_maySwap_29 (by decide) (fun c29 => ?_) (fun c29 => ?_)
    · refine g_iconst (v := nI 0) h dX9_maySwap_87 (by decide) ?_
      exact g_zretP h hrt dX9_maySwap_88 (by omega) (by first | exact Or.inl rfl | exact Or.inr rfl | simp) ⟨by first | (rw [b2_t (show mwQ u r o from ⟨c23, c29, c35, c48, c61, by rw [hib]; exact d71, by rw [hia]; exact d80⟩)]; done) | (rw [b2_f (fun q => by first | exact q.1 c23 | exact q.2.1 c29 | exact q.2.2.1 c35 | exact c48 q.2.2.2.1 | exact c61 q.2.2.2.2.1 | exact absurd d80 (by rw [← hia, q.2.2.2.2.2.2]; exact Bool.false_ne_true) | exact absurd d71 (by rw [← hib, q.2.2.2.2.2.1]; exact Bool.false_ne_true))]; done), by first | exact sim.refl _ | exact hs68 | exact hs77.trans hs68⟩
    · obtain ⟨b, hb, hbx⟩ := (hw.2.1 o ho).resolve_left c29
      have hib : ix (u 4 o) = b := by rw [hbx]; exact ix_nI (by omega)
      refine g_iload_n h dX9_maySwap_32 rfl rfl ?_
      refine g_iload h dX9_maySwap_33 rfl ?_
      refine g_icmp_eq (tgt := 87) h dX9_maySwap_35 (by decide) (fun c35 => ?_) (fun c35 => ?_)
      · refine g_iconst (v := nI 0) h dX9_maySwap_87 (by decide) ?_
        exact g_zretP h hrt dX9_maySwap_88 (by omega) (by first | exact Or.inl rfl | exact Or.inr rfl | simp) ⟨by first | (rw [b2_t (show mwQ u r o from ⟨c23, c29, c35, c48, c61, by rw [hib]; exact d71, by rw [hia]; exact d80⟩)]; done) | (rw [b2_f (fun q => by first | exact q.1 c23 | exact q.2.1 c29 | exact q.2.2.1 c35 | exact c48 q.2.2.2.1 | exact c61 q.2.2.2.2.1 | exact absurd d80 (by rw [← hia, q.2.2.2.2.2.2]; exact Bool.false_ne_true) | exact absurd d71 (by rw [← hib, q.2.2.2.2.2.1]; exact Bool.false_ne_true))]; done), by first | exact sim.refl _ | exact hs68 | exact hs77.trans hs68⟩
      · refine g_aload_n h dX9_maySwap_38 rfl rfl ?_
        refine g_getR h fl_X9_12_8 sh_2 (by decide) rfl dX9_maySwap_39 ?_
        refine g_getR h fl_X9_61_6 sh_3 (by decide) rfl dX9_maySwap_42 ?_
        refine g_iload_n h dX9_maySwap_45 rfl rfl ?_
        refine g_iald h _ _ _ sh_5 (by decide) (by decide) rfl (by omega) dX9_maySwap_46 ?_
        refine g_iconst (v := -1) h dX9_maySwap_47 (by decide) ?_
        refine g_icmp_ne (tgt := 87) h dX9_maySwap_48 (by decide) (fun c48 => ?_) (fun c48 => ?_)
        · refine g_iconst (v := nI 0) h dX9_maySwap_87 (by decide) ?_
          exact g_zretP h hrt dX9_maySwap_88 (by omega) (by first | exact Or.inl rfl | exact Or.inr rfl | simp) ⟨by first | (rw [b2_t (show mwQ u r o from ⟨c23, c29, c35, c48, c61, by rw [hib]; exact d71, by rw [hia]; exact d80⟩)]; done) | (rw [b2_f (fun q => by first | exact q.1 c23 | exact q.2.1 c29 | exact q.2.2.1 c35 | exact c48 q.2.2.2.1 | exact c61 q.2.2.2.2.1 | exact absurd d80 (by rw [← hia, q.2.2.2.2.2.2]; exact Bool.false_ne_true) | exact absurd d71 (by rw [← hib, q.2.2.2.2.2.1]; exact Bool.false_ne_true))]; done), by first | exact sim.refl _ | exact hs68 | exact hs77.trans hs68⟩
        · refine g_aload_n h dX9_maySwap_51 rfl rfl ?_
          refine g_getR h fl_X9_12_8 sh_2 (by decide) rfl dX9_maySwap_52 ?_
          refine g_getR h fl_X9_61_6 sh_3 (by decide) rfl dX9_maySwap_55 ?_
          refine g_iload_n h dX9_maySwap_58 rfl rfl ?_
          refine g_iald h _ _ _ sh_5 (by decide) (by decide) rfl (by omega) dX9_maySwap_59 ?_
          refine g_iconst (v := -1) h dX9_maySwap_60 (by decide) ?_
          refine g_icmp_ne (tgt := 87) h dX9_maySwap_61 (by decide) (fun c61 => ?_) (fun c61 => ?_)
          · refine g_iconst (v := nI 0) h dX9_maySwap_87 (by decide) ?_
            exact g_zretP h hrt dX9_maySwap_88 (by omega) (by first | exact Or.inl rfl | exact Or.inr rfl | simp) ⟨by first | (rw [b2_t (show mwQ u r o from ⟨c23, c29, c35, c48, c61, by rw [hib]; exact d71, by rw [hia]; exact d80⟩)]; done) | (rw [b2_f (fun q => by first | exact q.1 c23 | exact q.2.1 c29 | exact q.2.2.1 c35 | exact c48 q.2.2.2.1 | exact c61 q.2.2.2.2.1 | exact absurd d80 (by rw [← hia, q.2.2.2.2.2.2]; exact Bool.false_ne_true) | exact absurd d71 (by rw [← hib, q.2.2.2.2.2.1]; exact Bool.false_ne_true))]; done), by first | exact sim.refl _ | exact hs68 | exact hs77.trans hs68⟩
          · refine g_aload_n h dX9_maySwap_64 rfl rfl ?_
            refine g_iload h dX9_maySwap_65 rfl ?_
            refine g_top hbx ?_
            refine g_iload_n h dX9_maySwap_67 rfl rfl ?_
            refine g_VP h lv_X9_114_X9 sh_2 (by decide) rfl (c_X9_isBarred b hb r hr _ hw.1) ps_nx (fitR hR (by decide) (by decide) (by omega)) rfl rfl (Nat.le_of_ble_eq_true rfl) dX9_maySwap_68 (fun v68 u68 hs68 => ?_)
            obtain ⟨hv68, hs68⟩ := hs68
            cases hv68
            refine g_if_ne (tgt := 87) h dX9_maySwap_71 (by decide) (fun c71 => ?_) (fun c71 => ?_)
            · have d71 := b2_n0.mp c71
              refine g_iconst (v := nI 0) h dX9_maySwap_87 (by decide) ?_
              exact g_zretP h hrt dX9_maySwap_88 (by omega) (by first | exact Or.inl rfl | exact Or.inr rfl | simp) ⟨by first | (rw [b2_t (show mwQ u r o from ⟨c23, c29, c35, c48, c61, by rw [hib]; exact d71, by rw [hia]; exact d80⟩)]; done) | (rw [b2_f (fun q => by first | exact q.1 c23 | exact q.2.1 c29 | exact q.2.2.1 c35 | exact c48 q.2.2.2.1 | exact c61 q.2.2.2.2.1 | exact absurd d80 (by rw [← hia, q.2.2.2.2.2.2]; exact Bool.false_ne_true) | exact absurd d71 (by rw [← hib, q.2.2.2.2.2.1]; exact Bool.false_ne_true))]; done), by first | exact sim.refl _ | exact hs68 | exact hs77.trans hs68⟩
            · have d71 := Bool.eq_false_iff.mpr (b2_0.mp c71)
              refine g_aload_n h dX9_maySwap_74 rfl rfl ?_
              refine g_iload_n h dX9_maySwap_75 rfl rfl ?_
              refine g_top hax ?_
              refine g_iload_n h dX9_maySwap_76 rfl rfl ?_
              refine g_VP h lv_X9_114_X9 sh_2 (by decide) rfl (c_X9_isBarred a ha o ho _ (lawI_sim hs68 hw.1)) ps_nx (fitR hR (by decide) (by decide) (by omega)) rfl rfl (Nat.le_of_ble_eq_true rfl) dX9_maySwap_77 (fun v77 u77 hs77 => ?_)
              obtain ⟨hv77, hs77⟩ := hs77
              cases hv77
              rw [brP_sim hs68]
              refine g_if_ne (tgt := 87) h dX9_maySwap_80 (by decide) (fun c80 => ?_) (fun c80 => ?_)
              · have d80 := b2_n0.mp c80
                refine g_iconst (v := nI 0) h dX9_maySwap_87 (by decide) ?_
                exact g_zretP h hrt dX9_maySwap_88 (by omega) (by first | exact Or.inl rfl | exact Or.inr rfl | simp) ⟨by first | (rw [b2_t (show mwQ u r o from ⟨c23, c29, c35, c48, c61, by rw [hib]; exact d71, by rw [hia]; exact d80⟩)]; done) | (rw [b2_f (fun q => by first | exact q.1 c23 | exact q.2.1 c29 | exact q.2.2.1 c35 | exact c48 q.2.2.2.1 | exact c61 q.2.2.2.2.1 | exact absurd d80 (by rw [← hia, q.2.2.2.2.2.2]; exact Bool.false_ne_true) | exact absurd d71 (by rw [← hib, q.2.2.2.2.2.1]; exact Bool.false_ne_true))]; done), by first | exact sim.refl _ | exact hs68 | exact hs77.trans hs68⟩
              · have d80 := Bool.eq_false_iff.mpr (b2_0.mp c80)
                refine g_iconst (v := nI 1) h dX9_maySwap_83 (by decide) ?_
                refine g_goto (tgt := 88) h dX9_maySwap_84 (by decide) ?_
                exact g_zretP h hrt dX9_maySwap_88 (by omega) (by first | exact Or.inl rfl | exact Or.inr rfl | simp) ⟨by first | (rw [b2_t (show mwQ u r o from ⟨c23, c29, c35, c48, c61, by rw [hib]; exact d71, by rw [hia]; exact d80⟩)]; done) | (rw [b2_f (fun q => by first | exact q.1 c23 | exact q.2.1 c29 | exact q.2.2.1 c35 | exact c48 q.2.2.2.1 | exact c61 q.2.2.2.2.1 | exact absurd d80 (by rw [← hia, q.2.2.2.2.2.2]; exact Bool.false_ne_true) | exact absurd d71 (by rw [← hib, q.2.2.2.2.2.1]; exact Bool.false_ne_true))]; done), by first | exact sim.refl _ | exact hs68 | exact hs77.trans hs68⟩
set_option maxHeartbeats 1000000 in
theorem c_X9_rentOfAll {E : EE} (a : Nat) (ha : a < 10) (u : Sto) (hl : lawI u) : CtP E 5 0 yX9_rentOfAll cX9_rentOfAll 4 (some .int) [.ref (E.ad 2), .int (nI a)] u (PS (.inl (some (.int (smI (fun r => if u 4 r = nI a then rtI u a r else 0) 168)))) u) := by
  refine ctp_of (by decide) (Nat.le_of_ble_eq_true rfl) (fun X h hR hrt htab hargs => ?_)
  have LP : ∀ j k : Nat, ∀ w : Sto, sim w u → 168 < k + j → k ≤ 168 → G E X (QMP E X (PS (.inl (some (.int (smI (fun r => if u 4 r = nI a then rtI u a r else 0) 168)))) u) 0) 4 0 4 [(0, .ref (E.ad 2)), (1, .int (nI a)), (2, .int (smI (fun r => if u 4 r = nI a then rtI u a r else 0) k)), (3, .int (nI k))] [] (w) := by
    intro j
    induction j with
    | zero => intro k w hs h1 h2; omega
    | succ j ih =>
      intro k w hs h1 h2
      refine g_iload_n h dX9_rentOfAll_4 rfl rfl ?_
      refine g_sipush (v := nI 168) h dX9_rentOfAll_5 (by decide) ?_
      refine g_icmp_ge (tgt := 39) h dX9_rentOfAll_8 (by decide) (fun c8 => ?_) (fun c8 => ?_)
      · have n8 := le_n (by omega) (by omega) (show nI (168) ≤ nI (k) from c8)
        obtain rfl : k = 168 := by omega
        refine g_iload_n h dX9_rentOfAll_39 rfl rfl ?_
        exact g_iretP h hrt dX9_rentOfAll_40 (by omega) ⟨rfl, hs⟩
      · have n8 := nle_n (by omega) (by omega) (show ¬ nI (168) ≤ nI (k) from c8)
        refine g_aload_n h dX9_rentOfAll_11 rfl rfl ?_
        refine g_getR h fl_X9_12_8 sh_2 (by decide) rfl dX9_rentOfAll_12 ?_
        refine g_getR h fl_X9_64_6 sh_3 (by decide) rfl dX9_rentOfAll_15 ?_
        refine g_iload_n h dX9_rentOfAll_18 rfl rfl ?_
        refine g_iald h _ _ _ sh_4 (by decide) (by decide) rfl (by omega) dX9_rentOfAll_19 ?_
        refine g_top (y := u 4 k) (by rw [hs.c 4 (by decide)]) ?_
        refine g_iload_n h dX9_rentOfAll_20 rfl rfl ?_
        refine g_icmp_ne (tgt := 33) h dX9_rentOfAll_21 (by decide) (fun c21 => ?_) (fun c21 => ?_)
        · refine g_iinc (v := nI (k + 1)) (ls' := [(0, _), (1, _), (2, _), (3, _)]) h dX9_rentOfAll_33 rfl (inc1 k) (by decide) rfl rfl ?_
          refine g_goto (tgt := 4) h dX9_rentOfAll_36 (by decide) ?_
          exact g_cv (by rw [smI]; simp [c21]) rfl (ih (k + 1) w hs (by omega) (by omega))
        · refine g_iload_n h dX9_rentOfAll_24 rfl rfl ?_
          refine g_aload_n h dX9_rentOfAll_25 rfl rfl ?_
          refine g_iload_n h dX9_rentOfAll_26 rfl rfl ?_
          refine g_iload_n h dX9_rentOfAll_27 rfl rfl ?_
          refine g_VP h lv_X9_67_X9 sh_2 (by decide) rfl (c_X9_rentOf a ha k (by omega) _ (lawI_sim hs hl)) ps_nx (fitR hR (by decide) (by decide) (by omega)) rfl rfl (Nat.le_of_ble_eq_true rfl) dX9_rentOfAll_28 (fun v28 u28 hs28 => ?_)
          obtain ⟨hv28, hs28⟩ := hs28
          cases hv28
          refine g_top (rtI_sim hs a k) ?_
          refine g_iadd h dX9_rentOfAll_31 ?_
          refine g_istore_n (ls' := [(0, _), (1, _), (2, _), (3, _)]) h dX9_rentOfAll_32 rfl (by decide) rfl rfl ?_
          refine g_iinc (v := nI (k + 1)) (ls' := [(0, _), (1, _), (2, _), (3, _)]) h dX9_rentOfAll_33 rfl (inc1 k) (by decide) rfl rfl ?_
          refine g_goto (tgt := 4) h dX9_rentOfAll_36 (by decide) ?_
          exact g_cv (by rw [smI]; simp [c21]) rfl (ih (k + 1) _ (hs28.trans hs) (by omega) (by omega))
  refine g_iconst (v := nI 0) h dX9_rentOfAll_0 (by decide) ?_
  refine g_istore_n (ls' := [(0, _), (1, _), (2, _)]) h dX9_rentOfAll_1 rfl (by decide) rfl rfl ?_
  refine g_iconst (v := nI 0) h dX9_rentOfAll_2 (by decide) ?_
  refine g_istore_n (ls' := [(0, _), (1, _), (2, _), (3, _)]) h dX9_rentOfAll_3 rfl (by decide) rfl rfl ?_
  exact LP (168 + 1) (0) u (sim.refl u) (by omega) (by omega)
def prR (w : Sto) (a r : Nat) : Sto := if w 4 r = nI a then (if w 7 a < rtI w a r then frT w 3 r else pyS w a (rtI w a r)) else w
def prS (u : Sto) (a : Nat) : Nat → Sto
  | 0 => u
  | k + 1 => prR (prS u a k) a k
theorem prR_sim {w u : Sto} (h : sim w u) (a r : Nat) : sim (prR w a r) (prR u a r) := by
  unfold prR
  rw [h.c 4 (by decide), h.c 7 (by decide), rtI_sim h]
  split
  · split
    · exact frT_sim h r
    · exact pyS_sim h _ _
  · exact h
theorem WI_prR {u : Sto} (h : WI u) (a r : Nat) : WI (prR u a r) := by
  unfold prR
  split
  · split
    · exact WI_fr h r
    · exact WI_py h _ _
  · exact h
theorem WI_pr {u : Sto} (h : WI u) (a : Nat) : ∀ k, WI (prS u a k)
  | 0 => h
  | k + 1 => WI_prR (WI_pr h a k) a k
theorem prS_sim {w u : Sto} (h : sim w u) (a : Nat) : ∀ k, sim (prS w a k) (prS u a k)
  | 0 => h
  | k + 1 => prR_sim (prS_sim h a k) a k
set_option maxHeartbeats 1000000 in
theorem c_X9_payRents {E : EE} (a : Nat) (ha : a < 10) (u : Sto) (hw : WI u) : CtP E 5 0 yX9_payRents cX9_payRents 4 none [.ref (E.ad 2), .int (nI a)] u (PS (.inl none) (prS u a 168)) := by
  refine ctp_of (by decide) (Nat.le_of_ble_eq_true rfl) (fun X h hR hrt htab hargs => ?_)
  have LP : ∀ j k : Nat, ∀ w : Sto, sim w (prS u a k) → 168 < k + j → k ≤ 168 → G E X (QMP E X (PS (.inl none) (prS u a 168)) 0) 4 0 2 [(0, .ref (E.ad 2)), (1, .int (nI a)), (2, .int (nI k))] [] (w) := by
    intro j
    induction j with
    | zero => intro k w hs h1 h2; omega
    | succ j ih =>
      intro k w hs h1 h2
      have hw2 := WI_pr hw a k
      refine g_iload_n h dX9_payRents_2 rfl rfl ?_
      refine g_sipush (v := nI 168) h dX9_payRents_3 (by decide) ?_
      refine g_icmp_ge (tgt := 65) h dX9_payRents_6 (by decide) (fun c6 => ?_) (fun c6 => ?_)
      · have n6 := le_n (by omega) (by omega) (show nI (168) ≤ nI (k) from c6)
        obtain rfl : k = 168 := by omega
        exact g_vretP h hrt dX9_payRents_65 (by omega) ⟨rfl, hs⟩
      · have n6 := nle_n (by omega) (by omega) (show ¬ nI (168) ≤ nI (k) from c6)
        refine g_aload_n h dX9_payRents_9 rfl rfl ?_
        refine g_getR h fl_X9_12_8 sh_2 (by decide) rfl dX9_payRents_10 ?_
        refine g_getR h fl_X9_64_6 sh_3 (by decide) rfl dX9_payRents_13 ?_
        refine g_iload_n h dX9_payRents_16 rfl rfl ?_
        refine g_iald h _ _ _ sh_4 (by decide) (by decide) rfl (by omega) dX9_payRents_17 ?_
        refine g_top (y := (prS u a k) 4 k) (by rw [hs.c 4 (by decide)]) ?_
        refine g_iload_n h dX9_payRents_18 rfl rfl ?_
        refine g_icmp_ne (tgt := 59) h dX9_payRents_19 (by decide) (fun c19 => ?_) (fun c19 => ?_)
        · refine g_iinc (v := nI (k + 1)) (ls' := [(0, _), (1, _), (2, _)]) h dX9_payRents_59 rfl (inc1 k) (by decide) rfl rfl ?_
          refine g_goto (tgt := 2) h dX9_payRents_62 (by decide) ?_
          exact ih (k + 1) w (by rw [prS, prR, if_neg c19]; exact hs) (by omega) (by omega)
        · refine g_aload_n h dX9_payRents_22 rfl rfl ?_
          refine g_iload_n h dX9_payRents_23 rfl rfl ?_
          refine g_iload_n h dX9_payRents_24 rfl rfl ?_
          refine g_VP h lv_X9_67_X9 sh_2 (by decide) rfl (c_X9_rentOf a ha k (by omega) _ (lawI_sim hs hw2.1)) ps_nx (fitR hR (by decide) (by decide) (by omega)) rfl rfl (Nat.le_of_ble_eq_true rfl) dX9_payRents_25 (fun v25 u25 hs25 => ?_)
          obtain ⟨hv25, hs25⟩ := hs25
          cases hv25
          refine g_top (rtI_sim hs a k) ?_
          have hs26 := hs25.trans hs
          refine g_istore_n (ls' := [(0, _), (1, _), (2, _), (3, _)]) h dX9_payRents_28 rfl (by decide) rfl rfl ?_
          refine g_aload_n h dX9_payRents_29 rfl rfl ?_
          refine g_getR h fl_X9_12_8 sh_2 (by decide) rfl dX9_payRents_30 ?_
          refine g_getR h fl_X9_74_6 sh_3 (by decide) rfl dX9_payRents_33 ?_
          refine g_iload_n h dX9_payRents_36 rfl rfl ?_
          refine g_iald h _ _ _ sh_7 (by decide) (by decide) rfl (by omega) dX9_payRents_37 ?_
          refine g_top (y := (prS u a k) 7 a) (by rw [hs25.c 7 (by decide), hs.c 7 (by decide)]) ?_
          refine g_iload_n h dX9_payRents_38 rfl rfl ?_
          refine g_icmp_lt (tgt := 51) h dX9_payRents_39 (by decide) (fun c39 => ?_) (fun c39 => ?_)
          · refine g_aload_n h dX9_payRents_51 rfl rfl ?_
            refine g_getR h fl_X9_12_8 sh_2 (by decide) rfl dX9_payRents_52 ?_
            refine g_iload_n h dX9_payRents_55 rfl rfl ?_
            refine g_V h lv_X9_136_X7 sh_3 (by decide) rfl (c_X7_free 3 (by decide) k (by omega) _ ((WI_sim hs26 hw2).2.1 k (by omega))) (fitR hR (by decide) (by decide) (by omega)) rfl rfl (Nat.le_of_ble_eq_true rfl) dX9_payRents_56 ?_
            refine g_iinc (v := nI (k + 1)) (ls' := [(0, _), (1, _), (2, _), (3, _)]) h dX9_payRents_59 rfl (inc1 k) (by decide) rfl rfl ?_
            refine g_goto (tgt := 2) h dX9_payRents_62 (by decide) ?_
            refine g_del 3 (ls' := [(0, _), (1, _), (2, _)]) rfl ?_
            exact ih (k + 1) _ (by rw [prS, prR, if_pos c19, if_pos c39]; exact frT_sim hs26 k) (by omega) (by omega)
          · refine g_aload_n h dX9_payRents_42 rfl rfl ?_
            refine g_iload_n h dX9_payRents_43 rfl rfl ?_
            refine g_iload_n h dX9_payRents_44 rfl rfl ?_
            refine g_V h lv_X9_117_X9 sh_2 (by decide) rfl (c_X9_pay a ha _ _) (fitR hR (by decide) (by decide) (by omega)) rfl rfl (Nat.le_of_ble_eq_true rfl) dX9_payRents_45 ?_
            refine g_goto (tgt := 59) h dX9_payRents_48 (by decide) ?_
            refine g_iinc (v := nI (k + 1)) (ls' := [(0, _), (1, _), (2, _), (3, _)]) h dX9_payRents_59 rfl (inc1 k) (by decide) rfl rfl ?_
            refine g_goto (tgt := 2) h dX9_payRents_62 (by decide) ?_
            refine g_del 3 (ls' := [(0, _), (1, _), (2, _)]) rfl ?_
            exact ih (k + 1) _ (by rw [prS, prR, if_pos c19, if_neg c39]; exact pyS_sim hs26 _ _) (by omega) (by omega)
  refine g_iconst (v := nI 0) h dX9_payRents_0 (by decide) ?_
  refine g_istore_n (ls' := [(0, _), (1, _), (2, _)]) h dX9_payRents_1 rfl (by decide) rfl rfl ?_
  exact LP (168 + 1) (0) u (sim.refl u) (by omega) (by omega)
def dwN (x : Int32) : Nat := ((sdN x).toUInt32 >>> ((nI 16).toUInt32 &&& Int32.toUInt32 31)).toInt32.toBitVec.toNat % 2 ^ 15
theorem drw_n (x : Int32) : drw x = nI (dwN x) := pk_and _ 15 (by decide)
theorem dwN_lt (x : Int32) : dwN x < 32768 := Nat.mod_lt _ (by decide)
def sd1 (u : Sto) : Sto := su u 3 11 (sdN (u 3 11))
theorem sd1_c {u : Sto} {k : Nat} (h : k ≠ 3) : sd1 u k = u k := su_c h
theorem sd1_11 {u : Sto} : sd1 u 3 11 = sdN (u 3 11) := su_same _ _ _ _
theorem WI_sd {u : Sto} (h : WI u) : WI (sd1 u) := ⟨law_c h.1 (sd1_c (by decide)) (sd1_c (by decide)), fun r hr => by rw [sd1_c (by decide)]; exact h.2.1 r hr, by unfold sd1; rw [su_slot (by decide)]; exact h.2.2⟩
theorem sd1_sim {w u : Sto} (h : sim w u) : sim (sd1 w) (sd1 u) := by
  unfold sd1
  rw [h.c 3 (by decide)]
  exact sim_su h _ _ _
/-- a tenant's draw, at a week's end -/
def drS (u : Sto) (a : Nat) : Sto :=
  if u 10 10 ≤ nI (dwN (u 3 11) % 100) then sd1 u
  else (fun v r => if mtP v a r (v 7 a) then gvS v a r (nI 5) else v) (sd1 (sd1 u)) (dwN (sdN (u 3 11)) % 168)
theorem mtP_sim {w u : Sto} (h : sim w u) (a r : Nat) (x : Int32) : mtP w a r x ↔ mtP u a r x := by
  unfold mtP
  rw [h.c 13 (by decide), h.c 4 (by decide), h.c 14 (by decide), brP_sim h, rtI_sim h]
theorem drS_sim {w u : Sto} (h : sim w u) (a : Nat) : sim (drS w a) (drS u a) := by
  unfold drS
  have h2 := sd1_sim (sd1_sim h)
  rw [h.c 10 (by decide), h.c 3 (by decide)]
  split
  · exact sd1_sim h
  · show sim (if mtP (sd1 (sd1 w)) a _ (sd1 (sd1 w) 7 a) then _ else _) (if mtP (sd1 (sd1 u)) a _ (sd1 (sd1 u) 7 a) then _ else _)
    rw [h2.c 7 (by decide)]
    by_cases q : mtP (sd1 (sd1 u)) a (dwN (sdN (u 3 11)) % 168) (sd1 (sd1 u) 7 a)
    · rw [if_pos q, if_pos ((mtP_sim h2 _ _ _).mpr q)]
      exact gvS_sim h2 _ _ _
    · rw [if_neg q, if_neg (fun z => q ((mtP_sim h2 _ _ _).mp z))]
      exact h2
theorem WI_gv {u : Sto} (h : WI u) {a : Nat} (ha : a < 10) (r : Nat) (x : Int32) : WI (gvS u a r x) := WI_ct (WI_py h _ _) r ha x
theorem WI_dr {u : Sto} (h : WI u) {a : Nat} (ha : a < 10) : WI (drS u a) := by
  unfold drS
  split
  · exact WI_sd h
  · show WI (if _ then _ else _)
    split
    · exact WI_gv (WI_sd (WI_sd h)) ha _ _
    · exact WI_sd (WI_sd h)
set_option maxHeartbeats 1000000 in
theorem c_X9_drawRoom {E : EE} (a : Nat) (ha : a < 10) (u : Sto) (hw : WI u) : CtP E 6 0 yX9_drawRoom cX9_drawRoom 3 none [.ref (E.ad 2), .int (nI a)] u (PS (.inl none) (drS u a)) := by
  have hd1 := dwN_lt (u 3 11)
  have hd2 := dwN_lt (sdN (u 3 11))
  have hr : dwN (sdN (u 3 11)) % 168 < 168 := Nat.mod_lt _ (by omega)
  have hw2 := WI_sd (WI_sd hw)
  refine ctp_of (by decide) (Nat.le_of_ble_eq_true rfl) (fun X h hR hrt htab hargs => ?_)
  refine g_aload_n h dX9_drawRoom_0 rfl rfl ?_
  refine g_getR h fl_X9_12_8 sh_2 (by decide) rfl dX9_drawRoom_1 ?_
  refine g_V h lv_X9_149_X7 sh_3 (by decide) rfl (c_X7_draw 3 (by decide) _) (fitR hR (by decide) (by decide) (by omega)) rfl rfl (Nat.le_of_ble_eq_true rfl) dX9_drawRoom_4 ?_
  refine g_top (drw_n _) ?_
  refine g_bipush (v := nI 100) h dX9_drawRoom_7 (by decide) ?_
  refine g_irem h dX9_drawRoom_9 (by decide) ?_
  refine g_top (pk_rem (a := dwN (u 3 11)) (d := 100) (by omega) (by omega) (by omega)) ?_
  refine g_aload_n h dX9_drawRoom_10 rfl rfl ?_
  refine g_getR h fl_X9_21_8 sh_2 (by decide) rfl dX9_drawRoom_11 ?_
  refine g_getI h fl_X9_153_4 sh_10 (by decide) rfl dX9_drawRoom_14 ?_
  refine g_top (y := u 10 10) (by rw [su_ne2 (by decide)]) ?_
  refine g_icmp_ge (tgt := 58) h dX9_drawRoom_17 (by decide) (fun c17 => ?_) (fun c17 => ?_)
  · exact g_vretP h hrt dX9_drawRoom_58 (by omega) ⟨rfl, by first | (rw [drS, if_pos c17]; exact sim.refl _) | (rw [drS, if_neg c17]; show sim _ (if _ then _ else _); rw [if_neg d47]; exact hs44) | (rw [drS, if_neg c17]; show sim _ (if _ then _ else _); rw [if_pos d47]; exact hs54.trans (gvS_sim hs44 _ _ _))⟩
  · refine g_aload_n h dX9_drawRoom_20 rfl rfl ?_
    refine g_getR h fl_X9_12_8 sh_2 (by decide) rfl dX9_drawRoom_21 ?_
    refine g_V h lv_X9_149_X7 sh_3 (by decide) rfl (c_X7_draw 3 (by decide) _) (fitR hR (by decide) (by decide) (by omega)) rfl rfl (Nat.le_of_ble_eq_true rfl) dX9_drawRoom_24 ?_
    refine g_top (y := nI (dwN (sdN (u 3 11)))) (by rw [drw_n, su_same]) ?_
    refine g_sipush (v := nI 168) h dX9_drawRoom_27 (by decide) ?_
    refine g_irem h dX9_drawRoom_30 (by decide) ?_
    refine g_top (pk_rem (a := dwN (sdN (u 3 11))) (d := 168) (by omega) (by omega) (by omega)) ?_
    refine g_istore_n (ls' := [(0, _), (1, _), (2, _)]) h dX9_drawRoom_31 rfl (by decide) rfl rfl ?_
    refine g_sto (u2 := sd1 (sd1 u)) rfl ?_
    refine g_aload_n h dX9_drawRoom_32 rfl rfl ?_
    refine g_iload_n h dX9_drawRoom_33 rfl rfl ?_
    refine g_iload_n h dX9_drawRoom_34 rfl rfl ?_
    refine g_aload_n h dX9_drawRoom_35 rfl rfl ?_
    refine g_getR h fl_X9_12_8 sh_2 (by decide) rfl dX9_drawRoom_36 ?_
    refine g_getR h fl_X9_74_6 sh_3 (by decide) rfl dX9_drawRoom_39 ?_
    refine g_iload_n h dX9_drawRoom_42 rfl rfl ?_
    refine g_iald h _ _ _ sh_7 (by decide) (by decide) rfl (by omega) dX9_drawRoom_43 ?_
    refine g_VP h lv_X9_156_X9 sh_2 (by decide) rfl (c_X9_mayTake a ha _ hr _ _ hw2.1) ps_nx (fitR hR (by decide) (by decide) (by omega)) rfl rfl (Nat.le_of_ble_eq_true rfl) dX9_drawRoom_44 (fun v44 u44 hs44 => ?_)
    obtain ⟨hv44, hs44⟩ := hs44
    cases hv44
    refine g_if_eq (tgt := 58) h dX9_drawRoom_47 (by decide) (fun c47 => ?_) (fun c47 => ?_)
    · have d47 := b2_0.mp c47
      exact g_vretP h hrt dX9_drawRoom_58 (by omega) ⟨rfl, by first | (rw [drS, if_pos c17]; exact sim.refl _) | (rw [drS, if_neg c17]; show sim _ (if _ then _ else _); rw [if_neg d47]; exact hs44) | (rw [drS, if_neg c17]; show sim _ (if _ then _ else _); rw [if_pos d47]; exact hs54.trans (gvS_sim hs44 _ _ _))⟩
    · have d47 := b2_n0.mp c47
      refine g_aload_n h dX9_drawRoom_50 rfl rfl ?_
      refine g_iload_n h dX9_drawRoom_51 rfl rfl ?_
      refine g_iload_n h dX9_drawRoom_52 rfl rfl ?_
      refine g_iconst (v := nI 5) h dX9_drawRoom_53 (by decide) ?_
      refine g_VP h lv_X9_160_X9 sh_2 (by decide) rfl (c_X9_giveTo a ha _ hr _ _ (WI_sim hs44 hw2)) ps_nx (fitR hR (by decide) (by decide) (by omega)) rfl rfl (Nat.le_of_ble_eq_true rfl) dX9_drawRoom_54 (fun v54 u54 hs54 => ?_)
      obtain ⟨hv54, hs54⟩ := hs54
      cases hv54
      refine g_pop h dX9_drawRoom_57 rfl ?_
      exact g_vretP h hrt dX9_drawRoom_58 (by omega) ⟨rfl, by first | (rw [drS, if_pos c17]; exact sim.refl _) | (rw [drS, if_neg c17]; show sim _ (if _ then _ else _); rw [if_neg d47]; exact hs44) | (rw [drS, if_neg c17]; show sim _ (if _ then _ else _); rw [if_pos d47]; exact hs54.trans (gvS_sim hs44 _ _ _))⟩
