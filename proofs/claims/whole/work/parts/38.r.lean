theorem lawI_tim {w u : Sto} (h : tim w u) (q : lawI u) : lawI w := lawI_sim h.sim q
theorem coI_sim {w u : Sto} (h : sim w u) (a r : Nat) : coI w a r = coI u a r := by
  unfold coI coP coQ
  rw [h.c 14 (by decide), h.c 4 (by decide), brP_sim h]
def fevF (u : Sto) (a N : Nat) : Int32 × Int32 := feF (fun r => crF (coI u a) r N 0 (nI 0)) 168
def fevV (u : Sto) (a N : Nat) (z : Int32) : Int32 := if ¬ u 13 a = -1 then -1 else if z = 0 then (fevF u a N).1 else (fevF u a N).2
theorem su_163 {v w : Sto} {k : Nat} {x : Int32} (hv : v 163 = w 163) (j : Nat) : su v 163 k x 163 j = if j = k then x else w 163 j := by
  by_cases h : j = k
  · rw [if_pos h, h]; exact su_same _ _ _ _
  · rw [if_neg h, su_slot h, hv]
theorem okN_k {x : Int32} {a b : Nat} (hb : a < 2 ^ 31 ∧ b < 2 ^ 31) (h : okN x (nI a) (nI b)) : ∃ k, a ≤ k ∧ k ≤ b ∧ ix (nI k) = k ∧ x = nI k := by
  have h0 : ¬ x < 0 := fun q => h.1 (Int32.lt_of_lt_of_le q (by rw [i0]; exact (nI_leI (by omega) hb.1).mpr (by omega)))
  obtain ⟨k, hk, rfl⟩ := nI_ge0 (Int32.not_lt.mp h0)
  exact ⟨k, nlt_n hk hb.1 h.1, le_n hk hb.2 h.2, ix_nI hk, rfl⟩
set_option maxHeartbeats 1000000 in
theorem c_X5_fewestEvictions {E : EE} (a : Nat) (ha : a < 10) (N : Nat) (hN : N ≤ 24) (z : Int32) (u : Sto) (hl : lawI u) : CtP E 6 0 yX5_fewestEvictions cX5_fewestEvictions 8 (some .int) [.ref (E.ad 162), .int (nI a), .int (nI N), .int z] u (PS (.inl (some (.int (fevV u a N z)))) u) := by
  refine ctp_of (by decide) (Nat.le_of_ble_eq_true rfl) (fun X h hR hrt htab hargs => ?_)
  refine g_aload_n h dX5_fewestEvictions_0 rfl rfl ?_
  refine g_getR h fl_X5_15_5 sh_162 (by decide) rfl dX5_fewestEvictions_1 ?_
  refine g_iload_n h dX5_fewestEvictions_4 rfl rfl ?_
  refine g_V h lv_X5_61_X9 sh_2 (by decide) rfl (c_X9_isChild a ha _) (fitR hR (by decide) (by decide) (by omega)) rfl rfl (Nat.le_of_ble_eq_true rfl) dX5_fewestEvictions_5 ?_
  refine g_if_eq (tgt := 13) h dX5_fewestEvictions_8 (by decide) (fun c8 => ?_) (fun c8 => ?_)
  · have d8 := Decidable.not_not.mp (b2_0.mp c8)
    refine g_iconst (v := nI 0) h dX5_fewestEvictions_13 (by decide) ?_
    refine g_istore (ls' := [(0, _), (1, _), (2, _), (3, _), (4, _)]) h dX5_fewestEvictions_14 (by decide) rfl rfl ?_
    have LP : ∀ j k : Nat, ∀ w : Sto, sim w u → (∀ j, j < k → w 163 j = coI u a j) → 168 < k + j → k ≤ 168 → G E X (QMP E X (PS (.inl (some (.int (fevV u a N z)))) u) 0) 8 0 16 [(0, .ref (E.ad 162)), (1, .int (nI a)), (2, .int (nI N)), (3, .int z), (4, .int (nI k))] [] (w) := by
      intro j
      induction j with
      | zero => intro k w hs hc h1 h2; omega
      | succ j ih =>
        intro k w hs hc h1 h2
        refine g_iload h dX5_fewestEvictions_16 rfl ?_
        refine g_sipush (v := nI 168) h dX5_fewestEvictions_18 (by decide) ?_
        refine g_icmp_ge (tgt := 44) h dX5_fewestEvictions_21 (by decide) (fun c21 => ?_) (fun c21 => ?_)
        · have n21 := le_n (by omega) (by omega) (show nI (168) ≤ nI (k) from c21)
          obtain rfl : k = 168 := by omega
          refine g_iconst (v := -1) h dX5_fewestEvictions_44 (by decide) ?_
          refine g_istore (ls' := [(0, _), (1, _), (2, _), (3, _), (4, _)]) h dX5_fewestEvictions_45 (by decide) rfl rfl ?_
          refine g_iconst (v := -1) h dX5_fewestEvictions_47 (by decide) ?_
          refine g_istore (ls' := [(0, _), (1, _), (2, _), (3, _), (4, _), (5, _)]) h dX5_fewestEvictions_48 (by decide) rfl rfl ?_
          refine g_iconst (v := nI 0) h dX5_fewestEvictions_50 (by decide) ?_
          refine g_istore (ls' := [(0, _), (1, _), (2, _), (3, _), (4, _), (5, _), (6, _)]) h dX5_fewestEvictions_51 (by decide) rfl rfl ?_
          have LP2 : ∀ j k : Nat, 168 < k + j → k ≤ 168 → G E X (QMP E X (PS (.inl (some (.int (fevV u a N z)))) u) 0) 8 0 53 [(0, .ref (E.ad 162)), (1, .int (nI a)), (2, .int (nI N)), (3, .int z), (4, .int (feF (fun r => crF (coI u a) r N 0 (nI 0)) k).1), (5, .int (feF (fun r => crF (coI u a) r N 0 (nI 0)) k).2), (6, .int (nI k))] [] (w) := by
            intro j
            induction j with
            | zero => intro k h1 h2; omega
            | succ j ih =>
              intro k h1 h2
              refine g_iload h dX5_fewestEvictions_53 rfl ?_
              refine g_sipush (v := nI 168) h dX5_fewestEvictions_55 (by decide) ?_
              refine g_icmp_ge (tgt := 103) h dX5_fewestEvictions_58 (by decide) (fun c58 => ?_) (fun c58 => ?_)
              · have n58 := le_n (by omega) (by omega) (show nI (168) ≤ nI (k) from c58)
                obtain rfl : k = 168 := by omega
                refine g_iload_n h dX5_fewestEvictions_103 rfl rfl ?_
                refine g_if_eq (tgt := 112) h dX5_fewestEvictions_104 (by decide) (fun c104 => ?_) (fun c104 => ?_)
                · refine g_iload h dX5_fewestEvictions_112 rfl ?_
                  exact g_iretP h hrt dX5_fewestEvictions_114 (by omega) (by first | exact ⟨by rw [fevV, if_neg (fun q => q d8), if_pos c104]; rfl, hs⟩ | exact ⟨by rw [fevV, if_neg (fun q => q d8), if_neg c104]; rfl, hs⟩)
                · refine g_iload h dX5_fewestEvictions_107 rfl ?_
                  refine g_goto (tgt := 114) h dX5_fewestEvictions_109 (by decide) ?_
                  exact g_iretP h hrt dX5_fewestEvictions_114 (by omega) (by first | exact ⟨by rw [fevV, if_neg (fun q => q d8), if_pos c104]; rfl, hs⟩ | exact ⟨by rw [fevV, if_neg (fun q => q d8), if_neg c104]; rfl, hs⟩)
              · have n58 := nle_n (by omega) (by omega) (show ¬ nI (168) ≤ nI (k) from c58)
                refine g_aload_n h dX5_fewestEvictions_61 rfl rfl ?_
                refine g_iload h dX5_fewestEvictions_62 rfl ?_
                refine g_iload_n h dX5_fewestEvictions_64 rfl rfl ?_
                refine g_V h lv_X5_68_X5 sh_162 (by decide) rfl (c_X5_costOfRow k (by omega) N hN _) (fitR hR (by decide) (by decide) (by omega)) rfl rfl (Nat.le_of_ble_eq_true rfl) dX5_fewestEvictions_65 ?_
                refine g_top (y := (fun r => crF (coI u a) r N 0 (nI 0)) k) (cr_cong hc N 0 (nI 0)) ?_
                refine g_istore (ls' := [(0, _), (1, _), (2, _), (3, _), (4, _), (5, _), (6, _), (7, _)]) h dX5_fewestEvictions_68 (by decide) rfl rfl ?_
                refine g_iload h dX5_fewestEvictions_70 rfl ?_
                refine g_iconst (v := -1) h dX5_fewestEvictions_72 (by decide) ?_
                refine g_icmp_eq (tgt := 97) h dX5_fewestEvictions_73 (by decide) (fun c73 => ?_) (fun c73 => ?_)
                · have hz : ¬ (¬ (fun r => crF (coI u a) r N 0 (nI 0)) k = -1 ∧ ((feF (fun r => crF (coI u a) r N 0 (nI 0)) k).1 = -1 ∨ (fun r => crF (coI u a) r N 0 (nI 0)) k < (feF (fun r => crF (coI u a) r N 0 (nI 0)) k).1)) := fun q => q.1 c73
                  refine g_iinc (v := nI (k + 1)) (ls' := [(0, _), (1, _), (2, _), (3, _), (4, _), (5, _), (6, _), (7, _)]) h dX5_fewestEvictions_97 rfl (nI_1 k) (by decide) rfl rfl ?_
                  refine g_goto (tgt := 53) h dX5_fewestEvictions_100 (by decide) ?_
                  refine g_del 7 (ls' := [(0, _), (1, _), (2, _), (3, _), (4, _), (5, _), (6, _)]) rfl ?_
                  exact g_cv (by rw [feF, if_neg hz]) rfl (ih (k + 1) (by omega) (by omega))
                · refine g_iload h dX5_fewestEvictions_76 rfl ?_
                  refine g_iconst (v := -1) h dX5_fewestEvictions_78 (by decide) ?_
                  refine g_icmp_eq (tgt := 89) h dX5_fewestEvictions_79 (by decide) (fun c79 => ?_) (fun c79 => ?_)
                  · have hz : ¬ (fun r => crF (coI u a) r N 0 (nI 0)) k = -1 ∧ ((feF (fun r => crF (coI u a) r N 0 (nI 0)) k).1 = -1 ∨ (fun r => crF (coI u a) r N 0 (nI 0)) k < (feF (fun r => crF (coI u a) r N 0 (nI 0)) k).1) := ⟨c73, Or.inl c79⟩
                    refine g_iload h dX5_fewestEvictions_89 rfl ?_
                    refine g_istore (ls' := [(0, _), (1, _), (2, _), (3, _), (4, _), (5, _), (6, _), (7, _)]) h dX5_fewestEvictions_91 (by decide) rfl rfl ?_
                    refine g_iload h dX5_fewestEvictions_93 rfl ?_
                    refine g_istore (ls' := [(0, _), (1, _), (2, _), (3, _), (4, _), (5, _), (6, _), (7, _)]) h dX5_fewestEvictions_95 (by decide) rfl rfl ?_
                    refine g_iinc (v := nI (k + 1)) (ls' := [(0, _), (1, _), (2, _), (3, _), (4, _), (5, _), (6, _), (7, _)]) h dX5_fewestEvictions_97 rfl (nI_1 k) (by decide) rfl rfl ?_
                    refine g_goto (tgt := 53) h dX5_fewestEvictions_100 (by decide) ?_
                    refine g_del 7 (ls' := [(0, _), (1, _), (2, _), (3, _), (4, _), (5, _), (6, _)]) rfl ?_
                    exact g_cv (by rw [feF, if_pos hz]) rfl (ih (k + 1) (by omega) (by omega))
                  · refine g_iload h dX5_fewestEvictions_82 rfl ?_
                    refine g_iload h dX5_fewestEvictions_84 rfl ?_
                    refine g_icmp_ge (tgt := 97) h dX5_fewestEvictions_86 (by decide) (fun c86 => ?_) (fun c86 => ?_)
                    · have hz : ¬ (¬ (fun r => crF (coI u a) r N 0 (nI 0)) k = -1 ∧ ((feF (fun r => crF (coI u a) r N 0 (nI 0)) k).1 = -1 ∨ (fun r => crF (coI u a) r N 0 (nI 0)) k < (feF (fun r => crF (coI u a) r N 0 (nI 0)) k).1)) := fun q => by
                        rcases q.2 with q2 | q2
                        · exact c79 q2
                        · exact absurd q2 (Int32.not_lt.mpr c86)
                      refine g_iinc (v := nI (k + 1)) (ls' := [(0, _), (1, _), (2, _), (3, _), (4, _), (5, _), (6, _), (7, _)]) h dX5_fewestEvictions_97 rfl (nI_1 k) (by decide) rfl rfl ?_
                      refine g_goto (tgt := 53) h dX5_fewestEvictions_100 (by decide) ?_
                      refine g_del 7 (ls' := [(0, _), (1, _), (2, _), (3, _), (4, _), (5, _), (6, _)]) rfl ?_
                      exact g_cv (by rw [feF, if_neg hz]) rfl (ih (k + 1) (by omega) (by omega))
                    · have hz : ¬ (fun r => crF (coI u a) r N 0 (nI 0)) k = -1 ∧ ((feF (fun r => crF (coI u a) r N 0 (nI 0)) k).1 = -1 ∨ (fun r => crF (coI u a) r N 0 (nI 0)) k < (feF (fun r => crF (coI u a) r N 0 (nI 0)) k).1) := ⟨c73, Or.inr (Int32.not_le.mp c86)⟩
                      refine g_iload h dX5_fewestEvictions_89 rfl ?_
                      refine g_istore (ls' := [(0, _), (1, _), (2, _), (3, _), (4, _), (5, _), (6, _), (7, _)]) h dX5_fewestEvictions_91 (by decide) rfl rfl ?_
                      refine g_iload h dX5_fewestEvictions_93 rfl ?_
                      refine g_istore (ls' := [(0, _), (1, _), (2, _), (3, _), (4, _), (5, _), (6, _), (7, _)]) h dX5_fewestEvictions_95 (by decide) rfl rfl ?_
                      refine g_iinc (v := nI (k + 1)) (ls' := [(0, _), (1, _), (2, _), (3, _), (4, _), (5, _), (6, _), (7, _)]) h dX5_fewestEvictions_97 rfl (nI_1 k) (by decide) rfl rfl ?_
                      refine g_goto (tgt := 53) h dX5_fewestEvictions_100 (by decide) ?_
                      refine g_del 7 (ls' := [(0, _), (1, _), (2, _), (3, _), (4, _), (5, _), (6, _)]) rfl ?_
                      exact g_cv (by rw [feF, if_pos hz]) rfl (ih (k + 1) (by omega) (by omega))
          exact LP2 (168 + 1) (0) (by omega) (by omega)
          
        · have n21 := nle_n (by omega) (by omega) (show ¬ nI (168) ≤ nI (k) from c21)
          refine g_aload_n h dX5_fewestEvictions_24 rfl rfl ?_
          refine g_getR h fl_X5_9_5 sh_162 (by decide) rfl dX5_fewestEvictions_25 ?_
          refine g_iload h dX5_fewestEvictions_28 rfl ?_
          refine g_aload_n h dX5_fewestEvictions_30 rfl rfl ?_
          refine g_iload_n h dX5_fewestEvictions_31 rfl rfl ?_
          refine g_iload h dX5_fewestEvictions_32 rfl ?_
          refine g_VP h lv_X5_65_X5 sh_162 (by decide) rfl (c_X5_costOf a ha k (by omega) _ (lawI_sim hs hl)) pt_nx (fitR hR (by decide) (by decide) (by omega)) rfl rfl (Nat.le_of_ble_eq_true rfl) dX5_fewestEvictions_34 (fun v34 u34 hs34 => ?_)
          obtain ⟨hv34, hs34⟩ := hs34
          cases hv34
          refine g_top (coI_sim hs a k) ?_
          refine g_iast h _ _ _ sh_163 (by decide) (by decide) rfl (by omega) dX5_fewestEvictions_37 ?_
          refine g_iinc (v := nI (k + 1)) (ls' := [(0, _), (1, _), (2, _), (3, _), (4, _)]) h dX5_fewestEvictions_38 rfl (nI_1 k) (by decide) rfl rfl ?_
          refine g_goto (tgt := 16) h dX5_fewestEvictions_41 (by decide) ?_
          exact ih (k + 1) _ (sim_scr (hs34.sim.trans hs) _ (by rfl)) (fun j hj => by
            rw [su_163 (hs34 163 (by decide) (by decide))]
            split
            · rename_i e; rw [e]
            · exact hc j (by omega)) (by omega) (by omega)
    exact LP (168 + 1) (0) u (sim.refl u) (fun j hj => absurd hj (by omega)) (by omega) (by omega)
    
  · have d8 := b2_n0.mp c8
    refine g_iconst (v := -1) h dX5_fewestEvictions_11 (by decide) ?_
    exact g_iretP h hrt dX5_fewestEvictions_12 (by omega) ⟨by rw [fevV, if_pos d8], sim.refl _⟩
def nbrR (u : Sto) (x y z : Int32) : Res × Sto := if okT u x then if okT u y then (.inl (some (.int (sbsF (fun r => decide (lvT u 3 r = hmI u (ix x) ∧ lvT u 3 (aft r) = hmI u (ix y))) z 168 0 (nI 0)))), u) else (.inr ioob, u) else (.inr ioob, u)
def lrwV (u : Sto) (x z : Int32) : Int32 := if z = 0 then nI (lrS (fun r => decide (lvT u 3 r = x)) 336).1 else (lrS (fun r => decide (lvT u 3 r = x)) 336).2.1
def runR (u : Sto) (x z : Int32) : Res × Sto := if okT u x then (.inl (some (.int (lrwV u (hmI u (ix x)) z))), u) else (.inr ioob, u)
def wedV (u : Sto) (x y : Int32) : Int32 := frs (fun k => decide ((lvT u 3 ((ix (u 3 10) + k) % 168) = x ∧ lvT u 3 (aft ((ix (u 3 10) + k) % 168)) = y) ∨ (lvT u 3 ((ix (u 3 10) + k) % 168) = y ∧ lvT u 3 (aft ((ix (u 3 10) + k) % 168)) = x))) (fun k => nI ((ix (u 3 10) + k) % 168)) 168 0
def wedR (u : Sto) (x y : Int32) : Res × Sto := if okT u x then if okT u y then if ¬ x = y then (.inl (some (.int (wedV u (hmI u (ix x)) (hmI u (ix y))))), u) else (.inr iae, u) else (.inr ioob, u) else (.inr ioob, u)
def couV (u : Sto) (w z : Int32) : Int32 := if z = 0 then (mrF (fun r => dfF (lvT u 3) 10 0 w r) 168).1 else (mrF (fun r => dfF (lvT u 3) 10 0 w r) 168).2
def sooV (u : Sto) (x y : Int32) : Int32 := frs (fun k => decide (¬ bitJ (kbF u (ix (u 3 10)) (oneJ x) k) y = 0)) nI 337 0
def sooR (u : Sto) (x y : Int32) : Res × Sto := if okT u x then if okT u y then (.inl (some (.int (sooV u (hmI u (ix x)) (hmI u (ix y))))), u) else (.inr ioob, u) else (.inr ioob, u)
def heaR (u : Sto) (T : Nat) (x n : Int32) : Res × Sto := if okT u x then if okN n (nI 0) (nI 336) then (.inl (some (.int (wcF u (kbF u (ix (u 3 10)) (oneJ (hmI u (ix x))) (ix n)) T))), u) else (.inr iae, u) else (.inr ioob, u)
def rfrR (u : Sto) (x n z : Int32) : Res × Sto := if okT u x then if okN n (nI 1) (nI 24) then (.inl (some (.int (fevV u (ix x) (ix n) z))), u) else (.inr iae, u) else (.inr ioob, u)
def chgV (u : Sto) (T b N : Nat) (x : Int32) : Int32 := if x = -1 then (mrF (fun t => lrI u (nI t) b N) T).2 else lrI u (hmI u (ix x)) b N
def chgR (u : Sto) (T : Nat) (b n x : Int32) : Res × Sto := if okR b then if x = -1 ∨ okT u x then if okN n (nI 1) (nI 12) then (.inl (some (.int (chgV u T (ix b) (ix n) x))), u) else (.inr iae, u) else (.inr ioob, u) else (.inr ioob, u)
set_option maxHeartbeats 1000000 in
theorem c_X10_neighbours {E : EE} (T : Nat) (hT9 : T ≤ 10) (x y z : Int32) (u : Sto) (hw : WI u) (hT : u 10 8 = nI T) : CtP E 9 1 yX10_neighbours cX10_neighbours 4 (some .int) [.ref (E.ad 0), .int x, .int y, .int z] u (PSp (nbrR u x y z)) := by
  refine ctp_of (by decide) (Nat.le_of_ble_eq_true rfl) (fun X h hR hrt htab hargs => ?_)
  refine g_aload_n h dX10_neighbours_0 rfl rfl ?_
  refine g_iload_n h dX10_neighbours_1 rfl rfl ?_
  refine g_nT h dX10_neighbours_2 hR (by decide) (by omega) ⟨hT9, hT⟩ (fun hc2 => ?_) (fun hc2 => ?_)
  · exact psp (by rw [nbrR, if_neg hc2]) (sim.refl _)
  obtain ⟨a, haT, ha, ea, rfl⟩ := okT_n hT9 hT hc2
  refine g_aload_n h dX10_neighbours_5 rfl rfl ?_
  refine g_iload_n h dX10_neighbours_6 rfl rfl ?_
  refine g_nT h dX10_neighbours_7 hR (by decide) (by omega) ⟨hT9, hT⟩ (fun hc7 => ?_) (fun hc7 => ?_)
  · exact psp (by rw [nbrR, if_pos hc2, ea, if_neg hc7]) (sim.refl _)
  obtain ⟨b, hbT, hb, eb, rfl⟩ := okT_n hT9 hT hc7
  refine g_aload_n h dX10_neighbours_10 rfl rfl ?_
  refine g_getR h fl_X10_63_9 sh_0 (by decide) rfl dX10_neighbours_11 ?_
  refine g_aload_n h dX10_neighbours_14 rfl rfl ?_
  refine g_getR h fl_X10_20_9 sh_0 (by decide) rfl dX10_neighbours_15 ?_
  refine g_iload_n h dX10_neighbours_18 rfl rfl ?_
  refine g_V h lv_X10_161_X9 sh_2 (by decide) rfl (c_X9_homeOf a ha _) (fitR hR (by decide) (by decide) (by omega)) rfl rfl (Nat.le_of_ble_eq_true rfl) dX10_neighbours_19 ?_
  refine g_aload_n h dX10_neighbours_22 rfl rfl ?_
  refine g_getR h fl_X10_20_9 sh_0 (by decide) rfl dX10_neighbours_23 ?_
  refine g_iload_n h dX10_neighbours_26 rfl rfl ?_
  refine g_V h lv_X10_161_X9 sh_2 (by decide) rfl (c_X9_homeOf b hb _) (fitR hR (by decide) (by decide) (by omega)) rfl rfl (Nat.le_of_ble_eq_true rfl) dX10_neighbours_27 ?_
  refine g_iload_n h dX10_neighbours_30 rfl rfl ?_
  refine g_V h lv_X10_269_X5 sh_162 (by decide) rfl (c_X5_sideBySide _ _ _ _) (fitR hR (by decide) (by decide) (by omega)) rfl rfl (Nat.le_of_ble_eq_true rfl) dX10_neighbours_31 ?_
  exact g_iretP h hrt dX10_neighbours_34 (by omega) (psp (by rw [nbrR, if_pos hc2, ea, if_pos hc7, eb]) (sim.refl _))
set_option maxHeartbeats 1000000 in
theorem c_X10_run {E : EE} (T : Nat) (hT9 : T ≤ 10) (x z : Int32) (u : Sto) (hw : WI u) (hT : u 10 8 = nI T) : CtP E 9 1 yX10_run cX10_run 3 (some .int) [.ref (E.ad 0), .int x, .int z] u (PSp (runR u x z)) := by
  refine ctp_of (by decide) (Nat.le_of_ble_eq_true rfl) (fun X h hR hrt htab hargs => ?_)
  refine g_aload_n h dX10_run_0 rfl rfl ?_
  refine g_iload_n h dX10_run_1 rfl rfl ?_
  refine g_nT h dX10_run_2 hR (by decide) (by omega) ⟨hT9, hT⟩ (fun hc2 => ?_) (fun hc2 => ?_)
  · exact psp (by rw [runR, if_neg hc2]) (sim.refl _)
  obtain ⟨a, haT, ha, ea, rfl⟩ := okT_n hT9 hT hc2
  refine g_aload_n h dX10_run_5 rfl rfl ?_
  refine g_getR h fl_X10_63_9 sh_0 (by decide) rfl dX10_run_6 ?_
  refine g_aload_n h dX10_run_9 rfl rfl ?_
  refine g_getR h fl_X10_20_9 sh_0 (by decide) rfl dX10_run_10 ?_
  refine g_iload_n h dX10_run_13 rfl rfl ?_
  refine g_V h lv_X10_161_X9 sh_2 (by decide) rfl (c_X9_homeOf a ha _) (fitR hR (by decide) (by decide) (by omega)) rfl rfl (Nat.le_of_ble_eq_true rfl) dX10_run_14 ?_
  refine g_iload_n h dX10_run_17 rfl rfl ?_
  refine g_V h lv_X10_273_X5 sh_162 (by decide) rfl (c_X5_longestRow _ _ _) (fitR hR (by decide) (by decide) (by omega)) rfl rfl (Nat.le_of_ble_eq_true rfl) dX10_run_18 ?_
  exact g_iretP h hrt dX10_run_21 (by omega) (psp (by rw [runR, if_pos hc2, ea, lrwV]) (sim.refl _))
set_option maxHeartbeats 1000000 in
theorem c_X10_empty {E : EE} (z : Int32) (u : Sto) : Ct E 3 0 yX10_empty cX10_empty 2 (some .int) [.ref (E.ad 0), .int z] u (.inl (some (.int (lrwV u (-1) z)))) (u) := by
  refine ct_of (by decide) (Nat.le_of_ble_eq_true rfl) (fun X h hR hrt htab hargs hini => ?_)
  refine g_aload_n h dX10_empty_0 rfl rfl ?_
  refine g_getR h fl_X10_63_9 sh_0 (by decide) rfl dX10_empty_1 ?_
  refine g_iconst (v := -1) h dX10_empty_4 (by decide) ?_
  refine g_iload_n h dX10_empty_5 rfl rfl ?_
  refine g_V h lv_X10_273_X5 sh_162 (by decide) rfl (c_X5_longestRow _ _ _) (fitR hR (by decide) (by decide) (by omega)) rfl rfl (Nat.le_of_ble_eq_true rfl) dX10_empty_6 ?_
  exact g_iret h hrt dX10_empty_9 (by omega) (by rfl) rfl
set_option maxHeartbeats 1000000 in
theorem c_X10_wedding {E : EE} (T : Nat) (hT9 : T ≤ 10) (nw : Nat) (hn : nw < 168) (x y : Int32) (u : Sto) (hw : WI u) (hT : u 10 8 = nI T) (hnw : u 3 10 = nI nw) : CtP E 9 1 yX10_wedding cX10_wedding 3 (some .int) [.ref (E.ad 0), .int x, .int y] u (PSp (wedR u x y)) := by
  have en : ix (u 3 10) = nw := by rw [hnw]; exact ix_nI (by omega)
  refine ctp_of (by decide) (Nat.le_of_ble_eq_true rfl) (fun X h hR hrt htab hargs => ?_)
  refine g_aload_n h dX10_wedding_0 rfl rfl ?_
  refine g_iload_n h dX10_wedding_1 rfl rfl ?_
  refine g_nT h dX10_wedding_2 hR (by decide) (by omega) ⟨hT9, hT⟩ (fun hc2 => ?_) (fun hc2 => ?_)
  · exact psp (by rw [wedR, if_neg hc2]) (sim.refl _)
  obtain ⟨a, haT, ha, ea, rfl⟩ := okT_n hT9 hT hc2
  refine g_aload_n h dX10_wedding_5 rfl rfl ?_
  refine g_iload_n h dX10_wedding_6 rfl rfl ?_
  refine g_nT h dX10_wedding_7 hR (by decide) (by omega) ⟨hT9, hT⟩ (fun hc7 => ?_) (fun hc7 => ?_)
  · exact psp (by rw [wedR, if_pos hc2, ea, if_neg hc7]) (sim.refl _)
  obtain ⟨b, hbT, hb, eb, rfl⟩ := okT_n hT9 hT hc7
  refine g_iload_n h dX10_wedding_10 rfl rfl ?_
  refine g_iload_n h dX10_wedding_11 rfl rfl ?_
  refine g_nW h dX10_wedding_12 hR (by decide) (by omega) (fun hc12 => ?_) (fun hc12 => ?_)
  · exact psp (by rw [wedR, if_pos hc2, ea, if_pos hc7, eb, if_neg hc12]) (sim.refl _)
  refine g_aload_n h dX10_wedding_15 rfl rfl ?_
  refine g_getR h fl_X10_63_9 sh_0 (by decide) rfl dX10_wedding_16 ?_
  refine g_aload_n h dX10_wedding_19 rfl rfl ?_
  refine g_getR h fl_X10_20_9 sh_0 (by decide) rfl dX10_wedding_20 ?_
  refine g_iload_n h dX10_wedding_23 rfl rfl ?_
  refine g_V h lv_X10_161_X9 sh_2 (by decide) rfl (c_X9_homeOf a ha _) (fitR hR (by decide) (by decide) (by omega)) rfl rfl (Nat.le_of_ble_eq_true rfl) dX10_wedding_24 ?_
  refine g_aload_n h dX10_wedding_27 rfl rfl ?_
  refine g_getR h fl_X10_20_9 sh_0 (by decide) rfl dX10_wedding_28 ?_
  refine g_iload_n h dX10_wedding_31 rfl rfl ?_
  refine g_V h lv_X10_161_X9 sh_2 (by decide) rfl (c_X9_homeOf b hb _) (fitR hR (by decide) (by decide) (by omega)) rfl rfl (Nat.le_of_ble_eq_true rfl) dX10_wedding_32 ?_
  refine g_V h lv_X10_277_X5 sh_162 (by decide) rfl (c_X5_firstMeeting _ _ nw hn _ hnw) (fitR hR (by decide) (by decide) (by omega)) rfl rfl (Nat.le_of_ble_eq_true rfl) dX10_wedding_35 ?_
  exact g_iretP h hrt dX10_wedding_38 (by omega) (psp (by rw [wedR, if_pos hc2, ea, if_pos hc7, eb, if_pos hc12, wedV, en]) (sim.refl _))
set_option maxHeartbeats 1000000 in
theorem c_X10_court {E : EE} (T : Nat) (hT9 : T ≤ 10) (x z : Int32) (u : Sto) (hT : u 10 8 = nI T) : Ct E 4 0 yX10_court cX10_court 3 (some .int) [.ref (E.ad 0), .int x, .int z] u (.inl (some (.int (couV u (guI u x T) z)))) (u) := by
  refine ct_of (by decide) (Nat.le_of_ble_eq_true rfl) (fun X h hR hrt htab hargs hini => ?_)
  refine g_aload_n h dX10_court_0 rfl rfl ?_
  refine g_getR h fl_X10_63_9 sh_0 (by decide) rfl dX10_court_1 ?_
  refine g_aload_n h dX10_court_4 rfl rfl ?_
  refine g_getR h fl_X10_20_9 sh_0 (by decide) rfl dX10_court_5 ?_
  refine g_iload_n h dX10_court_8 rfl rfl ?_
  refine g_V h lv_X10_280_X9 sh_2 (by decide) rfl (c_X9_grownUps T hT9 _ _ hT) (fitR hR (by decide) (by decide) (by omega)) rfl rfl (Nat.le_of_ble_eq_true rfl) dX10_court_9 ?_
  refine g_iload_n h dX10_court_12 rfl rfl ?_
  refine g_V h lv_X10_283_X5 sh_162 (by decide) rfl (c_X5_rowOfDifferent _ _ _) (fitR hR (by decide) (by decide) (by omega)) rfl rfl (Nat.le_of_ble_eq_true rfl) dX10_court_13 ?_
  exact g_iret h hrt dX10_court_16 (by omega) (by rfl) rfl
set_option maxHeartbeats 1000000 in
theorem c_X10_soonest {E : EE} (T : Nat) (hT9 : T ≤ 10) (nw : Nat) (hn : nw < 168) (x y : Int32) (u : Sto) (hw : WI u) (hT : u 10 8 = nI T) (hnw : u 3 10 = nI nw) : CtP E 9 1 yX10_soonest cX10_soonest 3 (some .int) [.ref (E.ad 0), .int x, .int y] u (PSp (sooR u x y)) := by
  have en : ix (u 3 10) = nw := by rw [hnw]; exact ix_nI (by omega)
  refine ctp_of (by decide) (Nat.le_of_ble_eq_true rfl) (fun X h hR hrt htab hargs => ?_)
  refine g_aload_n h dX10_soonest_0 rfl rfl ?_
  refine g_iload_n h dX10_soonest_1 rfl rfl ?_
  refine g_nT h dX10_soonest_2 hR (by decide) (by omega) ⟨hT9, hT⟩ (fun hc2 => ?_) (fun hc2 => ?_)
  · exact psp (by rw [sooR, if_neg hc2]) (sim.refl _)
  obtain ⟨a, haT, ha, ea, rfl⟩ := okT_n hT9 hT hc2
  refine g_aload_n h dX10_soonest_5 rfl rfl ?_
  refine g_iload_n h dX10_soonest_6 rfl rfl ?_
  refine g_nT h dX10_soonest_7 hR (by decide) (by omega) ⟨hT9, hT⟩ (fun hc7 => ?_) (fun hc7 => ?_)
  · exact psp (by rw [sooR, if_pos hc2, ea, if_neg hc7]) (sim.refl _)
  obtain ⟨b, hbT, hb, eb, rfl⟩ := okT_n hT9 hT hc7
  refine g_aload_n h dX10_soonest_10 rfl rfl ?_
  refine g_getR h fl_X10_63_9 sh_0 (by decide) rfl dX10_soonest_11 ?_
  refine g_aload_n h dX10_soonest_14 rfl rfl ?_
  refine g_getR h fl_X10_20_9 sh_0 (by decide) rfl dX10_soonest_15 ?_
  refine g_iload_n h dX10_soonest_18 rfl rfl ?_
  refine g_V h lv_X10_161_X9 sh_2 (by decide) rfl (c_X9_homeOf a ha _) (fitR hR (by decide) (by decide) (by omega)) rfl rfl (Nat.le_of_ble_eq_true rfl) dX10_soonest_19 ?_
  refine g_aload_n h dX10_soonest_22 rfl rfl ?_
  refine g_getR h fl_X10_20_9 sh_0 (by decide) rfl dX10_soonest_23 ?_
  refine g_iload_n h dX10_soonest_26 rfl rfl ?_
  refine g_V h lv_X10_161_X9 sh_2 (by decide) rfl (c_X9_homeOf b hb _) (fitR hR (by decide) (by decide) (by omega)) rfl rfl (Nat.le_of_ble_eq_true rfl) dX10_soonest_27 ?_
  refine g_V h lv_X10_321_X5 sh_162 (by decide) rfl (c_X5_ticksToHear _ _ nw hn _ hnw) (fitR hR (by decide) (by decide) (by omega)) rfl rfl (Nat.le_of_ble_eq_true rfl) dX10_soonest_30 ?_
  exact g_iretP h hrt dX10_soonest_33 (by omega) (psp (by rw [sooR, if_pos hc2, ea, if_pos hc7, eb, sooV, en]) (sim.refl _))
set_option maxHeartbeats 1000000 in
theorem c_X10_heard {E : EE} (T : Nat) (hT9 : T ≤ 10) (nw : Nat) (hn : nw < 168) (x n : Int32) (u : Sto) (hw : WI u) (hT : u 10 8 = nI T) (hnw : u 3 10 = nI nw) : CtP E 9 1 yX10_heard cX10_heard 3 (some .int) [.ref (E.ad 0), .int x, .int n] u (PSp (heaR u T x n)) := by
  have en : ix (u 3 10) = nw := by rw [hnw]; exact ix_nI (by omega)
  refine ctp_of (by decide) (Nat.le_of_ble_eq_true rfl) (fun X h hR hrt htab hargs => ?_)
  refine g_aload_n h dX10_heard_0 rfl rfl ?_
  refine g_iload_n h dX10_heard_1 rfl rfl ?_
  refine g_nT h dX10_heard_2 hR (by decide) (by omega) ⟨hT9, hT⟩ (fun hc2 => ?_) (fun hc2 => ?_)
  · exact psp (by rw [heaR, if_neg hc2]) (sim.refl _)
  obtain ⟨a, haT, ha, ea, rfl⟩ := okT_n hT9 hT hc2
  refine g_iload_n h dX10_heard_5 rfl rfl ?_
  refine g_iconst (v := nI 0) h dX10_heard_6 (by decide) ?_
  refine g_sipush (v := nI 336) h dX10_heard_7 (by decide) ?_
  refine g_nN h dX10_heard_10 hR (by decide) (by omega) (fun hc10 => ?_) (fun hc10 => ?_)
  · exact psp (by rw [heaR, if_pos hc2, ea, if_neg hc10]) (sim.refl _)
  obtain ⟨N, hN1, hN, eN, rfl⟩ := okN_k (by decide) hc10
  refine g_aload_n h dX10_heard_13 rfl rfl ?_
  refine g_getR h fl_X10_63_9 sh_0 (by decide) rfl dX10_heard_14 ?_
  refine g_aload_n h dX10_heard_17 rfl rfl ?_
  refine g_getR h fl_X10_20_9 sh_0 (by decide) rfl dX10_heard_18 ?_
  refine g_iload_n h dX10_heard_21 rfl rfl ?_
  refine g_V h lv_X10_161_X9 sh_2 (by decide) rfl (c_X9_homeOf a ha _) (fitR hR (by decide) (by decide) (by omega)) rfl rfl (Nat.le_of_ble_eq_true rfl) dX10_heard_22 ?_
  refine g_iload_n h dX10_heard_25 rfl rfl ?_
  refine g_V h lv_X10_324_X5 sh_162 (by decide) rfl (c_X5_knowBehind T hT9 _ N hN nw hn _ hT hnw) (fitR hR (by decide) (by decide) (by omega)) rfl rfl (Nat.le_of_ble_eq_true rfl) dX10_heard_26 ?_
  exact g_iretP h hrt dX10_heard_29 (by omega) (psp (by rw [heaR, if_pos hc2, ea, if_pos hc10, eN, en]) (sim.refl _))
set_option maxHeartbeats 1000000 in
theorem c_X10_roomsFor {E : EE} (T : Nat) (hT9 : T ≤ 10) (x n z : Int32) (u : Sto) (hw : WI u) (hT : u 10 8 = nI T) : CtP E 9 1 yX10_roomsFor cX10_roomsFor 4 (some .int) [.ref (E.ad 0), .int x, .int n, .int z] u (PSp (rfrR u x n z)) := by
  refine ctp_of (by decide) (Nat.le_of_ble_eq_true rfl) (fun X h hR hrt htab hargs => ?_)
  refine g_aload_n h dX10_roomsFor_0 rfl rfl ?_
  refine g_iload_n h dX10_roomsFor_1 rfl rfl ?_
  refine g_nT h dX10_roomsFor_2 hR (by decide) (by omega) ⟨hT9, hT⟩ (fun hc2 => ?_) (fun hc2 => ?_)
  · exact psp (by rw [rfrR, if_neg hc2]) (sim.refl _)
  obtain ⟨a, haT, ha, ea, rfl⟩ := okT_n hT9 hT hc2
  refine g_iload_n h dX10_roomsFor_5 rfl rfl ?_
  refine g_iconst (v := nI 1) h dX10_roomsFor_6 (by decide) ?_
  refine g_bipush (v := nI 24) h dX10_roomsFor_7 (by decide) ?_
  refine g_nN h dX10_roomsFor_9 hR (by decide) (by omega) (fun hc9 => ?_) (fun hc9 => ?_)
  · exact psp (by rw [rfrR, if_pos hc2, ea, if_neg hc9]) (sim.refl _)
  obtain ⟨N, hN1, hN, eN, rfl⟩ := okN_k (by decide) hc9
  refine g_aload_n h dX10_roomsFor_12 rfl rfl ?_
  refine g_getR h fl_X10_63_9 sh_0 (by decide) rfl dX10_roomsFor_13 ?_
  refine g_iload_n h dX10_roomsFor_16 rfl rfl ?_
  refine g_iload_n h dX10_roomsFor_17 rfl rfl ?_
  refine g_iload_n h dX10_roomsFor_18 rfl rfl ?_
  refine g_VP h lv_X10_327_X5 sh_162 (by decide) rfl (c_X5_fewestEvictions a ha N hN _ _ hw.1) ps_nx (fitR hR (by decide) (by decide) (by omega)) rfl rfl (Nat.le_of_ble_eq_true rfl) dX10_roomsFor_19 (fun v19 u19 hs19 => ?_)
  obtain ⟨hv19, hs19⟩ := hs19
  cases hv19
  exact g_iretP h hrt dX10_roomsFor_22 (by omega) (psp (by rw [rfrR, if_pos hc2, ea, if_pos hc9, eN]) hs19)
set_option maxHeartbeats 1000000 in
theorem c_X10_changed {E : EE} (T : Nat) (hT9 : T ≤ 10) (b n x : Int32) (u : Sto) (hw : WI u) (hT : u 10 8 = nI T) : CtP E 9 1 yX10_changed cX10_changed 4 (some .int) [.ref (E.ad 0), .int b, .int n, .int x] u (PSp (chgR u T b n x)) := by
  refine ctp_of (by decide) (Nat.le_of_ble_eq_true rfl) (fun X h hR hrt htab hargs => ?_)
  refine g_iload_n h dX10_changed_0 rfl rfl ?_
  refine g_nR h dX10_changed_1 hR (by decide) (by omega) (fun hc1 => ?_) (fun hc1 => ?_)
  · exact psp (by rw [chgR, if_neg hc1]) (sim.refl _)
  obtain ⟨r, hr, er, rfl⟩ := okR_n hc1
  refine g_iload_n h dX10_changed_4 rfl rfl ?_
  refine g_iconst (v := -1) h dX10_changed_5 (by decide) ?_
  refine g_icmp_eq (tgt := 14) h dX10_changed_6 (by decide) (fun c6 => ?_) (fun c6 => ?_)
  · have hz : x = -1 ∨ okT u x := Or.inl c6
    refine g_iload_n h dX10_changed_14 rfl rfl ?_
    refine g_iconst (v := nI 1) h dX10_changed_15 (by decide) ?_
    refine g_bipush (v := nI 12) h dX10_changed_16 (by decide) ?_
    refine g_nN h dX10_changed_18 hR (by decide) (by omega) (fun hc18 => ?_) (fun hc18 => ?_)
    · exact psp (by rw [chgR, if_pos hc1, er, if_pos hz, if_neg hc18]) (sim.refl _)
    obtain ⟨N, hN1, hN, eN, rfl⟩ := okN_k (by decide) hc18
    refine g_iload_n h dX10_changed_21 rfl rfl ?_
    refine g_iconst (v := -1) h dX10_changed_22 (by decide) ?_
    refine g_icmp_eq (tgt := 44) h dX10_changed_23 (by decide) (fun c23 => ?_) (fun c23 => ?_)
    · have hx := c23
      refine g_aload_n h dX10_changed_44 rfl rfl ?_
      refine g_getR h fl_X10_63_9 sh_0 (by decide) rfl dX10_changed_45 ?_
      refine g_iload_n h dX10_changed_48 rfl rfl ?_
      refine g_iload_n h dX10_changed_49 rfl rfl ?_
      refine g_V h lv_X10_346_X5 sh_162 (by decide) rfl (c_X5_mostInRow T hT9 r hr N hN _ hT) (fitR hR (by decide) (by decide) (by omega)) rfl rfl (Nat.le_of_ble_eq_true rfl) dX10_changed_50 ?_
      exact g_iretP h hrt dX10_changed_53 (by omega) (psp (by rw [chgR, if_pos hc1, er, if_pos hz, if_pos hc18, eN, chgV, if_pos c23]) (sim.refl _))
    · exact absurd c6 c23
  · have hy : ¬ x = -1 := c6
    refine g_aload_n h dX10_changed_9 rfl rfl ?_
    refine g_iload_n h dX10_changed_10 rfl rfl ?_
    refine g_nT h dX10_changed_11 hR (by decide) (by omega) ⟨hT9, hT⟩ (fun hc11 => ?_) (fun hc11 => ?_)
    · exact psp (by rw [chgR, if_pos hc1, er, if_neg (fun q => by rcases q with q | q; exact hy q; exact hc11 q)]) (sim.refl _)
    have hz : x = -1 ∨ okT u x := Or.inr hc11
    obtain ⟨a, haT, ha, ea, rfl⟩ := okT_n hT9 hT hc11
    refine g_iload_n h dX10_changed_14 rfl rfl ?_
    refine g_iconst (v := nI 1) h dX10_changed_15 (by decide) ?_
    refine g_bipush (v := nI 12) h dX10_changed_16 (by decide) ?_
    refine g_nN h dX10_changed_18 hR (by decide) (by omega) (fun hc18 => ?_) (fun hc18 => ?_)
    · exact psp (by rw [chgR, if_pos hc1, er, if_pos hz, if_neg hc18]) (sim.refl _)
    obtain ⟨N, hN1, hN, eN, rfl⟩ := okN_k (by decide) hc18
    refine g_iload_n h dX10_changed_21 rfl rfl ?_
    refine g_iconst (v := -1) h dX10_changed_22 (by decide) ?_
    refine g_icmp_eq (tgt := 44) h dX10_changed_23 (by decide) (fun c23 => ?_) (fun c23 => ?_)
    · have hx := c23
      refine g_aload_n h dX10_changed_44 rfl rfl ?_
      refine g_getR h fl_X10_63_9 sh_0 (by decide) rfl dX10_changed_45 ?_
      refine g_iload_n h dX10_changed_48 rfl rfl ?_
      refine g_iload_n h dX10_changed_49 rfl rfl ?_
      refine g_V h lv_X10_346_X5 sh_162 (by decide) rfl (c_X5_mostInRow T hT9 r hr N hN _ hT) (fitR hR (by decide) (by decide) (by omega)) rfl rfl (Nat.le_of_ble_eq_true rfl) dX10_changed_50 ?_
      exact g_iretP h hrt dX10_changed_53 (by omega) (psp (by rw [chgR, if_pos hc1, er, if_pos hz, if_pos hc18, eN, chgV, if_pos c23]) (sim.refl _))
    · have hx := c23
      refine g_aload_n h dX10_changed_26 rfl rfl ?_
      refine g_getR h fl_X10_63_9 sh_0 (by decide) rfl dX10_changed_27 ?_
      refine g_aload_n h dX10_changed_30 rfl rfl ?_
      refine g_getR h fl_X10_20_9 sh_0 (by decide) rfl dX10_changed_31 ?_
      refine g_iload_n h dX10_changed_34 rfl rfl ?_
      refine g_V h lv_X10_161_X9 sh_2 (by decide) rfl (c_X9_homeOf a ha _) (fitR hR (by decide) (by decide) (by omega)) rfl rfl (Nat.le_of_ble_eq_true rfl) dX10_changed_35 ?_
      refine g_iload_n h dX10_changed_38 rfl rfl ?_
      refine g_iload_n h dX10_changed_39 rfl rfl ?_
      refine g_V h lv_X10_343_X5 sh_162 (by decide) rfl (c_X5_livedInRow _ r hr N hN _) (fitR hR (by decide) (by decide) (by omega)) rfl rfl (Nat.le_of_ble_eq_true rfl) dX10_changed_40 ?_
      exact g_iretP h hrt dX10_changed_43 (by omega) (psp (by rw [chgR, if_pos hc1, er, if_pos hz, if_pos hc18, eN, chgV, if_neg c23, ea]) (sim.refl _))
