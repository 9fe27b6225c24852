-- after: 38.r 39.s 40.t 41.u 42.v
/-- all sets of n that meet w change by b -/
def spF (f : Nat → Int32) (w b : Int32) (n : Nat) : Nat → Int32 := fun s => if s < n ∧ ¬ (nI s &&& w) = 0 then f s + b else f s
theorem sp_0 (f : Nat → Int32) (w b : Int32) : spF f w b 0 = f := funext fun s => if_neg (by omega)
theorem sp_n {f : Nat → Int32} {w b : Int32} {n : Nat} (h : (nI n &&& w) = 0) : spF f w b (n + 1) = spF f w b n := by
  funext s
  unfold spF
  by_cases e : s = n
  · subst e; rw [if_neg (fun q => q.2 h), if_neg (by omega)]
  · by_cases q : s < n ∧ ¬ (nI s &&& w) = 0
    · rw [if_pos q, if_pos ⟨by omega, q.2⟩]
    · rw [if_neg q, if_neg (fun z => q ⟨by omega, z.2⟩)]
theorem sp_s {f : Nat → Int32} {w b : Int32} {n : Nat} (h : ¬ (nI n &&& w) = 0) : spF f w b (n + 1) = upd (spF f w b n) n (spF f w b n n + b) := by
  funext s
  by_cases e : s = n
  · subst e; rw [pk_us]; unfold spF; rw [if_pos ⟨by omega, h⟩, if_neg (by omega)]
  · rw [pk_un e]
    unfold spF
    by_cases q : s < n ∧ ¬ (nI s &&& w) = 0
    · rw [if_pos q, if_pos ⟨by omega, q.2⟩]
    · rw [if_neg q, if_neg (fun z => q ⟨by omega, z.2⟩)]
theorem sp_z (f : Nat → Int32) (b : Int32) (n : Nat) : spF f 0 b n = f := funext fun s => if_neg (fun q => q.2 (by simp))
set_option maxHeartbeats 1000000 in
theorem c_X1_change {E : EE} (n : Nat) (hn9 : n ≤ 256) (w b : Int32) (u : Sto) (hn : u 173 5 = nI n) : Ct E 1 0 yX1_change cX1_change 4 none [.ref (E.ad 173), .int w, .int b] u (.inl none) (sc u 177 (spF (u 177) w b n)) := by
  refine ct_of (by decide) (Nat.le_of_ble_eq_true rfl) (fun X h hR hrt htab hargs hini => ?_)
  refine g_iload_n h dX1_change_0 rfl rfl ?_
  refine g_if_ne (tgt := 5) h dX1_change_1 (by decide) (fun c1 => ?_) (fun c1 => ?_)
  · refine g_iconst (v := nI 0) h dX1_change_5 (by decide) ?_
    refine g_istore_n (ls' := [(0, _), (1, _), (2, _), (3, _)]) h dX1_change_6 rfl (by decide) rfl rfl ?_
    have LP : ∀ j k : Nat, n < k + j → k ≤ n → G E X (QM E X (.inl none) (sc u 177 (spF (u 177) w b n)) 0) 4 0 7 [(0, .ref (E.ad 173)), (1, .int w), (2, .int b), (3, .int (nI k))] [] (sc u 177 (spF (u 177) w b k)) := by
      intro j
      induction j with
      | zero => intro k h1 h2; omega
      | succ j ih =>
        intro k h1 h2
        refine g_iload_n h dX1_change_7 rfl rfl ?_
        refine g_aload_n h dX1_change_8 rfl rfl ?_
        refine g_getI h fl_X1_55_1 sh_173 (by decide) rfl dX1_change_9 ?_
        refine g_top (y := nI n) (by rw [sc_c (by decide)]; exact hn) ?_
        refine g_icmp_ge (tgt := 37) h dX1_change_12 (by decide) (fun c12 => ?_) (fun c12 => ?_)
        · have n12 := le_n (by omega) (by omega) (show nI (n) ≤ nI (k) from c12)
          obtain rfl : k = n := by omega
          exact g_vret h hrt dX1_change_37 (by omega) rfl rfl
        · have n12 := nle_n (by omega) (by omega) (show ¬ nI (n) ≤ nI (k) from c12)
          refine g_iload_n h dX1_change_15 rfl rfl ?_
          refine g_iload_n h dX1_change_16 rfl rfl ?_
          refine g_iand h dX1_change_17 ?_
          refine g_if_eq (tgt := 31) h dX1_change_18 (by decide) (fun c18 => ?_) (fun c18 => ?_)
          · refine g_iinc (v := nI (k + 1)) (ls' := [(0, _), (1, _), (2, _), (3, _)]) h dX1_change_31 rfl (nI_1 k) (by decide) rfl rfl ?_
            refine g_goto (tgt := 7) h dX1_change_34 (by decide) ?_
            exact g_cv rfl (by rw [sp_n c18]) (ih (k + 1) (by omega) (by omega))
          · refine g_aload_n h dX1_change_21 rfl rfl ?_
            refine g_getR h fl_X1_21_1 sh_173 (by decide) rfl dX1_change_22 ?_
            refine g_iload_n h dX1_change_25 rfl rfl ?_
            refine g_dup2 h dX1_change_26 rfl rfl ?_
            refine g_iald h _ _ _ sh_177 (by decide) (by decide) rfl (by omega) dX1_change_27 ?_
            refine g_top (y := spF (u 177) w b k k) (by rw [sc_at]) ?_
            refine g_iload_n h dX1_change_28 rfl rfl ?_
            refine g_iadd h dX1_change_29 ?_
            refine g_iast h _ _ _ sh_177 (by decide) (by decide) rfl (by omega) dX1_change_30 ?_
            refine g_iinc (v := nI (k + 1)) (ls' := [(0, _), (1, _), (2, _), (3, _)]) h dX1_change_31 rfl (nI_1 k) (by decide) rfl rfl ?_
            refine g_goto (tgt := 7) h dX1_change_34 (by decide) ?_
            exact g_cv rfl (by rw [su_sc, sp_s c18]) (ih (k + 1) (by omega) (by omega))
    exact g_cv rfl (by rw [sp_0, sc_self]) (LP (n + 1) 0 (by omega) (by omega))
    
  · subst c1
    exact g_vret h hrt dX1_change_4 (by omega) rfl (by rw [sp_z, sc_self])
def lsF (f : Nat → Int32) : Nat → Int32
  | 0 => nI 0
  | k + 1 => mnI (lsF f k) (f k)
def opF (f : Nat → Int32) (w l : Int32) : Nat → Int32
  | 0 => w
  | k + 1 => if f k = l ∧ ¬ (nI k &&& w) = 0 then opF f w l k &&& nI k else opF f w l k
def fwI (f g : Nat → Int32) (w l : Int32) (n : Nat) : Int32 := frs (fun k => decide (¬ bitI (opF f w l n) k = 0 ∧ 0 < g k)) nI 8 0
set_option maxHeartbeats 1000000 in
theorem c_X1_leastSpare {E : EE} (n : Nat) (hn9 : n ≤ 256) (u : Sto) (hn : u 173 5 = nI n) : Ct E 2 0 yX1_leastSpare cX1_leastSpare 3 (some .int) [.ref (E.ad 173)] u (.inl (some (.int (lsF (u 177) n)))) (u) := by
  refine ct_of (by decide) (Nat.le_of_ble_eq_true rfl) (fun X h hR hrt htab hargs hini => ?_)
  have LP : ∀ j k : Nat, n < k + j → k ≤ n → G E X (QM E X (.inl (some (.int (lsF (u 177) n)))) (u) 0) 3 0 4 [(0, .ref (E.ad 173)), (1, .int (lsF (u 177) k)), (2, .int (nI k))] [] (u) := by
    intro j
    induction j with
    | zero => intro k h1 h2; omega
    | succ j ih =>
      intro k h1 h2
      refine g_iload_n h dX1_leastSpare_4 rfl rfl ?_
      refine g_aload_n h dX1_leastSpare_5 rfl rfl ?_
      refine g_getI h fl_X1_55_1 sh_173 (by decide) rfl dX1_leastSpare_6 ?_
      refine g_top hn ?_
      refine g_icmp_ge (tgt := 29) h dX1_leastSpare_9 (by decide) (fun c9 => ?_) (fun c9 => ?_)
      · have n9 := le_n (by omega) (by omega) (show nI (n) ≤ nI (k) from c9)
        obtain rfl : k = n := by omega
        refine g_iload_n h dX1_leastSpare_29 rfl rfl ?_
        exact g_iret h hrt dX1_leastSpare_30 (by omega) (by rfl) rfl
      · have n9 := nle_n (by omega) (by omega) (show ¬ nI (n) ≤ nI (k) from c9)
        refine g_iload_n h dX1_leastSpare_12 rfl rfl ?_
        refine g_aload_n h dX1_leastSpare_13 rfl rfl ?_
        refine g_getR h fl_X1_21_1 sh_173 (by decide) rfl dX1_leastSpare_14 ?_
        refine g_iload_n h dX1_leastSpare_17 rfl rfl ?_
        refine g_iald h _ _ _ sh_177 (by decide) (by decide) rfl (by omega) dX1_leastSpare_18 ?_
        refine g_S h ls_X1_88 (c_J9_min_7cf53 _ _ _) (fitR hR (by decide) (by decide) (by omega)) rfl rfl (Nat.le_of_ble_eq_true rfl) dX1_leastSpare_19 ?_
        refine g_istore_n (ls' := [(0, _), (1, _), (2, _)]) h dX1_leastSpare_22 rfl (by decide) rfl rfl ?_
        refine g_iinc (v := nI (k + 1)) (ls' := [(0, _), (1, _), (2, _)]) h dX1_leastSpare_23 rfl (nI_1 k) (by decide) rfl rfl ?_
        refine g_goto (tgt := 4) h dX1_leastSpare_26 (by decide) ?_
        exact ih (k + 1) (by omega) (by omega)
  refine g_iconst (v := nI 0) h dX1_leastSpare_0 (by decide) ?_
  refine g_istore_n (ls' := [(0, _), (1, _)]) h dX1_leastSpare_1 rfl (by decide) rfl rfl ?_
  refine g_iconst (v := nI 0) h dX1_leastSpare_2 (by decide) ?_
  refine g_istore_n (ls' := [(0, _), (1, _), (2, _)]) h dX1_leastSpare_3 rfl (by decide) rfl rfl ?_
  exact LP (n + 1) (0) (by omega) (by omega)
set_option maxHeartbeats 1000000 in
theorem c_X1_firstWant {E : EE} (n : Nat) (hn9 : n ≤ 256) (w l : Int32) (u : Sto) (hn : u 173 5 = nI n) : Ct E 1 0 yX1_firstWant cX1_firstWant 5 (some .int) [.ref (E.ad 173), .int w, .int l] u (.inl (some (.int (fwI (u 177) (u 176) w l n)))) (u) := by
  refine ct_of (by decide) (Nat.le_of_ble_eq_true rfl) (fun X h hR hrt htab hargs hini => ?_)
  refine g_iload_n h dX1_firstWant_0 rfl rfl ?_
  refine g_istore_n (ls' := [(0, _), (1, _), (2, _), (3, _)]) h dX1_firstWant_1 rfl (by decide) rfl rfl ?_
  refine g_iconst (v := nI 0) h dX1_firstWant_2 (by decide) ?_
  refine g_istore (ls' := [(0, _), (1, _), (2, _), (3, _), (4, _)]) h dX1_firstWant_3 (by decide) rfl rfl ?_
  have LP : ∀ j k : Nat, n < k + j → k ≤ n → G E X (QM E X (.inl (some (.int (fwI (u 177) (u 176) w l n)))) (u) 0) 5 0 5 [(0, .ref (E.ad 173)), (1, .int w), (2, .int l), (3, .int (opF (u 177) w l k)), (4, .int (nI k))] [] (u) := by
    intro j
    induction j with
    | zero => intro k h1 h2; omega
    | succ j ih =>
      intro k h1 h2
      refine g_iload h dX1_firstWant_5 rfl ?_
      refine g_aload_n h dX1_firstWant_7 rfl rfl ?_
      refine g_getI h fl_X1_55_1 sh_173 (by decide) rfl dX1_firstWant_8 ?_
      refine g_top hn ?_
      refine g_icmp_ge (tgt := 43) h dX1_firstWant_11 (by decide) (fun c11 => ?_) (fun c11 => ?_)
      · have n11 := le_n (by omega) (by omega) (show nI (n) ≤ nI (k) from c11)
        obtain rfl : n = k := by omega
        refine g_iconst (v := nI 0) h dX1_firstWant_43 (by decide) ?_
        refine g_istore (ls' := [(0, _), (1, _), (2, _), (3, _), (4, _)]) h dX1_firstWant_44 (by decide) rfl rfl ?_
        have LP2 : ∀ j k : Nat, frs (fun k => decide (¬ bitI (opF (u 177) w l n) k = 0 ∧ 0 < u 176 k)) nI 8 0 = frs (fun k => decide (¬ bitI (opF (u 177) w l n) k = 0 ∧ 0 < u 176 k)) nI (8 - k) k → 8 < k + j → k ≤ 8 → G E X (QM E X (.inl (some (.int (fwI (u 177) (u 176) w l n)))) (u) 0) 5 0 46 [(0, .ref (E.ad 173)), (1, .int w), (2, .int l), (3, .int (opF (u 177) w l n)), (4, .int (nI k))] [] (u) := by
          intro j
          induction j with
          | zero => intro k hf h1 h2; omega
          | succ j ih =>
            intro k hf h1 h2
            refine g_iload h dX1_firstWant_46 rfl ?_
            refine g_bipush (v := nI 8) h dX1_firstWant_48 (by decide) ?_
            refine g_icmp_ge (tgt := 81) h dX1_firstWant_50 (by decide) (fun c50 => ?_) (fun c50 => ?_)
            · have n50 := le_n (by omega) (by omega) (show nI (8) ≤ nI (k) from c50)
              obtain rfl : k = 8 := by omega
              rw [frs_e] at hf
              refine g_iconst (v := -1) h dX1_firstWant_81 (by decide) ?_
              exact g_iret h hrt dX1_firstWant_82 (by omega) (by rw [fwI, hf]) rfl
            · have n50 := nle_n (by omega) (by omega) (show ¬ nI (8) ≤ nI (k) from c50)
              rw [frs_s (by omega)] at hf
              refine g_iload_n h dX1_firstWant_53 rfl rfl ?_
              refine g_iload h dX1_firstWant_54 rfl ?_
              refine g_iushr h dX1_firstWant_56 ?_
              refine g_iconst (v := nI 1) h dX1_firstWant_57 (by decide) ?_
              refine g_iand h dX1_firstWant_58 ?_
              refine g_if_eq (tgt := 75) h dX1_firstWant_59 (by decide) (fun c59 => ?_) (fun c59 => ?_)
              · have c59 : bitI (opF (u 177) w l n) k = 0 := c59
                rw [if_neg (fun q => (of_decide_eq_true q).1 c59)] at hf
                refine g_iinc (v := nI (k + 1)) (ls' := [(0, _), (1, _), (2, _), (3, _), (4, _)]) h dX1_firstWant_75 rfl (nI_1 k) (by decide) rfl rfl ?_
                refine g_goto (tgt := 46) h dX1_firstWant_78 (by decide) ?_
                exact ih (k + 1) hf (by omega) (by omega)
              · refine g_aload_n h dX1_firstWant_62 rfl rfl ?_
                refine g_getR h fl_X1_18_1 sh_173 (by decide) rfl dX1_firstWant_63 ?_
                refine g_iload h dX1_firstWant_66 rfl ?_
                refine g_iald h _ _ _ sh_176 (by decide) (by decide) rfl (by omega) dX1_firstWant_68 ?_
                refine g_if_le (tgt := 75) h dX1_firstWant_69 (by decide) (fun c69 => ?_) (fun c69 => ?_)
                · rw [if_neg (fun q => absurd (of_decide_eq_true q).2 (Int32.not_lt.mpr c69))] at hf
                  refine g_iinc (v := nI (k + 1)) (ls' := [(0, _), (1, _), (2, _), (3, _), (4, _)]) h dX1_firstWant_75 rfl (nI_1 k) (by decide) rfl rfl ?_
                  refine g_goto (tgt := 46) h dX1_firstWant_78 (by decide) ?_
                  exact ih (k + 1) hf (by omega) (by omega)
                · have c59 : ¬ bitI (opF (u 177) w l n) k = 0 := c59
                  rw [if_pos (decide_eq_true ⟨c59, Int32.not_le.mp c69⟩)] at hf
                  refine g_iload h dX1_firstWant_72 rfl ?_
                  exact g_iret h hrt dX1_firstWant_74 (by omega) (by rw [fwI, hf]) rfl
        exact LP2 (8 + 1) (0) rfl (by omega) (by omega)
        
      · have n11 := nle_n (by omega) (by omega) (show ¬ nI (n) ≤ nI (k) from c11)
        refine g_aload_n h dX1_firstWant_14 rfl rfl ?_
        refine g_getR h fl_X1_21_1 sh_173 (by decide) rfl dX1_firstWant_15 ?_
        refine g_iload h dX1_firstWant_18 rfl ?_
        refine g_iald h _ _ _ sh_177 (by decide) (by decide) rfl (by omega) dX1_firstWant_20 ?_
        refine g_iload_n h dX1_firstWant_21 rfl rfl ?_
        refine g_icmp_ne (tgt := 37) h dX1_firstWant_22 (by decide) (fun c22 => ?_) (fun c22 => ?_)
        · have hz : opF (u 177) w l (k + 1) = opF (u 177) w l k := if_neg (fun q => c22 q.1)
          refine g_iinc (v := nI (k + 1)) (ls' := [(0, _), (1, _), (2, _), (3, _), (4, _)]) h dX1_firstWant_37 rfl (nI_1 k) (by decide) rfl rfl ?_
          refine g_goto (tgt := 5) h dX1_firstWant_40 (by decide) ?_
          exact g_cv (by rw [hz]) rfl (ih (k + 1) (by omega) (by omega))
        · refine g_iload h dX1_firstWant_25 rfl ?_
          refine g_iload_n h dX1_firstWant_27 rfl rfl ?_
          refine g_iand h dX1_firstWant_28 ?_
          refine g_if_eq (tgt := 37) h dX1_firstWant_29 (by decide) (fun c29 => ?_) (fun c29 => ?_)
          · have hz : opF (u 177) w l (k + 1) = opF (u 177) w l k := if_neg (fun q => q.2 c29)
            refine g_iinc (v := nI (k + 1)) (ls' := [(0, _), (1, _), (2, _), (3, _), (4, _)]) h dX1_firstWant_37 rfl (nI_1 k) (by decide) rfl rfl ?_
            refine g_goto (tgt := 5) h dX1_firstWant_40 (by decide) ?_
            exact g_cv (by rw [hz]) rfl (ih (k + 1) (by omega) (by omega))
          · have hz : opF (u 177) w l (k + 1) = opF (u 177) w l k &&& nI k := if_pos ⟨c22, c29⟩
            refine g_iload_n h dX1_firstWant_32 rfl rfl ?_
            refine g_iload h dX1_firstWant_33 rfl ?_
            refine g_iand h dX1_firstWant_35 ?_
            refine g_istore_n (ls' := [(0, _), (1, _), (2, _), (3, _), (4, _)]) h dX1_firstWant_36 rfl (by decide) rfl rfl ?_
            refine g_iinc (v := nI (k + 1)) (ls' := [(0, _), (1, _), (2, _), (3, _), (4, _)]) h dX1_firstWant_37 rfl (nI_1 k) (by decide) rfl rfl ?_
            refine g_goto (tgt := 5) h dX1_firstWant_40 (by decide) ?_
            exact g_cv (by rw [hz]) rfl (ih (k + 1) (by omega) (by omega))
  exact LP (n + 1) (0) (by omega) (by omega)
  
abbrev wfP (u : Sto) (r k : Nat) : Prop := ¬ nI (r % 24) < u 17 k ∧ nI (r % 24) ≤ u 18 k ∧ brP u (ix (u 15 k)) r = false
def wfF (u : Sto) (r : Nat) : Nat → Int32
  | 0 => nI 0
  | k + 1 => if wfP u r k then wfF u r k ||| one k else wfF u r k
theorem wfP_sim {w u : Sto} (h : sim w u) (r k : Nat) : wfP w r k ↔ wfP u r k := by
  unfold wfP
  rw [h.c 17 (by decide), h.c 18 (by decide), h.c 15 (by decide), brP_sim h]
theorem wfF_sim {w u : Sto} (h : sim w u) (r : Nat) : ∀ k, wfF w r k = wfF u r k
  | 0 => rfl
  | k + 1 => by
    rw [wfF, wfF, wfF_sim h r k]
    by_cases q : wfP u r k
    · rw [if_pos q, if_pos ((wfP_sim h r k).mpr q)]
    · rw [if_neg q, if_neg (fun z => q ((wfP_sim h r k).mp z))]
/-- the wants: how many, of whom -/
abbrev WW (u : Sto) (W : Nat) : Prop := W ≤ 8 ∧ u 10 9 = nI W ∧ ∀ k, k < W → ∃ a, a < 10 ∧ u 15 k = nI a
theorem WW_sim {w u : Sto} (h : sim w u) {W : Nat} (q : WW u W) : WW w W := by unfold WW; rw [h.c 10 (by decide), h.c 15 (by decide)]; exact q
set_option maxHeartbeats 1000000 in
theorem c_X1_wantsThatFit {E : EE} (r : Nat) (hr : r < 168) (W : Nat) (u : Sto) (hl : lawI u) (hW : WW u W) : CtP E 5 0 yX1_wantsThatFit cX1_wantsThatFit 6 (some .int) [.ref (E.ad 173), .int (nI r)] u (PT (.inl (some (.int (wfF u r W)))) u) := by
  have hW8 := hW.1
  refine ctp_of (by decide) (Nat.le_of_ble_eq_true rfl) (fun X h hR hrt htab hargs => ?_)
  have LP : ∀ j k : Nat, ∀ w : Sto, tim w u → W < k + j → k ≤ W → G E X (QMP E X (PT (.inl (some (.int (wfF u r W)))) u) 0) 6 0 19 [(0, .ref (E.ad 173)), (1, .int (nI r)), (2, .ref (E.ad 10)), (3, .int (nI (r % 24))), (4, .int (wfF u r k)), (5, .int (nI k))] [] (w) := by
    intro j
    induction j with
    | zero => intro k w hs h1 h2; omega
    | succ j ih =>
      intro k w hs h1 h2
      refine g_iload h dX1_wantsThatFit_19 rfl ?_
      refine g_aload_n h dX1_wantsThatFit_21 rfl rfl ?_
      refine g_getI h fl_X1_49_4 sh_10 (by decide) rfl dX1_wantsThatFit_22 ?_
      refine g_top (y := nI W) (by rw [hs 10 (by decide) (by decide)]; exact hW.2.1) ?_
      refine g_icmp_ge (tgt := 83) h dX1_wantsThatFit_25 (by decide) (fun c25 => ?_) (fun c25 => ?_)
      · have n25 := le_n (by omega) (by omega) (show nI (W) ≤ nI (k) from c25)
        obtain rfl : k = W := by omega
        refine g_iload h dX1_wantsThatFit_83 rfl ?_
        exact g_iretP h hrt dX1_wantsThatFit_85 (by omega) ⟨rfl, hs⟩
      · have n25 := nle_n (by omega) (by omega) (show ¬ nI (W) ≤ nI (k) from c25)
        obtain ⟨a, ha, hoa⟩ := hW.2.2 k (by omega)
        refine g_iload_n h dX1_wantsThatFit_28 rfl rfl ?_
        refine g_aload_n h dX1_wantsThatFit_29 rfl rfl ?_
        refine g_getR h fl_X1_75_4 sh_10 (by decide) rfl dX1_wantsThatFit_30 ?_
        refine g_iload h dX1_wantsThatFit_33 rfl ?_
        refine g_iald h _ _ _ sh_17 (by decide) (by decide) rfl (by omega) dX1_wantsThatFit_35 ?_
        refine g_top (y := u 17 k) (by rw [hs 17 (by decide) (by decide)]) ?_
        refine g_icmp_lt (tgt := 77) h dX1_wantsThatFit_36 (by decide) (fun c36 => ?_) (fun c36 => ?_)
        · have hz : wfF u r (k + 1) = wfF u r k := if_neg (fun q => q.1 c36)
          refine g_iinc (v := nI (k + 1)) (ls' := [(0, _), (1, _), (2, _), (3, _), (4, _), (5, _)]) h dX1_wantsThatFit_77 rfl (nI_1 k) (by decide) rfl rfl ?_
          refine g_goto (tgt := 19) h dX1_wantsThatFit_80 (by decide) ?_
          exact g_cv (by rw [hz]) rfl (ih (k + 1) _ hs (by omega) (by omega))
        · refine g_iload_n h dX1_wantsThatFit_39 rfl rfl ?_
          refine g_aload_n h dX1_wantsThatFit_40 rfl rfl ?_
          refine g_getR h fl_X1_78_4 sh_10 (by decide) rfl dX1_wantsThatFit_41 ?_
          refine g_iload h dX1_wantsThatFit_44 rfl ?_
          refine g_iald h _ _ _ sh_18 (by decide) (by decide) rfl (by omega) dX1_wantsThatFit_46 ?_
          refine g_top (y := u 18 k) (by rw [hs 18 (by decide) (by decide)]) ?_
          refine g_icmp_gt (tgt := 77) h dX1_wantsThatFit_47 (by decide) (fun c47 => ?_) (fun c47 => ?_)
          · have hz : wfF u r (k + 1) = wfF u r k := if_neg (fun q => absurd c47 (Int32.not_lt.mpr q.2.1))
            refine g_iinc (v := nI (k + 1)) (ls' := [(0, _), (1, _), (2, _), (3, _), (4, _), (5, _)]) h dX1_wantsThatFit_77 rfl (nI_1 k) (by decide) rfl rfl ?_
            refine g_goto (tgt := 19) h dX1_wantsThatFit_80 (by decide) ?_
            exact g_cv (by rw [hz]) rfl (ih (k + 1) _ hs (by omega) (by omega))
          · refine g_aload_n h dX1_wantsThatFit_50 rfl rfl ?_
            refine g_getR h fl_X1_24_1 sh_173 (by decide) rfl dX1_wantsThatFit_51 ?_
            refine g_aload_n h dX1_wantsThatFit_54 rfl rfl ?_
            refine g_getR h fl_X1_81_4 sh_10 (by decide) rfl dX1_wantsThatFit_55 ?_
            refine g_iload h dX1_wantsThatFit_58 rfl ?_
            refine g_iald h _ _ _ sh_15 (by decide) (by decide) rfl (by omega) dX1_wantsThatFit_60 ?_
            refine g_top (y := nI a) (by rw [hs 15 (by decide) (by decide)]; exact hoa) ?_
            refine g_iload_n h dX1_wantsThatFit_61 rfl rfl ?_
            refine g_VP h lv_X1_84_X9 sh_2 (by decide) rfl (c_X9_isBarredT a ha r hr _ (lawI_tim hs hl)) pt_nx (fitR hR (by decide) (by decide) (by omega)) rfl rfl (Nat.le_of_ble_eq_true rfl) dX1_wantsThatFit_62 (fun v62 u62 hs62 => ?_)
            obtain ⟨hv62, hs62⟩ := hs62
            cases hv62
            refine g_if_ne (tgt := 77) h dX1_wantsThatFit_65 (by decide) (fun c65 => ?_) (fun c65 => ?_)
            · have d65 := b2_n0.mp c65
              rw [brP_sim hs.sim] at d65
              have hz : wfF u r (k + 1) = wfF u r k := if_neg (fun q => by
                have := q.2.2
                rw [hoa, ix_nI (by omega), d65] at this
                exact absurd this (by decide))
              refine g_iinc (v := nI (k + 1)) (ls' := [(0, _), (1, _), (2, _), (3, _), (4, _), (5, _)]) h dX1_wantsThatFit_77 rfl (nI_1 k) (by decide) rfl rfl ?_
              refine g_goto (tgt := 19) h dX1_wantsThatFit_80 (by decide) ?_
              exact g_cv (by rw [hz]) rfl (ih (k + 1) _ (hs62.trans hs) (by omega) (by omega))
            · have d65 := Bool.eq_false_iff.mpr (b2_0.mp c65)
              rw [brP_sim hs.sim] at d65
              have hz : wfF u r (k + 1) = wfF u r k ||| one k := if_pos ⟨c36, Int32.not_lt.mp c47, by rw [hoa, ix_nI (by omega)]; exact d65⟩
              refine g_iload h dX1_wantsThatFit_68 rfl ?_
              refine g_iconst (v := nI 1) h dX1_wantsThatFit_70 (by decide) ?_
              refine g_iload h dX1_wantsThatFit_71 rfl ?_
              refine g_ishl h dX1_wantsThatFit_73 ?_
              refine g_ior h dX1_wantsThatFit_74 ?_
              refine g_istore (ls' := [(0, _), (1, _), (2, _), (3, _), (4, _), (5, _)]) h dX1_wantsThatFit_75 (by decide) rfl rfl ?_
              refine g_iinc (v := nI (k + 1)) (ls' := [(0, _), (1, _), (2, _), (3, _), (4, _), (5, _)]) h dX1_wantsThatFit_77 rfl (nI_1 k) (by decide) rfl rfl ?_
              refine g_goto (tgt := 19) h dX1_wantsThatFit_80 (by decide) ?_
              exact g_cv (by rw [hz]; rfl) rfl (ih (k + 1) _ (hs62.trans hs) (by omega) (by omega))
  refine g_aload_n h dX1_wantsThatFit_0 rfl rfl ?_
  refine g_getR h fl_X1_24_1 sh_173 (by decide) rfl dX1_wantsThatFit_1 ?_
  refine g_getR h fl_X1_43_8 sh_2 (by decide) rfl dX1_wantsThatFit_4 ?_
  refine g_astore_n (ls' := [(0, _), (1, _), (2, _)]) h dX1_wantsThatFit_7 rfl (by decide) rfl rfl ?_
  refine g_iload_n h dX1_wantsThatFit_8 rfl rfl ?_
  refine g_bipush (v := nI 24) h dX1_wantsThatFit_9 (by decide) ?_
  refine g_irem h dX1_wantsThatFit_11 (by decide) ?_
  refine g_top (pk_rem (a := r) (d := 24) (by omega) (by omega) (by omega)) ?_
  refine g_istore_n (ls' := [(0, _), (1, _), (2, _), (3, _)]) h dX1_wantsThatFit_12 rfl (by decide) rfl rfl ?_
  refine g_iconst (v := nI 0) h dX1_wantsThatFit_13 (by decide) ?_
  refine g_istore (ls' := [(0, _), (1, _), (2, _), (3, _), (4, _)]) h dX1_wantsThatFit_14 (by decide) rfl rfl ?_
  refine g_iconst (v := nI 0) h dX1_wantsThatFit_16 (by decide) ?_
  refine g_istore (ls' := [(0, _), (1, _), (2, _), (3, _), (4, _), (5, _)]) h dX1_wantsThatFit_17 (by decide) rfl rfl ?_
  exact LP (W + 1) (0) u (tim.refl u) (by omega) (by omega)
def ftI (u : Sto) (W r : Nat) : Int32 := if u 4 r = -1 ∧ u 14 r = 0 then wfF u r W else nI 0
theorem ftI_sim {w u : Sto} (h : sim w u) (W r : Nat) : ftI w W r = ftI u W r := by unfold ftI; rw [h.c 4 (by decide), h.c 14 (by decide), wfF_sim h]
/-- what each set has to spare, the wants alone -/
def s1F (u : Sto) (n : Nat) : Nat → Nat → Int32
  | 0 => flF (fun _ => 0) (nI 0) 256
  | k + 1 => spF (s1F u n k) (one k) (-(u 16 k)) n
/-- and with the rooms so far -/
def s2F (u : Sto) (n W : Nat) : Nat → Nat → Int32
  | 0 => s1F u n W
  | k + 1 => spF (s2F u n W k) (ftI u W k) (nI 1) n
theorem sp_cong {f g : Nat → Int32} {w b : Int32} {n N : Nat} (h : ∀ j, j < N → f j = g j) : ∀ j, j < N → spF f w b n j = spF g w b n j := fun j hj => by unfold spF; rw [h j hj]
def prQ (u : Sto) (n W : Nat) : Res → Sto → Prop := fun o w => o = .inl none ∧ sim w u ∧ w 173 5 = nI n ∧ (∀ j, j < W → w 176 j = u 16 j) ∧ (∀ j, j < 168 → w 174 j = ftI u W j) ∧ ∀ j, j < 256 → w 177 j = s2F u n W 168 j
theorem pr_nx {u : Sto} {n W : Nat} : ∀ Ex u', ¬ prQ u n W (.inr Ex) u' := fun _ _ h => nomatch h.1
theorem one_pw : ∀ k, k ≤ 8 → nI 1 <<< (nI k &&& 31) = nI (2 ^ k) := by decide
set_option maxHeartbeats 1000000 in
theorem c_X1_prepare {E : EE} (W : Nat) (u : Sto) (hl : lawI u) (hW : WW u W) : CtP E 6 0 yX1_prepare cX1_prepare 3 none [.ref (E.ad 173)] u (prQ u (2 ^ W) W) := by
  have hW8 := hW.1
  have hn9 : 2 ^ W ≤ 256 := show 2 ^ W ≤ 2 ^ 8 from Nat.pow_le_pow_right (by omega) hW8
  refine ctp_of (by decide) (Nat.le_of_ble_eq_true rfl) (fun X h hR hrt htab hargs => ?_)
  refine g_aload_n h dX1_prepare_0 rfl rfl ?_
  refine g_getR h fl_X1_24_1 sh_173 (by decide) rfl dX1_prepare_1 ?_
  refine g_getR h fl_X1_43_8 sh_2 (by decide) rfl dX1_prepare_4 ?_
  refine g_astore_n (ls' := [(0, _), (1, _)]) h dX1_prepare_7 rfl (by decide) rfl rfl ?_
  refine g_aload_n h dX1_prepare_8 rfl rfl ?_
  refine g_iconst (v := nI 1) h dX1_prepare_9 (by decide) ?_
  refine g_aload_n h dX1_prepare_10 rfl rfl ?_
  refine g_getI h fl_X1_49_4 sh_10 (by decide) rfl dX1_prepare_11 ?_
  refine g_top hW.2.1 ?_
  refine g_ishl h dX1_prepare_14 ?_
  refine g_top (one_pw W hW8) ?_
  refine g_putI h pfl_X1_55_1 sh_173 (by decide) rfl dX1_prepare_15 ?_
  refine g_aload_n h dX1_prepare_18 rfl rfl ?_
  refine g_getR h fl_X1_21_1 sh_173 (by decide) rfl dX1_prepare_19 ?_
  refine g_iconst (v := nI 0) h dX1_prepare_22 (by decide) ?_
  refine g_S h ls_X1_58 (c_J7_fill_53178 177 256 sh_177 (by decide) (by decide) _ _) (fitR hR (by decide) (by decide) (by omega)) rfl rfl (Nat.le_of_ble_eq_true rfl) dX1_prepare_23 ?_
  refine g_iconst (v := nI 0) h dX1_prepare_26 (by decide) ?_
  refine g_istore_n (ls' := [(0, _), (1, _), (2, _)]) h dX1_prepare_27 rfl (by decide) rfl rfl ?_
  have LP : ∀ j k : Nat, ∀ w : Sto, sim w u → w 173 5 = nI (2 ^ W) → (∀ j, j < k → w 176 j = u 16 j) → (∀ j, j < 256 → w 177 j = s1F u (2 ^ W) k j) → W < k + j → k ≤ W → G E X (QMP E X (prQ u (2 ^ W) W) 0) 3 0 28 [(0, .ref (E.ad 173)), (1, .ref (E.ad 10)), (2, .int (nI k))] [] (w) := by
    intro j
    induction j with
    | zero => intro k w hs hn hlf hsp h1 h2; omega
    | succ j ih =>
      intro k w hs hn hlf hsp h1 h2
      refine g_iload_n h dX1_prepare_28 rfl rfl ?_
      refine g_aload_n h dX1_prepare_29 rfl rfl ?_
      refine g_getI h fl_X1_49_4 sh_10 (by decide) rfl dX1_prepare_30 ?_
      refine g_top (y := nI W) (by rw [hs.c 10 (by decide)]; exact hW.2.1) ?_
      refine g_icmp_ge (tgt := 68) h dX1_prepare_33 (by decide) (fun c33 => ?_) (fun c33 => ?_)
      · have n33 := le_n (by omega) (by omega) (show nI (W) ≤ nI (k) from c33)
        obtain rfl : W = k := by omega
        refine g_iconst (v := nI 0) h dX1_prepare_68 (by decide) ?_
        refine g_istore_n (ls' := [(0, _), (1, _), (2, _)]) h dX1_prepare_69 rfl (by decide) rfl rfl ?_
        have LP2 : ∀ j k : Nat, ∀ w : Sto, sim w u → w 173 5 = nI (2 ^ W) → (∀ j, j < W → w 176 j = u 16 j) → (∀ j, j < k → w 174 j = ftI u W j) → (∀ j, j < 256 → w 177 j = s2F u (2 ^ W) W k j) → 168 < k + j → k ≤ 168 → G E X (QMP E X (prQ u (2 ^ W) W) 0) 3 0 70 [(0, .ref (E.ad 173)), (1, .ref (E.ad 10)), (2, .int (nI k))] [] (w) := by
          intro j
          induction j with
          | zero => intro k w hs hn hlf hft hsp h1 h2; omega
          | succ j ih =>
            intro k w hs hn hlf hft hsp h1 h2
            refine g_iload_n h dX1_prepare_70 rfl rfl ?_
            refine g_sipush (v := nI 168) h dX1_prepare_71 (by decide) ?_
            refine g_icmp_ge (tgt := 120) h dX1_prepare_74 (by decide) (fun c74 => ?_) (fun c74 => ?_)
            · have n74 := le_n (by omega) (by omega) (show nI (168) ≤ nI (k) from c74)
              obtain rfl : k = 168 := by omega
              exact g_vretP h hrt dX1_prepare_120 (by omega) ⟨rfl, hs, hn, hlf, hft, hsp⟩
            · have n74 := nle_n (by omega) (by omega) (show ¬ nI (168) ≤ nI (k) from c74)
              refine g_aload_n h dX1_prepare_77 rfl rfl ?_
              refine g_getR h fl_X1_9_1 sh_173 (by decide) rfl dX1_prepare_78 ?_
              refine g_iload_n h dX1_prepare_81 rfl rfl ?_
              refine g_aload_n h dX1_prepare_82 rfl rfl ?_
              refine g_getR h fl_X1_24_1 sh_173 (by decide) rfl dX1_prepare_83 ?_
              refine g_iload_n h dX1_prepare_86 rfl rfl ?_
              refine g_V h lv_X1_67_X9 sh_2 (by decide) rfl (c_X9_isFree k (by omega) _) (fitR hR (by decide) (by decide) (by omega)) rfl rfl (Nat.le_of_ble_eq_true rfl) dX1_prepare_87 ?_
              refine g_if_eq (tgt := 101) h dX1_prepare_90 (by decide) (fun c90 => ?_) (fun c90 => ?_)
              · have d90 := b2_0.mp c90
                have hs9 := hs
                have t9 : tim w w := tim.refl w
                refine g_iconst (v := nI 0) h dX1_prepare_101 (by decide) ?_
                refine g_top (y := ftI u W k) (by rw [ftI, if_neg (by rw [← hs.c 4 (by decide), ← hs.c 14 (by decide)]; exact d90)]) ?_
                refine g_iast h _ _ _ sh_174 (by decide) (by decide) rfl (by omega) dX1_prepare_102 ?_
                refine g_aload_n h dX1_prepare_103 rfl rfl ?_
                refine g_aload_n h dX1_prepare_104 rfl rfl ?_
                refine g_getR h fl_X1_9_1 sh_173 (by decide) rfl dX1_prepare_105 ?_
                refine g_iload_n h dX1_prepare_108 rfl rfl ?_
                refine g_iald h _ _ _ sh_174 (by decide) (by decide) rfl (by omega) dX1_prepare_109 ?_
                refine g_top (y := ftI u W k) (su_same _ _ _ _) ?_
                refine g_iconst (v := nI 1) h dX1_prepare_110 (by decide) ?_
                refine g_V h lv_X1_39_X1 sh_173 (by decide) rfl (c_X1_change (2 ^ W) hn9 _ _ _ (by rw [su_ne2 (by decide), t9 173 (by decide) (by decide)]; exact hn)) (fitR hR (by decide) (by decide) (by omega)) rfl rfl (Nat.le_of_ble_eq_true rfl) dX1_prepare_111 ?_
                refine g_iinc (v := nI (k + 1)) (ls' := [(0, _), (1, _), (2, _)]) h dX1_prepare_114 rfl (nI_1 k) (by decide) rfl rfl ?_
                refine g_goto (tgt := 70) h dX1_prepare_117 (by decide) ?_
                exact ih (k + 1) _ ((sim_sc (fun _ => rfl)).trans (sim_scr hs9 _ (by rfl))) (by rw [sc_c (by decide), su_ne2 (by decide), t9 173 (by decide) (by decide)]; exact hn) (by rw [sc_c (by decide), su_row2 (by decide), t9 176 (by decide) (by decide)]; exact hlf) (fun j hj => by
                  rw [sc_c (by decide), su_row, t9 174 (by decide) (by decide)]
                  split
                  · rename_i e; rw [e]
                  · exact hft j (by omega)) (by rw [sc_at, su_row2 (by decide), t9 177 (by decide) (by decide)]; exact sp_cong hsp) (by omega) (by omega)
              · have d90 := b2_n0.mp c90
                refine g_aload_n h dX1_prepare_93 rfl rfl ?_
                refine g_iload_n h dX1_prepare_94 rfl rfl ?_
                refine g_VP h lv_X1_71_X1 sh_173 (by decide) rfl (c_X1_wantsThatFit k (by omega) W _ (lawI_sim hs hl) (WW_sim hs hW)) pt_nx (fitR hR (by decide) (by decide) (by omega)) rfl rfl (Nat.le_of_ble_eq_true rfl) dX1_prepare_95 (fun v95 u95 hs95 => ?_)
                obtain ⟨hv95, hs95⟩ := hs95
                cases hv95
                refine g_top (y := ftI u W k) (by rw [wfF_sim hs, ftI, if_pos (by rw [← hs.c 4 (by decide), ← hs.c 14 (by decide)]; exact d90)]) ?_
                have hs9 := hs95.sim.trans hs
                have t9 := hs95
                refine g_goto (tgt := 102) h dX1_prepare_98 (by decide) ?_
                refine g_iast h _ _ _ sh_174 (by decide) (by decide) rfl (by omega) dX1_prepare_102 ?_
                refine g_aload_n h dX1_prepare_103 rfl rfl ?_
                refine g_aload_n h dX1_prepare_104 rfl rfl ?_
                refine g_getR h fl_X1_9_1 sh_173 (by decide) rfl dX1_prepare_105 ?_
                refine g_iload_n h dX1_prepare_108 rfl rfl ?_
                refine g_iald h _ _ _ sh_174 (by decide) (by decide) rfl (by omega) dX1_prepare_109 ?_
                refine g_top (y := ftI u W k) (su_same _ _ _ _) ?_
                refine g_iconst (v := nI 1) h dX1_prepare_110 (by decide) ?_
                refine g_V h lv_X1_39_X1 sh_173 (by decide) rfl (c_X1_change (2 ^ W) hn9 _ _ _ (by rw [su_ne2 (by decide), t9 173 (by decide) (by decide)]; exact hn)) (fitR hR (by decide) (by decide) (by omega)) rfl rfl (Nat.le_of_ble_eq_true rfl) dX1_prepare_111 ?_
                refine g_iinc (v := nI (k + 1)) (ls' := [(0, _), (1, _), (2, _)]) h dX1_prepare_114 rfl (nI_1 k) (by decide) rfl rfl ?_
                refine g_goto (tgt := 70) h dX1_prepare_117 (by decide) ?_
                exact ih (k + 1) _ ((sim_sc (fun _ => rfl)).trans (sim_scr hs9 _ (by rfl))) (by rw [sc_c (by decide), su_ne2 (by decide), t9 173 (by decide) (by decide)]; exact hn) (by rw [sc_c (by decide), su_row2 (by decide), t9 176 (by decide) (by decide)]; exact hlf) (fun j hj => by
                  rw [sc_c (by decide), su_row, t9 174 (by decide) (by decide)]
                  split
                  · rename_i e; rw [e]
                  · exact hft j (by omega)) (by rw [sc_at, su_row2 (by decide), t9 177 (by decide) (by decide)]; exact sp_cong hsp) (by omega) (by omega)
        exact LP2 (168 + 1) (0) w hs hn hlf (fun j hj => absurd hj (by omega)) hsp (by omega) (by omega)
        
      · have n33 := nle_n (by omega) (by omega) (show ¬ nI (W) ≤ nI (k) from c33)
        refine g_aload_n h dX1_prepare_36 rfl rfl ?_
        refine g_getR h fl_X1_18_1 sh_173 (by decide) rfl dX1_prepare_37 ?_
        refine g_iload_n h dX1_prepare_40 rfl rfl ?_
        refine g_aload_n h dX1_prepare_41 rfl rfl ?_
        refine g_getR h fl_X1_64_4 sh_10 (by decide) rfl dX1_prepare_42 ?_
        refine g_iload_n h dX1_prepare_45 rfl rfl ?_
        refine g_iald h _ _ _ sh_16 (by decide) (by decide) rfl (by omega) dX1_prepare_46 ?_
        refine g_top (y := u 16 k) (by rw [hs.c 16 (by decide)]) ?_
        refine g_iast h _ _ _ sh_176 (by decide) (by decide) rfl (by omega) dX1_prepare_47 ?_
        refine g_aload_n h dX1_prepare_48 rfl rfl ?_
        refine g_iconst (v := nI 1) h dX1_prepare_49 (by decide) ?_
        refine g_iload_n h dX1_prepare_50 rfl rfl ?_
        refine g_ishl h dX1_prepare_51 ?_
        refine g_aload_n h dX1_prepare_52 rfl rfl ?_
        refine g_getR h fl_X1_18_1 sh_173 (by decide) rfl dX1_prepare_53 ?_
        refine g_iload_n h dX1_prepare_56 rfl rfl ?_
        refine g_iald h _ _ _ sh_176 (by decide) (by decide) rfl (by omega) dX1_prepare_57 ?_
        refine g_top (y := u 16 k) (su_same _ _ _ _) ?_
        refine g_ineg h dX1_prepare_58 ?_
        refine g_V h lv_X1_39_X1 sh_173 (by decide) rfl (c_X1_change (2 ^ W) hn9 _ _ _ (by rw [su_ne2 (by decide)]; exact hn)) (fitR hR (by decide) (by decide) (by omega)) rfl rfl (Nat.le_of_ble_eq_true rfl) dX1_prepare_59 ?_
        refine g_iinc (v := nI (k + 1)) (ls' := [(0, _), (1, _), (2, _)]) h dX1_prepare_62 rfl (nI_1 k) (by decide) rfl rfl ?_
        refine g_goto (tgt := 28) h dX1_prepare_65 (by decide) ?_
        exact ih (k + 1) _ ((sim_sc (fun _ => rfl)).trans (sim_scr hs _ (by rfl))) (by rw [sc_c (by decide), su_ne2 (by decide)]; exact hn) (fun j hj => by
          rw [sc_c (by decide), su_row]
          split
          · rename_i e; rw [e]
          · exact hlf j (by omega)) (by rw [sc_at, su_row2 (by decide)]; exact sp_cong hsp) (by omega) (by omega)
  exact LP (W + 1) (0) _ ((sim_sc (fun _ => rfl)).trans (sim_scr (sim.refl u) _ (by rfl))) (by rw [sc_c (by decide)]; exact su_same _ _ _ _) (fun j hj => absurd hj (by omega)) (fun j hj => by rw [sc_at, s1F, flF, flF, if_pos hj, if_pos hj]) (by omega) (by omega)
  
