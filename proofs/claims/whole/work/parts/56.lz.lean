-- after: 38.r 39.s 40.t 47.str 48.tx 49.ty 50.tt 53.lw 54.lx 55.ly
def QC (u : Sto) (l n : Nat) (f : Nat → Int32) (L : Nat) (w : Int32) (r : PW) : Res → Sto → Prop := fun o s => match r with
  | .error e => FW u f L e o s
  | .ok q => o = .inl (some (.int (nI 1))) ∧ q.2 ≤ L ∧ n + q.1.length ≤ q.2 ∧ ∃ g a b c, s = LT (adW u l n q.1) g a b c f L q.2 w
theorem qc_nx {u : Sto} {l n : Nat} {f : Nat → Int32} {L : Nat} {w : Int32} {r : PW} : ∀ Ex s, ¬ QC u l n f L w r (.inr Ex) s := by
  intro Ex s h
  cases r with
  | error e => exact nomatch h.1
  | ok q => exact nomatch h.1
theorem qc_e {u v : Sto} {l n : Nat} {g2 : Nat → Int32} {a2 b2 c2 : Int32} {f : Nat → Int32} {L : Nat} {w : Int32} {R : PW} {q e : Nat} (h : R = .error e) (hd : dl v u) (hq : q ≤ L) : QC u l n f L w R (.inl (some (.int (nI 0)))) (LT v g2 a2 b2 c2 f L q (nI e)) := by
  rw [h]; exact ⟨rfl, v, g2, a2, b2, c2, q, hd, hq, rfl⟩
/-- a condition, with its `if`, or none -/
def cnF (f : Nat → Int32) (L p : Nat) : PW := if wdB f L p 17 = true then cdF f L 401 (nx f L p) [] [] else .ok ([], p)
theorem cn_if {f : Nat → Int32} {L p : Nat} (h : wdB f L p 17 = true) : cnF f L p = cdF f L 401 (nx f L p) [] [] := if_pos h
theorem cn_no {f : Nat → Int32} {L p : Nat} (h : ¬ wdB f L p 17 = true) : cnF f L p = .ok ([], p) := if_neg h
theorem cd_er {f : Nat → Int32} {L n p : Nat} {π : List Nat} {ws : List Int32} (h : wdB f L p 18 = true ∨ sgP f L p (nI 40)) (h6 : ¬ c3 π < 6) : cdF f L (n + 1) p π ws = .error p := by rw [cdF, if_pos h, if_neg h6]
theorem cd_go {f : Nat → Int32} {L n p : Nat} {π : List Nat} {ws : List Int32} (h : wdB f L p 18 = true ∨ sgP f L p (nI 40)) (h6 : c3 π < 6) : cdF f L (n + 1) p π ws = cdF f L n (nx f L p) ((if sgP f L p (nI 40) then 0 else 3) :: π) ws := by rw [cdF, if_pos h, if_pos h6]
theorem cd_pe {f : Nat → Int32} {L n p e : Nat} {π : List Nat} {ws : List Int32} (h : ¬ (wdB f L p 18 = true ∨ sgP f L p (nI 40))) (h6 : plnF f L p = .error e) : cdF f L (n + 1) p π ws = .error e := by rw [cdF, if_neg h, h6]
theorem cd_jn {f : Nat → Int32} {L n p r : Nat} {π : List Nat} {ws : List Int32} {q : List Int32 × Nat} {z : Nat × List Nat × List Int32} (h : ¬ (wdB f L p 18 = true ∨ sgP f L p (nI 40))) (h6 : plnF f L p = .ok q) (hz : clG f L 6 q.2 π [] = z) (ha : wdB f L z.1 25 = true ∨ wdB f L z.1 26 = true) (hr : r = if wdB f L z.1 25 = true then 2 else 1) : cdF f L (n + 1) p π ws = cdF f L n (nx f L z.1) (r :: (unW r z.2.1).2) (ws ++ q.1 ++ z.2.2 ++ (unW r z.2.1).1) := by
  rw [cdF, if_neg h, h6]
  simp only
  rw [clG_app, hz]
  simp only
  rw [if_pos ha, ← hr]
theorem cd_ed {f : Nat → Int32} {L n p : Nat} {π : List Nat} {ws : List Int32} {q : List Int32 × Nat} {z : Nat × List Nat × List Int32} (h : ¬ (wdB f L p 18 = true ∨ sgP f L p (nI 40))) (h6 : plnF f L p = .ok q) (hz : clG f L 6 q.2 π [] = z) (ha : ¬ (wdB f L z.1 25 = true ∨ wdB f L z.1 26 = true)) : cdF f L (n + 1) p π ws = if 0 < c0 z.2.1 then .error z.1 else .ok (ws ++ q.1 ++ z.2.2 ++ (unW 1 z.2.1).1, z.1) := by
  rw [cdF, if_neg h, h6]
  simp only
  rw [clG_app, hz]
  simp only
  rw [if_neg ha]
theorem adW_4 {u : Sto} {l n : Nat} {a b c d : List Int32} : adW (adW (adW (adW u l n a) l (n + a.length) b) l (n + a.length + b.length) c) l (n + a.length + b.length + c.length) d = adW u l n (a ++ b ++ c ++ d) := by
  rw [adW_app, adW_app, adW_app]
  simp only [List.length_append, Nat.add_assoc]
theorem qc_k {u v : Sto} {l n : Nat} {g2 : Nat → Int32} {a2 b2 c2 : Int32} {f : Nat → Int32} {L : Nat} {w : Int32} {R : PW} {q : Nat} {ws : List Int32} (h : R = .ok (ws, q)) (hq : q ≤ L) (hl : n + ws.length ≤ q) (hv : v = adW u l n ws) : QC u l n f L w R (.inl (some (.int (nI 1)))) (LT v g2 a2 b2 c2 f L q w) := by
  rw [h]; exact ⟨rfl, hq, hl, g2, a2, b2, c2, by rw [hv]⟩
theorem jn_sto {v : Sto} {g : Nat → Int32} {σ : List Nat} {m r : Nat} {f : Nat → Int32} {L p : Nat} {w : Int32} (h : c0 σ = m) (hr : r = 1 ∨ r = 2) : LT v g (nI (σ.length + 1)) (nI m) (nI (c3 σ)) f L p w = LT v g (nI (r :: σ).length) (nI (c0 (r :: σ))) (nI (c3 (r :: σ))) f L p w := by
  rcases hr with rfl | rfl <;> simp [c0, c3, h]
set_option maxHeartbeats 1000000 in
theorem c_X3_readCondition {E : EE} (g : Nat → Int32) (a b c : Int32) (f : Nat → Int32) (L p : Nat) (w : Int32) (l n : Nat) (hl0 : 0 < l) (hl : l ≤ 12) (u : Sto) (hf : u 1 = f) (hL : L ≤ 400) (hp : p ≤ L) (hx : u 43 5 = nI l) (hn : u 45 l = nI n) (hnp : n ≤ p) : CtP E 9 0 yX3_readCondition cX3_readCondition 2 (some .boolean) [.ref (E.ad 160)] (LT u g a b c f L p w) (QC u l n f L w (cnF f L p)) := by
  refine ctp_of (by decide) (Nat.le_of_ble_eq_true rfl) (fun X h hR hrt htab hargs => ?_)
  have LP : ∀ (j k q n2 : Nat) (v : Sto) (π : List Nat) (ws : List Int32) (g2 : Nat → Int32), k + j = 401 → q ≤ L → v = adW u l n ws → n2 = n + ws.length → n2 + c9 π ≤ q → gdL π → c3 π ≤ 6 → stkN g2 π → cnF f L p = cdF f L j q π ws → G E X (QMP E X (QC u l n f L w (cnF f L p)) 0) 2 0 32 [(0, .ref (E.ad 160)), (1, .int (nI k))] [] (LT v g2 (nI π.length) (nI (c0 π)) (nI (c3 π)) f L q w) := by
    intro j
    induction j with
    | zero =>
      intro k q n2 v π ws g2 hk hq hv hn3 hnq hg h6 hst hr
      have hf2 : v 1 = f := by rw [hv, adW_c (by decide) (by decide)]; exact hf
      have hd : dl v u := by rw [hv]; exact dl_adW
      have hxv : v 43 5 = nI l := by rw [hv, adW_c (by decide) (by decide)]; exact hx
      have hnv : v 45 l = nI n2 := by rw [hv, hn3]; exact adW_n ws u n hn (by omega)
      refine g_iload_n h dX3_readCondition_32 rfl rfl ?_
      refine g_sipush (v := nI 400) h dX3_readCondition_33 (by decide) ?_
      refine g_icmp_gt (tgt := 138) h dX3_readCondition_36 (by decide) (fun c36 => ?_) (fun c36 => ?_)
      · have n36 := lt_n (by omega) (by omega) (show nI (400) < nI (k) from c36)
        refine g_aload_n h dX3_readCondition_138 rfl rfl ?_
        refine g_V h lv_X3_43_X3 sh_160 (by decide) rfl (c_X6_fail_160 f L q w (lfS v g2 (nI π.length) (nI (c0 π)) (nI (c3 π))) ((lf_oc (by decide) (by decide)).trans hf2) hL hq) (fitR hR (by decide) (by decide) (by omega)) rfl rfl (Nat.le_of_ble_eq_true rfl) dX3_readCondition_139 ?_
        skip
        · skip
          exact g_zretP h hrt dX3_readCondition_142 (by omega) (by first | exact Or.inl rfl | exact Or.inr rfl | simp) (qc_e hr hd hq)
      · have n36 := nlt_n (by omega) (by omega) (show ¬ nI (400) < nI (k) from c36)
        omega
    | succ j ih =>
      intro k q n2 v π ws g2 hk hq hv hn3 hnq hg h6 hst hr
      have hf2 : v 1 = f := by rw [hv, adW_c (by decide) (by decide)]; exact hf
      have hd : dl v u := by rw [hv]; exact dl_adW
      have hxv : v 43 5 = nI l := by rw [hv, adW_c (by decide) (by decide)]; exact hx
      have hnv : v 45 l = nI n2 := by rw [hv, hn3]; exact adW_n ws u n hn (by omega)
      refine g_iload_n h dX3_readCondition_32 rfl rfl ?_
      refine g_sipush (v := nI 400) h dX3_readCondition_33 (by decide) ?_
      refine g_icmp_gt (tgt := 138) h dX3_readCondition_36 (by decide) (fun c36 => ?_) (fun c36 => ?_)
      · have n36 := lt_n (by omega) (by omega) (show nI (400) < nI (k) from c36)
        omega
      · have n36 := nlt_n (by omega) (by omega) (show ¬ nI (400) < nI (k) from c36)
        refine g_aload_n h dX3_readCondition_39 rfl rfl ?_
        refine g_ldcS (tx := "not") (k := 18) h (by decide) dX3_readCondition_40 ?_
        refine g_V h lv_X3_52_X3 sh_160 (by decide) rfl (c_X6_atWord_160 f L q w 18 (by decide) (lfS v g2 (nI π.length) (nI (c0 π)) (nI (c3 π))) ((lf_oc (by decide) (by decide)).trans hf2) hL hq) (fitR hR (by decide) (by decide) (by omega)) rfl rfl (Nat.le_of_ble_eq_true rfl) dX3_readCondition_42 ?_
        by_cases n42 : wdB f L q 18 = true
        · refine g_top (b2_t n42) ?_
          refine g_if_ne (tgt := 57) h dX3_readCondition_45 (by decide) (fun _ => ?_) (fun q => absurd q (by decide))
          refine g_aload_n h dX3_readCondition_57 rfl rfl ?_
          refine g_getI h fl_X3_83_3 sh_160 (by decide) rfl dX3_readCondition_58 ?_
          refine g_top (tx_s (by decide)) ?_
          refine g_top lf_r11 ?_
          refine g_bipush (v := nI 6) h dX3_readCondition_61 (by decide) ?_
          refine g_icmp_lt (tgt := 71) h dX3_readCondition_63 (by decide) (fun c63 => ?_) (fun c63 => ?_)
          · have n63 := lt_n (by omega) (by omega) (show nI (c3 π) < nI (6) from c63)
            refine g_aload_n h dX3_readCondition_71 rfl rfl ?_
            refine g_V h lv_X3_91_X3 sh_160 (by decide) rfl (c_X3_goDeeper g2 π.length (c0 π) (c3 π) (by have := gd_40 hg h6; omega) f L q w v hf2 hL hq) (fitR hR (by decide) (by decide) (by omega)) rfl rfl (Nat.le_of_ble_eq_true rfl) dX3_readCondition_72 ?_
            by_cases n72 : sgP f L q (nI 40)
            · refine g_sto (if_pos n72) ?_
              refine g_goto (tgt := 132) h dX3_readCondition_75 (by decide) ?_
              refine g_iinc (v := nI (k + 1)) (ls' := [(0, _), (1, _)]) h dX3_readCondition_132 rfl (nI_1 k) (by decide) rfl rfl ?_
              refine g_goto (tgt := 32) h dX3_readCondition_135 (by decide) ?_
              have hlt : q < L := wd_lt n42
              have hq2 := nx_lt (f := f) hlt
              exact g_cv (by rfl) (by simp [c0, c3, Nat.add_comm]) (ih (k + 1) (nx f L q) n2 v (0 :: π) ws (upd g2 π.length (nI 0)) (by omega) (nx_b hq).2 hv hn3 (by simp [c9]; omega) ⟨hg, by decide, fun z => absurd z (by decide), fun z => absurd z (by decide)⟩ (by simp [c3]; omega) (stkN_push hst 0) (by rw [hr, cd_go (Or.inl n42) n63, if_pos n72]))
            · refine g_sto (if_neg n72) ?_
              refine g_goto (tgt := 132) h dX3_readCondition_75 (by decide) ?_
              refine g_iinc (v := nI (k + 1)) (ls' := [(0, _), (1, _)]) h dX3_readCondition_132 rfl (nI_1 k) (by decide) rfl rfl ?_
              refine g_goto (tgt := 32) h dX3_readCondition_135 (by decide) ?_
              have hlt : q < L := wd_lt n42
              have hq2 := nx_lt (f := f) hlt
              exact g_cv (by rfl) (by simp [c0, c3, Nat.add_comm]) (ih (k + 1) (nx f L q) n2 v (3 :: π) ws (upd g2 π.length (nI 3)) (by omega) (nx_b hq).2 hv hn3 (by simp [c9]; omega) ⟨hg, by decide, fun z => absurd z (by decide), fun z => absurd z (by decide)⟩ (by simp [c3]; omega) (stkN_push hst 3) (by rw [hr, cd_go (Or.inl n42) n63, if_neg n72]))
          · have n63 := nlt_n (by omega) (by omega) (show ¬ nI (c3 π) < nI (6) from c63)
            refine g_aload_n h dX3_readCondition_66 rfl rfl ?_
            refine g_V h lv_X3_43_X3 sh_160 (by decide) rfl (c_X6_fail_160 f L q w (lfS v g2 (nI π.length) (nI (c0 π)) (nI (c3 π))) ((lf_oc (by decide) (by decide)).trans hf2) hL hq) (fitR hR (by decide) (by decide) (by omega)) rfl rfl (Nat.le_of_ble_eq_true rfl) dX3_readCondition_67 ?_
            skip
            · skip
              exact g_zretP h hrt dX3_readCondition_70 (by omega) (by first | exact Or.inl rfl | exact Or.inr rfl | simp) (qc_e (hr.trans (cd_er (Or.inl n42) (by omega))) hd hq)
        · refine g_top (b2_f n42) ?_
          refine g_if_ne (tgt := 57) h dX3_readCondition_45 (by decide) (fun q => absurd q (by decide)) (fun _ => ?_)
          refine g_aload_n h dX3_readCondition_48 rfl rfl ?_
          refine g_bipush (v := nI 40) h dX3_readCondition_49 (by decide) ?_
          refine g_V h lv_X3_88_X3 sh_160 (by decide) rfl (c_X6_atSign_160 f L q w (nI 40) (lfS v g2 (nI π.length) (nI (c0 π)) (nI (c3 π))) ((lf_oc (by decide) (by decide)).trans hf2) hL hq) (fitR hR (by decide) (by decide) (by omega)) rfl rfl (Nat.le_of_ble_eq_true rfl) dX3_readCondition_51 ?_
          by_cases n51 : sgP f L q (nI 40)
          · refine g_top (b2_t n51) ?_
            refine g_if_eq (tgt := 78) h dX3_readCondition_54 (by decide) (fun q => absurd q (by decide)) (fun _ => ?_)
            refine g_aload_n h dX3_readCondition_57 rfl rfl ?_
            refine g_getI h fl_X3_83_3 sh_160 (by decide) rfl dX3_readCondition_58 ?_
            refine g_top (tx_s (by decide)) ?_
            refine g_top lf_r11 ?_
            refine g_bipush (v := nI 6) h dX3_readCondition_61 (by decide) ?_
            refine g_icmp_lt (tgt := 71) h dX3_readCondition_63 (by decide) (fun c63 => ?_) (fun c63 => ?_)
            · have n63 := lt_n (by omega) (by omega) (show nI (c3 π) < nI (6) from c63)
              refine g_aload_n h dX3_readCondition_71 rfl rfl ?_
              refine g_V h lv_X3_91_X3 sh_160 (by decide) rfl (c_X3_goDeeper g2 π.length (c0 π) (c3 π) (by have := gd_40 hg h6; omega) f L q w v hf2 hL hq) (fitR hR (by decide) (by decide) (by omega)) rfl rfl (Nat.le_of_ble_eq_true rfl) dX3_readCondition_72 ?_
              by_cases n72 : sgP f L q (nI 40)
              · refine g_sto (if_pos n72) ?_
                refine g_goto (tgt := 132) h dX3_readCondition_75 (by decide) ?_
                refine g_iinc (v := nI (k + 1)) (ls' := [(0, _), (1, _)]) h dX3_readCondition_132 rfl (nI_1 k) (by decide) rfl rfl ?_
                refine g_goto (tgt := 32) h dX3_readCondition_135 (by decide) ?_
                have hlt : q < L := sg_lt n51
                have hq2 := nx_lt (f := f) hlt
                exact g_cv (by rfl) (by simp [c0, c3, Nat.add_comm]) (ih (k + 1) (nx f L q) n2 v (0 :: π) ws (upd g2 π.length (nI 0)) (by omega) (nx_b hq).2 hv hn3 (by simp [c9]; omega) ⟨hg, by decide, fun z => absurd z (by decide), fun z => absurd z (by decide)⟩ (by simp [c3]; omega) (stkN_push hst 0) (by rw [hr, cd_go (Or.inr n51) n63, if_pos n72]))
              · refine g_sto (if_neg n72) ?_
                refine g_goto (tgt := 132) h dX3_readCondition_75 (by decide) ?_
                refine g_iinc (v := nI (k + 1)) (ls' := [(0, _), (1, _)]) h dX3_readCondition_132 rfl (nI_1 k) (by decide) rfl rfl ?_
                refine g_goto (tgt := 32) h dX3_readCondition_135 (by decide) ?_
                have hlt : q < L := sg_lt n51
                have hq2 := nx_lt (f := f) hlt
                exact g_cv (by rfl) (by simp [c0, c3, Nat.add_comm]) (ih (k + 1) (nx f L q) n2 v (3 :: π) ws (upd g2 π.length (nI 3)) (by omega) (nx_b hq).2 hv hn3 (by simp [c9]; omega) ⟨hg, by decide, fun z => absurd z (by decide), fun z => absurd z (by decide)⟩ (by simp [c3]; omega) (stkN_push hst 3) (by rw [hr, cd_go (Or.inr n51) n63, if_neg n72]))
            · have n63 := nlt_n (by omega) (by omega) (show ¬ nI (c3 π) < nI (6) from c63)
              refine g_aload_n h dX3_readCondition_66 rfl rfl ?_
              refine g_V h lv_X3_43_X3 sh_160 (by decide) rfl (c_X6_fail_160 f L q w (lfS v g2 (nI π.length) (nI (c0 π)) (nI (c3 π))) ((lf_oc (by decide) (by decide)).trans hf2) hL hq) (fitR hR (by decide) (by decide) (by omega)) rfl rfl (Nat.le_of_ble_eq_true rfl) dX3_readCondition_67 ?_
              skip
              · skip
                exact g_zretP h hrt dX3_readCondition_70 (by omega) (by first | exact Or.inl rfl | exact Or.inr rfl | simp) (qc_e (hr.trans (cd_er (Or.inr n51) (by omega))) hd hq)
          · refine g_top (b2_f n51) ?_
            refine g_if_eq (tgt := 78) h dX3_readCondition_54 (by decide) (fun _ => ?_) (fun q => absurd q (by decide))
            refine g_aload_n h dX3_readCondition_78 rfl rfl ?_
            refine g_VP h lv_X3_94_X3 sh_160 (by decide) rfl (c_X3_readAtom g2 (nI π.length) (nI (c0 π)) (nI (c3 π)) f L q w l n2 hl0 hl v hf2 hL hq hxv hnv (by omega)) qw_nx (fitR hR (by decide) (by decide) (by omega)) rfl rfl (Nat.le_of_ble_eq_true rfl) dX3_readCondition_79 (fun v79 u79 hs79 => ?_)
            cases h79 : plnF f L q
            · rename_i e79
              rw [h79] at hs79
              obtain ⟨hv79, u79, g79, a79, b79, c79, p79, hd79, hp79, rfl⟩ := hs79
              cases hv79
              refine g_if_ne (tgt := 87) h dX3_readCondition_82 (by decide) (fun q => absurd q (by decide)) (fun _ => ?_)
              refine g_iconst (v := nI 0) h dX3_readCondition_85 (by decide) ?_
              exact g_zretP h hrt dX3_readCondition_86 (by omega) (by first | exact Or.inl rfl | exact Or.inr rfl | simp) (qc_e (hr.trans (cd_pe (fun z => z.elim n42 n51) h79)) (hd79.trans hd) hp79)
            · rename_i q79
              rw [h79] at hs79
              obtain ⟨hv79, rfl⟩ := hs79
              cases hv79
              have B := pln_b hq h79
              have hfA : (adW v l n2 q79.1) 1 = f := by rw [adW_c (by decide) (by decide)]; exact hf2
              have hxA : (adW v l n2 q79.1) 43 5 = nI l := by rw [adW_c (by decide) (by decide)]; exact hxv
              have hnA : (adW v l n2 q79.1) 45 l = nI (n2 + q79.1.length) := adW_n _ _ _ hnv (by omega)
              refine g_if_ne (tgt := 87) h dX3_readCondition_82 (by decide) (fun _ => ?_) (fun q => absurd q (by decide))
              refine g_aload_n h dX3_readCondition_87 rfl rfl ?_
              refine g_V h lv_X3_97_X3 sh_160 (by decide) rfl (c_X3_closeAll g2 f L q79.2 w l (n2 + q79.1.length) hl0 hl π (adW v l n2 q79.1) hfA hL B.2.1 hxA hnA hst hg h6 (by omega)) (fitR hR (by decide) (by decide) (by omega)) rfl rfl (Nat.le_of_ble_eq_true rfl) dX3_readCondition_88 ?_
              have K := cl_ok (f := f) (L := L) (g := g2) 6 q79.2 π B.2.1 hg hst
              generalize hz : clG f L 6 q79.2 π [] = z at K ⊢
              obtain ⟨K1, K2, K3, K4, K5, K6⟩ := K
              have hfB : (adW (adW v l n2 q79.1) l (n2 + q79.1.length) z.2.2) 1 = f := by rw [adW_c (by decide) (by decide)]; exact hfA
              have hxB : (adW (adW v l n2 q79.1) l (n2 + q79.1.length) z.2.2) 43 5 = nI l := by rw [adW_c (by decide) (by decide)]; exact hxA
              have hnB : (adW (adW v l n2 q79.1) l (n2 + q79.1.length) z.2.2) 45 l = nI (n2 + q79.1.length + z.2.2.length) := adW_n _ _ _ hnA (by omega)
              refine g_aload_n h dX3_readCondition_91 rfl rfl ?_
              refine g_ldcS (tx := "and") (k := 25) h (by decide) dX3_readCondition_92 ?_
              refine g_V h lv_X3_52_X3 sh_160 (by decide) rfl (c_X6_atWord_160 f L z.1 w 25 (by decide) (lfS (adW (adW v l n2 q79.1) l (n2 + q79.1.length) z.2.2) g2 (nI z.2.1.length) (nI (c0 z.2.1)) (nI (c3 z.2.1))) ((lf_oc (by decide) (by decide)).trans hfB) hL K1) (fitR hR (by decide) (by decide) (by omega)) rfl rfl (Nat.le_of_ble_eq_true rfl) dX3_readCondition_94 ?_
              by_cases n94 : wdB f L z.1 25 = true
              · refine g_top (b2_t n94) ?_
                refine g_if_ne (tgt := 114) h dX3_readCondition_97 (by decide) (fun _ => ?_) (fun q => absurd q (by decide))
                refine g_aload_n h dX3_readCondition_114 rfl rfl ?_
                refine g_aload_n h dX3_readCondition_115 rfl rfl ?_
                refine g_ldcS (tx := "and") (k := 25) h (by decide) dX3_readCondition_116 ?_
                refine g_V h lv_X3_52_X3 sh_160 (by decide) rfl (c_X6_atWord_160 f L z.1 w 25 (by decide) (lfS (adW (adW v l n2 q79.1) l (n2 + q79.1.length) z.2.2) g2 (nI z.2.1.length) (nI (c0 z.2.1)) (nI (c3 z.2.1))) ((lf_oc (by decide) (by decide)).trans hfB) hL K1) (fitR hR (by decide) (by decide) (by omega)) rfl rfl (Nat.le_of_ble_eq_true rfl) dX3_readCondition_118 ?_
                by_cases n118 : wdB f L z.1 25 = true
                · refine g_top (b2_t n118) ?_
                  refine g_if_eq (tgt := 128) h dX3_readCondition_121 (by decide) (fun q => absurd q (by decide)) (fun _ => ?_)
                  refine g_iconst (v := nI 2) h dX3_readCondition_124 (by decide) ?_
                  refine g_goto (tgt := 129) h dX3_readCondition_125 (by decide) ?_
                  refine g_V h lv_X3_107_X3 sh_160 (by decide) rfl (c_X3_joinOn g2 (nI (c0 z.2.1)) f L z.1 w l (n2 + q79.1.length + z.2.2.length) hl0 hl 2 (by decide) (by decide) z.2.1 (adW (adW v l n2 q79.1) l (n2 + q79.1.length) z.2.2) hfB hL K1 hxB hnB K3 K2 (by omega) (by omega)) (fitR hR (by decide) (by decide) (by omega)) rfl rfl (Nat.le_of_ble_eq_true rfl) dX3_readCondition_129 ?_
                  refine g_iinc (v := nI (k + 1)) (ls' := [(0, _), (1, _)]) h dX3_readCondition_132 rfl (nI_1 k) (by decide) rfl rfl ?_
                  refine g_goto (tgt := 32) h dX3_readCondition_135 (by decide) ?_
                  have U9 := un_c9 (r := 2) (by decide) (π := z.2.1)
                  have U3 := un_c3 (r := 2) (π := z.2.1)
                  have hzl := nx_lt (f := f) (wd_lt n94)
                  exact g_cv (by rfl) (jn_sto (un_c0 (by decide)) (by decide)) (ih (k + 1) (nx f L z.1) (n2 + q79.1.length + z.2.2.length + (unW 2 z.2.1).1.length) (adW (adW (adW v l n2 q79.1) l (n2 + q79.1.length) z.2.2) l (n2 + q79.1.length + z.2.2.length) (unW 2 z.2.1).1) (2 :: (unW 2 z.2.1).2) (ws ++ q79.1 ++ z.2.2 ++ (unW 2 z.2.1).1) (upd g2 (unW 2 z.2.1).2.length (nI 2)) (by omega) (nx_b K1).2 (by rw [hv, hn3]; exact adW_4) (by rw [List.length_append, List.length_append, List.length_append, hn3]; omega) (by simp [c9]; omega) ⟨un_gd K2, by decide, fun _ => un_hd (by decide), fun z => absurd z (by decide)⟩ (by simp [c3]; omega) (stkN_push (un_st K3) 2) (by rw [hr, cd_jn (r := 2) (fun z => z.elim n42 n51) h79 hz (Or.inl n94) (by simp [n94])]))
                · exact absurd n94 n118
              · refine g_top (b2_f n94) ?_
                refine g_if_ne (tgt := 114) h dX3_readCondition_97 (by decide) (fun q => absurd q (by decide)) (fun _ => ?_)
                refine g_aload_n h dX3_readCondition_100 rfl rfl ?_
                refine g_ldcS (tx := "or") (k := 26) h (by decide) dX3_readCondition_101 ?_
                refine g_V h lv_X3_52_X3 sh_160 (by decide) rfl (c_X6_atWord_160 f L z.1 w 26 (by decide) (lfS (adW (adW v l n2 q79.1) l (n2 + q79.1.length) z.2.2) g2 (nI z.2.1.length) (nI (c0 z.2.1)) (nI (c3 z.2.1))) ((lf_oc (by decide) (by decide)).trans hfB) hL K1) (fitR hR (by decide) (by decide) (by omega)) rfl rfl (Nat.le_of_ble_eq_true rfl) dX3_readCondition_103 ?_
                by_cases n103 : wdB f L z.1 26 = true
                · refine g_top (b2_t n103) ?_
                  refine g_if_ne (tgt := 114) h dX3_readCondition_106 (by decide) (fun _ => ?_) (fun q => absurd q (by decide))
                  refine g_aload_n h dX3_readCondition_114 rfl rfl ?_
                  refine g_aload_n h dX3_readCondition_115 rfl rfl ?_
                  refine g_ldcS (tx := "and") (k := 25) h (by decide) dX3_readCondition_116 ?_
                  refine g_V h lv_X3_52_X3 sh_160 (by decide) rfl (c_X6_atWord_160 f L z.1 w 25 (by decide) (lfS (adW (adW v l n2 q79.1) l (n2 + q79.1.length) z.2.2) g2 (nI z.2.1.length) (nI (c0 z.2.1)) (nI (c3 z.2.1))) ((lf_oc (by decide) (by decide)).trans hfB) hL K1) (fitR hR (by decide) (by decide) (by omega)) rfl rfl (Nat.le_of_ble_eq_true rfl) dX3_readCondition_118 ?_
                  by_cases n118 : wdB f L z.1 25 = true
                  · exact absurd n118 n94
                  · refine g_top (b2_f n118) ?_
                    refine g_if_eq (tgt := 128) h dX3_readCondition_121 (by decide) (fun _ => ?_) (fun q => absurd q (by decide))
                    refine g_iconst (v := nI 1) h dX3_readCondition_128 (by decide) ?_
                    refine g_V h lv_X3_107_X3 sh_160 (by decide) rfl (c_X3_joinOn g2 (nI (c0 z.2.1)) f L z.1 w l (n2 + q79.1.length + z.2.2.length) hl0 hl 1 (by decide) (by decide) z.2.1 (adW (adW v l n2 q79.1) l (n2 + q79.1.length) z.2.2) hfB hL K1 hxB hnB K3 K2 (by omega) (by omega)) (fitR hR (by decide) (by decide) (by omega)) rfl rfl (Nat.le_of_ble_eq_true rfl) dX3_readCondition_129 ?_
                    refine g_iinc (v := nI (k + 1)) (ls' := [(0, _), (1, _)]) h dX3_readCondition_132 rfl (nI_1 k) (by decide) rfl rfl ?_
                    refine g_goto (tgt := 32) h dX3_readCondition_135 (by decide) ?_
                    have U9 := un_c9 (r := 1) (by decide) (π := z.2.1)
                    have U3 := un_c3 (r := 1) (π := z.2.1)
                    have hzl := nx_lt (f := f) (wd_lt n103)
                    exact g_cv (by rfl) (jn_sto (un_c0 (by decide)) (by decide)) (ih (k + 1) (nx f L z.1) (n2 + q79.1.length + z.2.2.length + (unW 1 z.2.1).1.length) (adW (adW (adW v l n2 q79.1) l (n2 + q79.1.length) z.2.2) l (n2 + q79.1.length + z.2.2.length) (unW 1 z.2.1).1) (1 :: (unW 1 z.2.1).2) (ws ++ q79.1 ++ z.2.2 ++ (unW 1 z.2.1).1) (upd g2 (unW 1 z.2.1).2.length (nI 1)) (by omega) (nx_b K1).2 (by rw [hv, hn3]; exact adW_4) (by rw [List.length_append, List.length_append, List.length_append, hn3]; omega) (by simp [c9]; omega) ⟨un_gd K2, by decide, fun z => absurd z (by decide), fun _ => un_hd (by decide)⟩ (by simp [c3]; omega) (stkN_push (un_st K3) 1) (by rw [hr, cd_jn (r := 1) (fun z => z.elim n42 n51) h79 hz (Or.inr n103) (by simp [n94])]))
                · refine g_top (b2_f n103) ?_
                  refine g_if_ne (tgt := 114) h dX3_readCondition_106 (by decide) (fun q => absurd q (by decide)) (fun _ => ?_)
                  refine g_aload_n h dX3_readCondition_109 rfl rfl ?_
                  refine g_VP h lv_X3_104_X3 sh_160 (by decide) rfl (c_X3_endCondition g2 f L z.1 w l (n2 + q79.1.length + z.2.2.length) hl0 hl z.2.1 (adW (adW v l n2 q79.1) l (n2 + q79.1.length) z.2.2) hfB hL K1 hxB hnB K3 K2 (by omega) (by omega)) (by rintro Ex s (⟨_, h, _⟩ | ⟨_, h, _⟩) <;> exact nomatch h) (fitR hR (by decide) (by decide) (by omega)) rfl rfl (Nat.le_of_ble_eq_true rfl) dX3_readCondition_110 (fun v110 u110 hs110 => ?_)
                  rcases hs110 with ⟨n110, hv110, u110, g110, a110, b110, c110, p110, hd110, hp110, rfl⟩ | ⟨n110, hv110, a110, b110, c110, rfl⟩
                  · cases hv110
                    exact g_zretP h hrt dX3_readCondition_113 (by omega) (by first | exact Or.inl rfl | exact Or.inr rfl | simp) (qc_e (hr.trans ((cd_ed (fun z => z.elim n42 n51) h79 hz (fun z => z.elim n94 n103)).trans (if_pos n110))) (hd110.trans (dl_adW.trans (dl_adW.trans hd))) hp110)
                  · cases hv110
                    exact g_zretP h hrt dX3_readCondition_113 (by omega) (by first | exact Or.inl rfl | exact Or.inr rfl | simp) (qc_k (hr.trans ((cd_ed (fun z => z.elim n42 n51) h79 hz (fun z => z.elim n94 n103)).trans (if_neg n110))) K1 (by rw [List.length_append, List.length_append, List.length_append]; have := un_c9 (r := 1) (by decide) (π := z.2.1); omega) (by rw [hv, hn3]; exact adW_4))
  refine g_aload_n h dX3_readCondition_0 rfl rfl ?_
  refine g_ldcS (tx := "if") (k := 17) h (by decide) dX3_readCondition_1 ?_
  refine g_V h lv_X3_52_X3 sh_160 (by decide) rfl (c_X6_atWord_160 f L p w 17 (by decide) (lfS u g a b c) ((lf_oc (by decide) (by decide)).trans hf) hL hp) (fitR hR (by decide) (by decide) (by omega)) rfl rfl (Nat.le_of_ble_eq_true rfl) dX3_readCondition_3 ?_
  by_cases n3 : wdB f L p 17 = true
  · refine g_top (b2_t n3) ?_
    refine g_if_ne (tgt := 11) h dX3_readCondition_6 (by decide) (fun _ => ?_) (fun q => absurd q (by decide))
    refine g_aload_n h dX3_readCondition_11 rfl rfl ?_
    refine g_V h lv_X3_56_X3 sh_160 (by decide) rfl (c_X6_stepT_160 f L p w (lfS u g a b c) ((lf_oc (by decide) (by decide)).trans hf) hL hp) (fitR hR (by decide) (by decide) (by omega)) rfl rfl (Nat.le_of_ble_eq_true rfl) dX3_readCondition_12 ?_
    refine g_aload_n h dX3_readCondition_15 rfl rfl ?_
    refine g_iconst (v := nI 0) h dX3_readCondition_16 (by decide) ?_
    refine g_putI h pfl_X3_76_3 sh_160 (by decide) rfl dX3_readCondition_17 ?_
    refine g_sto (tx_su7 (by decide)) ?_
    refine g_sto (tx_in lf_w9) ?_
    refine g_aload_n h dX3_readCondition_20 rfl rfl ?_
    refine g_iconst (v := nI 0) h dX3_readCondition_21 (by decide) ?_
    refine g_putI h pfl_X3_80_3 sh_160 (by decide) rfl dX3_readCondition_22 ?_
    refine g_sto (tx_su7 (by decide)) ?_
    refine g_sto (tx_in lf_w10) ?_
    refine g_aload_n h dX3_readCondition_25 rfl rfl ?_
    refine g_iconst (v := nI 0) h dX3_readCondition_26 (by decide) ?_
    refine g_putI h pfl_X3_83_3 sh_160 (by decide) rfl dX3_readCondition_27 ?_
    refine g_sto (tx_su7 (by decide)) ?_
    refine g_sto (tx_in lf_w11) ?_
    refine g_iconst (v := nI 0) h dX3_readCondition_30 (by decide) ?_
    refine g_istore_n (ls' := [(0, _), (1, _)]) h dX3_readCondition_31 rfl (by decide) rfl rfl ?_
    exact LP 401 0 (nx f L p) n u [] [] g (by omega) (nx_b hp).2 rfl rfl (by have := (nx_b (f := f) hp).1; simp [c9]; omega) trivial (by decide) trivial (cn_if n3)
  · refine g_top (b2_f n3) ?_
    refine g_if_ne (tgt := 11) h dX3_readCondition_6 (by decide) (fun q => absurd q (by decide)) (fun _ => ?_)
    refine g_iconst (v := nI 1) h dX3_readCondition_9 (by decide) ?_
    exact g_zretP h hrt dX3_readCondition_10 (by omega) (by first | exact Or.inl rfl | exact Or.inr rfl | simp) (qc_k (cn_no n3) hp (by simp only [List.length_nil]; omega) rfl)
