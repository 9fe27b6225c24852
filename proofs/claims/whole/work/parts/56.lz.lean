-- after: 38.r 39.s 40.t 47.str 48.tx 49.ty 50.tt 53.lw 54.lx 55.ly
def QC (u : Sto) (l n : Nat) (f : Nat → Int32) (L : Nat) (w : Int32) (r : PW) : Res → Sto → Prop := fun o s => match r with
  | .error e => FW u f L e o s
  | .ok q => o = .inl (some (.int (nI 1))) ∧ q.2 ≤ L ∧ n + q.1.length ≤ q.2 ∧ ∃ g a b c, s = LT (adW u l n q.1) g a b c f L q.2 w
theorem qc_nx {u : Sto} {l n : Nat} {f : Nat → Int32} {L : Nat} {w : Int32} {r : PW} : ∀ Ex s, ¬ QC u l n f L w r (.inr Ex) s := by
  intro Ex s h
  cases r with
  | error e => exact nomatch h.1
  | ok q => exact nomatch h.1
theorem qc_e {u v : Sto} {l n : Nat} {g2 : Nat → Int32} {a2 b2 c2 : Int32} {f : Nat → Int32} {L : Nat} {w : Int32} {R : PW} {q e : Nat} (h : R = .error e) (hd : dl v u) (hq : q ≤ L) : QC u l n f L w R (.inl (some (.int (nI 0)))) (LT v g2 a2 b2 c2 f L q (nI e)) := by
  rw [h]; exact ⟨rfl, v, g2, a2, b2, c2, q, hd, hq, rfl⟩
theorem cd_er {f : Nat → Int32} {L n p : Nat} {π : List Nat} {ws : List Int32} (h : wdB f L p 18 = true ∨ sgP f L p (nI 40)) (h6 : ¬ c3 π < 6) : cdF f L (n + 1) p π ws = .error p := by rw [cdF, if_pos h, if_neg h6]
theorem cd_go {f : Nat → Int32} {L n p : Nat} {π : List Nat} {ws : List Int32} (h : wdB f L p 18 = true ∨ sgP f L p (nI 40)) (h6 : c3 π < 6) : cdF f L (n + 1) p π ws = cdF f L n (nx f L p) ((if sgP f L p (nI 40) then 0 else 3) :: π) ws := by rw [cdF, if_pos h, if_pos h6]
theorem cd_pe {f : Nat → Int32} {L n p e : Nat} {π : List Nat} {ws : List Int32} (h : ¬ (wdB f L p 18 = true ∨ sgP f L p (nI 40))) (h6 : plnF f L p = .error e) : cdF f L (n + 1) p π ws = .error e := by rw [cdF, if_neg h, h6]
theorem cd_jn {f : Nat → Int32} {L n p r : Nat} {π : List Nat} {ws : List Int32} {q : List Int32 × Nat} {z : Nat × List Nat × List Int32} (h : ¬ (wdB f L p 18 = true ∨ sgP f L p (nI 40))) (h6 : plnF f L p = .ok q) (hz : clG f L 6 q.2 π [] = z) (ha : wdB f L z.1 25 = true ∨ wdB f L z.1 26 = true) (hr : r = if wdB f L z.1 25 = true then 2 else 1) : cdF f L (n + 1) p π ws = cdF f L n (nx f L z.1) (r :: (unW r z.2.1).2) (ws ++ q.1 ++ z.2.2 ++ (unW r z.2.1).1) := by
  rw [cdF, if_neg h, h6]
  simp only
  rw [clG_app, hz]
  simp only
  rw [if_pos ha, ← hr]
theorem cd_ed {f : Nat → Int32} {L n p : Nat} {π : List Nat} {ws : List Int32} {q : List Int32 × Nat} {z : Nat × List Nat × List Int32} (h : ¬ (wdB f L p 18 = true ∨ sgP f L p (nI 40))) (h6 : plnF f L p = .ok q) (hz : clG f L 6 q.2 π [] = z) (ha : ¬ (wdB f L z.1 25 = true ∨ wdB f L z.1 26 = true)) : cdF f L (n + 1) p π ws = if 0 < c0 z.2.1 then .error z.1 else .ok (ws ++ q.1 ++ z.2.2 ++ (unW 1 z.2.1).1, z.1) := by
  rw [cdF, if_neg h, h6]
  simp only
  rw [clG_app, hz]
  simp only
  rw [if_neg ha]
theorem adW_4 {u : Sto} {l n : Nat} {a b c d : List Int32} : adW (adW (adW (adW u l n a) l (n + a.length) b) l (n + a.length + b.length) c) l (n + a.length + b.length + c.length) d = adW u l n (a ++ b ++ c ++ d) := by
  rw [adW_app, adW_app, adW_app]
  simp only [List.length_append, Nat.add_assoc]
theorem qc_k {u v : Sto} {l n : Nat} {g2 : Nat → Int32} {a2 b2 c2 : Int32} {f : Nat → Int32} {L : Nat} {w : Int32} {R : PW} {q : Nat} {ws : List Int32} (h : R = .ok (ws, q)) (hq : q ≤ L) (hl : n + ws.length ≤ q) (hv : v = adW u l n ws) : QC u l n f L w R (.inl (some (.int (nI 1)))) (LT v g2 a2 b2 c2 f L q w) := by
  rw [h]; exact ⟨rfl, hq, hl, g2, a2, b2, c2, by rw [hv]⟩
theorem jn_sto {v : Sto} {g : Nat → Int32} {σ : List Nat} {m r : Nat} {f : Nat → Int32} {L p : Nat} {w : Int32} (h : c0 σ = m) (hr : r = 1 ∨ r = 2) : LT v g (nI (σ.length + 1)) (nI m) (nI (c3 σ)) f L p w = LT v g (nI (r :: σ).length) (nI (c0 (r :: σ))) (nI (c3 (r :: σ))) f L p w := by
  rcases hr with rfl | rfl <;> simp [c0, c3, h]
set_option maxHeartbeats 1000000 in
theorem c_X3_readCondition {E : EE} (g : Nat → Int32) (a b c : Int32) (f : Nat → Int32) (L p : Nat) (w : Int32) (l n : Nat) (hl0 : 0 < l) (hl : l ≤ 12) (u : Sto) (hf : u 1 = f) (hL : L ≤ 400) (hp : p ≤ L) (hx : u 43 5 = nI l) (hn : u 45 l = nI n) (hnp : n ≤ p) : CtP E 9 0 yX3_readCondition cX3_readCondition 2 (some .boolean) [.ref (E.ad 160)] (LT u g a b c f L p w) (QC u l n f L w (cdF f L 401 p [] [])) := by
  refine ctp_of (by decide) (Nat.le_of_ble_eq_true rfl) (fun X h hR hrt htab hargs => ?_)
  have LP : ∀ (j k q n2 : Nat) (v : Sto) (π : List Nat) (ws : List Int32) (g2 : Nat → Int32), k + j = 401 → q ≤ L → v = adW u l n ws → n2 = n + ws.length → n2 + c9 π ≤ q → gdL π → c3 π ≤ 6 → stkN g2 π → cdF f L 401 p [] [] = cdF f L j q π ws → G E X (QMP E X (QC u l n f L w (cdF f L 401 p [] [])) 0) 2 0 17 [(0, .ref (E.ad 160)), (1, .int (nI k))] [] (LT v g2 (nI π.length) (nI (c0 π)) (nI (c3 π)) f L q w) := by
    intro j
    induction j with
    | zero =>
      intro k q n2 v π ws g2 hk hq hv hn3 hnq hg h6 hst hr
      have hf2 : v 1 = f := by rw [hv, adW_c (by decide) (by decide)]; exact hf
      have hd : dl v u := by rw [hv]; exact dl_adW
      have hxv : v 43 5 = nI l := by rw [hv, adW_c (by decide) (by decide)]; exact hx
      have hnv : v 45 l = nI n2 := by rw [hv, hn3]; exact adW_n ws u n hn (by omega)
      refine g_iload_n h dX3_readCondition_17 rfl rfl ?_
      refine g_sipush (v := nI 400) h dX3_readCondition_18 (by decide) ?_
      refine g_icmp_gt (tgt := 123) h dX3_readCondition_21 (by decide) (fun c21 => ?_) (fun c21 => ?_)
      · have n21 := lt_n (by omega) (by omega) (show nI (400) < nI (k) from c21)
        refine g_aload_n h dX3_readCondition_123 rfl rfl ?_
        refine g_V h lv_X3_40_X3 sh_160 (by decide) rfl (c_X6_fail_160 f L q w (lfS v g2 (nI π.length) (nI (c0 π)) (nI (c3 π))) ((lf_oc (by decide) (by decide)).trans hf2) hL hq) (fitR hR (by decide) (by decide) (by omega)) rfl rfl (Nat.le_of_ble_eq_true rfl) dX3_readCondition_124 ?_
        skip
        · skip
          exact g_zretP h hrt dX3_readCondition_127 (by omega) (by first | exact Or.inl rfl | exact Or.inr rfl | simp) (qc_e hr hd hq)
      · have n21 := nlt_n (by omega) (by omega) (show ¬ nI (400) < nI (k) from c21)
        omega
    | succ j ih =>
      intro k q n2 v π ws g2 hk hq hv hn3 hnq hg h6 hst hr
      have hf2 : v 1 = f := by rw [hv, adW_c (by decide) (by decide)]; exact hf
      have hd : dl v u := by rw [hv]; exact dl_adW
      have hxv : v 43 5 = nI l := by rw [hv, adW_c (by decide) (by decide)]; exact hx
      have hnv : v 45 l = nI n2 := by rw [hv, hn3]; exact adW_n ws u n hn (by omega)
      refine g_iload_n h dX3_readCondition_17 rfl rfl ?_
      refine g_sipush (v := nI 400) h dX3_readCondition_18 (by decide) ?_
      refine g_icmp_gt (tgt := 123) h dX3_readCondition_21 (by decide) (fun c21 => ?_) (fun c21 => ?_)
      · have n21 := lt_n (by omega) (by omega) (show nI (400) < nI (k) from c21)
        omega
      · have n21 := nlt_n (by omega) (by omega) (show ¬ nI (400) < nI (k) from c21)
        refine g_aload_n h dX3_readCondition_24 rfl rfl ?_
        refine g_ldcS (tx := "not") (k := 18) h (by decide) dX3_readCondition_25 ?_
        refine g_V h lv_X3_49_X3 sh_160 (by decide) rfl (c_X6_atWord_160 f L q w 18 (by decide) (lfS v g2 (nI π.length) (nI (c0 π)) (nI (c3 π))) ((lf_oc (by decide) (by decide)).trans hf2) hL hq) (fitR hR (by decide) (by decide) (by omega)) rfl rfl (Nat.le_of_ble_eq_true rfl) dX3_readCondition_27 ?_
        by_cases n27 : wdB f L q 18 = true
        · refine g_top (b2_t n27) ?_
          refine g_if_ne (tgt := 42) h dX3_readCondition_30 (by decide) (fun _ => ?_) (fun q => absurd q (by decide))
          refine g_aload_n h dX3_readCondition_42 rfl rfl ?_
          refine g_getI h fl_X3_83_3 sh_160 (by decide) rfl dX3_readCondition_43 ?_
          refine g_top (tx_s (by decide)) ?_
          refine g_top lf_r11 ?_
          refine g_bipush (v := nI 6) h dX3_readCondition_46 (by decide) ?_
          refine g_icmp_lt (tgt := 56) h dX3_readCondition_48 (by decide) (fun c48 => ?_) (fun c48 => ?_)
          · have n48 := lt_n (by omega) (by omega) (show nI (c3 π) < nI (6) from c48)
            refine g_aload_n h dX3_readCondition_56 rfl rfl ?_
            refine g_V h lv_X3_91_X3 sh_160 (by decide) rfl (c_X3_goDeeper g2 π.length (c0 π) (c3 π) (by have := gd_40 hg h6; omega) f L q w v hf2 hL hq) (fitR hR (by decide) (by decide) (by omega)) rfl rfl (Nat.le_of_ble_eq_true rfl) dX3_readCondition_57 ?_
            by_cases n57 : sgP f L q (nI 40)
            · refine g_sto (if_pos n57) ?_
              refine g_goto (tgt := 117) h dX3_readCondition_60 (by decide) ?_
              refine g_iinc (v := nI (k + 1)) (ls' := [(0, _), (1, _)]) h dX3_readCondition_117 rfl (nI_1 k) (by decide) rfl rfl ?_
              refine g_goto (tgt := 17) h dX3_readCondition_120 (by decide) ?_
              have hlt : q < L := wd_lt n27
              have hq2 := nx_lt (f := f) hlt
              exact g_cv (by rfl) (by simp [c0, c3, Nat.add_comm]) (ih (k + 1) (nx f L q) n2 v (0 :: π) ws (upd g2 π.length (nI 0)) (by omega) (nx_b hq).2 hv hn3 (by simp [c9]; omega) ⟨hg, by decide, fun z => absurd z (by decide), fun z => absurd z (by decide)⟩ (by simp [c3]; omega) (stkN_push hst 0) (by rw [hr, cd_go (Or.inl n27) n48, if_pos n57]))
            · refine g_sto (if_neg n57) ?_
              refine g_goto (tgt := 117) h dX3_readCondition_60 (by decide) ?_
              refine g_iinc (v := nI (k + 1)) (ls' := [(0, _), (1, _)]) h dX3_readCondition_117 rfl (nI_1 k) (by decide) rfl rfl ?_
              refine g_goto (tgt := 17) h dX3_readCondition_120 (by decide) ?_
              have hlt : q < L := wd_lt n27
              have hq2 := nx_lt (f := f) hlt
              exact g_cv (by rfl) (by simp [c0, c3, Nat.add_comm]) (ih (k + 1) (nx f L q) n2 v (3 :: π) ws (upd g2 π.length (nI 3)) (by omega) (nx_b hq).2 hv hn3 (by simp [c9]; omega) ⟨hg, by decide, fun z => absurd z (by decide), fun z => absurd z (by decide)⟩ (by simp [c3]; omega) (stkN_push hst 3) (by rw [hr, cd_go (Or.inl n27) n48, if_neg n57]))
          · have n48 := nlt_n (by omega) (by omega) (show ¬ nI (c3 π) < nI (6) from c48)
            refine g_aload_n h dX3_readCondition_51 rfl rfl ?_
            refine g_V h lv_X3_40_X3 sh_160 (by decide) rfl (c_X6_fail_160 f L q w (lfS v g2 (nI π.length) (nI (c0 π)) (nI (c3 π))) ((lf_oc (by decide) (by decide)).trans hf2) hL hq) (fitR hR (by decide) (by decide) (by omega)) rfl rfl (Nat.le_of_ble_eq_true rfl) dX3_readCondition_52 ?_
            skip
            · skip
              exact g_zretP h hrt dX3_readCondition_55 (by omega) (by first | exact Or.inl rfl | exact Or.inr rfl | simp) (qc_e (hr.trans (cd_er (Or.inl n27) (by omega))) hd hq)
        · refine g_top (b2_f n27) ?_
          refine g_if_ne (tgt := 42) h dX3_readCondition_30 (by decide) (fun q => absurd q (by decide)) (fun _ => ?_)
          refine g_aload_n h dX3_readCondition_33 rfl rfl ?_
          refine g_bipush (v := nI 40) h dX3_readCondition_34 (by decide) ?_
          refine g_V h lv_X3_88_X3 sh_160 (by decide) rfl (c_X6_atSign_160 f L q w (nI 40) (lfS v g2 (nI π.length) (nI (c0 π)) (nI (c3 π))) ((lf_oc (by decide) (by decide)).trans hf2) hL hq) (fitR hR (by decide) (by decide) (by omega)) rfl rfl (Nat.le_of_ble_eq_true rfl) dX3_readCondition_36 ?_
          by_cases n36 : sgP f L q (nI 40)
          · refine g_top (b2_t n36) ?_
            refine g_if_eq (tgt := 63) h dX3_readCondition_39 (by decide) (fun q => absurd q (by decide)) (fun _ => ?_)
            refine g_aload_n h dX3_readCondition_42 rfl rfl ?_
            refine g_getI h fl_X3_83_3 sh_160 (by decide) rfl dX3_readCondition_43 ?_
            refine g_top (tx_s (by decide)) ?_
            refine g_top lf_r11 ?_
            refine g_bipush (v := nI 6) h dX3_readCondition_46 (by decide) ?_
            refine g_icmp_lt (tgt := 56) h dX3_readCondition_48 (by decide) (fun c48 => ?_) (fun c48 => ?_)
            · have n48 := lt_n (by omega) (by omega) (show nI (c3 π) < nI (6) from c48)
              refine g_aload_n h dX3_readCondition_56 rfl rfl ?_
              refine g_V h lv_X3_91_X3 sh_160 (by decide) rfl (c_X3_goDeeper g2 π.length (c0 π) (c3 π) (by have := gd_40 hg h6; omega) f L q w v hf2 hL hq) (fitR hR (by decide) (by decide) (by omega)) rfl rfl (Nat.le_of_ble_eq_true rfl) dX3_readCondition_57 ?_
              by_cases n57 : sgP f L q (nI 40)
              · refine g_sto (if_pos n57) ?_
                refine g_goto (tgt := 117) h dX3_readCondition_60 (by decide) ?_
                refine g_iinc (v := nI (k + 1)) (ls' := [(0, _), (1, _)]) h dX3_readCondition_117 rfl (nI_1 k) (by decide) rfl rfl ?_
                refine g_goto (tgt := 17) h dX3_readCondition_120 (by decide) ?_
                have hlt : q < L := sg_lt n36
                have hq2 := nx_lt (f := f) hlt
                exact g_cv (by rfl) (by simp [c0, c3, Nat.add_comm]) (ih (k + 1) (nx f L q) n2 v (0 :: π) ws (upd g2 π.length (nI 0)) (by omega) (nx_b hq).2 hv hn3 (by simp [c9]; omega) ⟨hg, by decide, fun z => absurd z (by decide), fun z => absurd z (by decide)⟩ (by simp [c3]; omega) (stkN_push hst 0) (by rw [hr, cd_go (Or.inr n36) n48, if_pos n57]))
              · refine g_sto (if_neg n57) ?_
                refine g_goto (tgt := 117) h dX3_readCondition_60 (by decide) ?_
                refine g_iinc (v := nI (k + 1)) (ls' := [(0, _), (1, _)]) h dX3_readCondition_117 rfl (nI_1 k) (by decide) rfl rfl ?_
                refine g_goto (tgt := 17) h dX3_readCondition_120 (by decide) ?_
                have hlt : q < L := sg_lt n36
                have hq2 := nx_lt (f := f) hlt
                exact g_cv (by rfl) (by simp [c0, c3, Nat.add_comm]) (ih (k + 1) (nx f L q) n2 v (3 :: π) ws (upd g2 π.length (nI 3)) (by omega) (nx_b hq).2 hv hn3 (by simp [c9]; omega) ⟨hg, by decide, fun z => absurd z (by decide), fun z => absurd z (by decide)⟩ (by simp [c3]; omega) (stkN_push hst 3) (by rw [hr, cd_go (Or.inr n36) n48, if_neg n57]))
            · have n48 := nlt_n (by omega) (by omega) (show ¬ nI (c3 π) < nI (6) from c48)
              refine g_aload_n h dX3_readCondition_51 rfl rfl ?_
              refine g_V h lv_X3_40_X3 sh_160 (by decide) rfl (c_X6_fail_160 f L q w (lfS v g2 (nI π.length) (nI (c0 π)) (nI (c3 π))) ((lf_oc (by decide) (by decide)).trans hf2) hL hq) (fitR hR (by decide) (by decide) (by omega)) rfl rfl (Nat.le_of_ble_eq_true rfl) dX3_readCondition_52 ?_
              skip
              · skip
                exact g_zretP h hrt dX3_readCondition_55 (by omega) (by first | exact Or.inl rfl | exact Or.inr rfl | simp) (qc_e (hr.trans (cd_er (Or.inr n36) (by omega))) hd hq)
          · refine g_top (b2_f n36) ?_
            refine g_if_eq (tgt := 63) h dX3_readCondition_39 (by decide) (fun _ => ?_) (fun q => absurd q (by decide))
            refine g_aload_n h dX3_readCondition_63 rfl rfl ?_
            refine g_VP h lv_X3_94_X3 sh_160 (by decide) rfl (c_X3_readAtom g2 (nI π.length) (nI (c0 π)) (nI (c3 π)) f L q w l n2 hl0 hl v hf2 hL hq hxv hnv (by omega)) qw_nx (fitR hR (by decide) (by decide) (by omega)) rfl rfl (Nat.le_of_ble_eq_true rfl) dX3_readCondition_64 (fun v64 u64 hs64 => ?_)
            cases h64 : plnF f L q
            · rename_i e64
              rw [h64] at hs64
              obtain ⟨hv64, u64, g64, a64, b64, c64, p64, hd64, hp64, rfl⟩ := hs64
              cases hv64
              refine g_if_ne (tgt := 72) h dX3_readCondition_67 (by decide) (fun q => absurd q (by decide)) (fun _ => ?_)
              refine g_iconst (v := nI 0) h dX3_readCondition_70 (by decide) ?_
              exact g_zretP h hrt dX3_readCondition_71 (by omega) (by first | exact Or.inl rfl | exact Or.inr rfl | simp) (qc_e (hr.trans (cd_pe (fun z => z.elim n27 n36) h64)) (hd64.trans hd) hp64)
            · rename_i q64
              rw [h64] at hs64
              obtain ⟨hv64, rfl⟩ := hs64
              cases hv64
              have B := pln_b hq h64
              have hfA : (adW v l n2 q64.1) 1 = f := by rw [adW_c (by decide) (by decide)]; exact hf2
              have hxA : (adW v l n2 q64.1) 43 5 = nI l := by rw [adW_c (by decide) (by decide)]; exact hxv
              have hnA : (adW v l n2 q64.1) 45 l = nI (n2 + q64.1.length) := adW_n _ _ _ hnv (by omega)
              refine g_if_ne (tgt := 72) h dX3_readCondition_67 (by decide) (fun _ => ?_) (fun q => absurd q (by decide))
              refine g_aload_n h dX3_readCondition_72 rfl rfl ?_
              refine g_V h lv_X3_97_X3 sh_160 (by decide) rfl (c_X3_closeAll g2 f L q64.2 w l (n2 + q64.1.length) hl0 hl π (adW v l n2 q64.1) hfA hL B.2.1 hxA hnA hst hg h6 (by omega)) (fitR hR (by decide) (by decide) (by omega)) rfl rfl (Nat.le_of_ble_eq_true rfl) dX3_readCondition_73 ?_
              have K := cl_ok (f := f) (L := L) (g := g2) 6 q64.2 π B.2.1 hg hst
              generalize hz : clG f L 6 q64.2 π [] = z at K ⊢
              obtain ⟨K1, K2, K3, K4, K5, K6⟩ := K
              have hfB : (adW (adW v l n2 q64.1) l (n2 + q64.1.length) z.2.2) 1 = f := by rw [adW_c (by decide) (by decide)]; exact hfA
              have hxB : (adW (adW v l n2 q64.1) l (n2 + q64.1.length) z.2.2) 43 5 = nI l := by rw [adW_c (by decide) (by decide)]; exact hxA
              have hnB : (adW (adW v l n2 q64.1) l (n2 + q64.1.length) z.2.2) 45 l = nI (n2 + q64.1.length + z.2.2.length) := adW_n _ _ _ hnA (by omega)
              refine g_aload_n h dX3_readCondition_76 rfl rfl ?_
              refine g_ldcS (tx := "and") (k := 25) h (by decide) dX3_readCondition_77 ?_
              refine g_V h lv_X3_49_X3 sh_160 (by decide) rfl (c_X6_atWord_160 f L z.1 w 25 (by decide) (lfS (adW (adW v l n2 q64.1) l (n2 + q64.1.length) z.2.2) g2 (nI z.2.1.length) (nI (c0 z.2.1)) (nI (c3 z.2.1))) ((lf_oc (by decide) (by decide)).trans hfB) hL K1) (fitR hR (by decide) (by decide) (by omega)) rfl rfl (Nat.le_of_ble_eq_true rfl) dX3_readCondition_79 ?_
              by_cases n79 : wdB f L z.1 25 = true
              · refine g_top (b2_t n79) ?_
                refine g_if_ne (tgt := 99) h dX3_readCondition_82 (by decide) (fun _ => ?_) (fun q => absurd q (by decide))
                refine g_aload_n h dX3_readCondition_99 rfl rfl ?_
                refine g_aload_n h dX3_readCondition_100 rfl rfl ?_
                refine g_ldcS (tx := "and") (k := 25) h (by decide) dX3_readCondition_101 ?_
                refine g_V h lv_X3_49_X3 sh_160 (by decide) rfl (c_X6_atWord_160 f L z.1 w 25 (by decide) (lfS (adW (adW v l n2 q64.1) l (n2 + q64.1.length) z.2.2) g2 (nI z.2.1.length) (nI (c0 z.2.1)) (nI (c3 z.2.1))) ((lf_oc (by decide) (by decide)).trans hfB) hL K1) (fitR hR (by decide) (by decide) (by omega)) rfl rfl (Nat.le_of_ble_eq_true rfl) dX3_readCondition_103 ?_
                by_cases n103 : wdB f L z.1 25 = true
                · refine g_top (b2_t n103) ?_
                  refine g_if_eq (tgt := 113) h dX3_readCondition_106 (by decide) (fun q => absurd q (by decide)) (fun _ => ?_)
                  refine g_iconst (v := nI 2) h dX3_readCondition_109 (by decide) ?_
                  refine g_goto (tgt := 114) h dX3_readCondition_110 (by decide) ?_
                  refine g_V h lv_X3_107_X3 sh_160 (by decide) rfl (c_X3_joinOn g2 (nI (c0 z.2.1)) f L z.1 w l (n2 + q64.1.length + z.2.2.length) hl0 hl 2 (by decide) (by decide) z.2.1 (adW (adW v l n2 q64.1) l (n2 + q64.1.length) z.2.2) hfB hL K1 hxB hnB K3 K2 (by omega) (by omega)) (fitR hR (by decide) (by decide) (by omega)) rfl rfl (Nat.le_of_ble_eq_true rfl) dX3_readCondition_114 ?_
                  refine g_iinc (v := nI (k + 1)) (ls' := [(0, _), (1, _)]) h dX3_readCondition_117 rfl (nI_1 k) (by decide) rfl rfl ?_
                  refine g_goto (tgt := 17) h dX3_readCondition_120 (by decide) ?_
                  have U9 := un_c9 (r := 2) (by decide) (π := z.2.1)
                  have U3 := un_c3 (r := 2) (π := z.2.1)
                  have hzl := nx_lt (f := f) (wd_lt n79)
                  exact g_cv (by rfl) (jn_sto (un_c0 (by decide)) (by decide)) (ih (k + 1) (nx f L z.1) (n2 + q64.1.length + z.2.2.length + (unW 2 z.2.1).1.length) (adW (adW (adW v l n2 q64.1) l (n2 + q64.1.length) z.2.2) l (n2 + q64.1.length + z.2.2.length) (unW 2 z.2.1).1) (2 :: (unW 2 z.2.1).2) (ws ++ q64.1 ++ z.2.2 ++ (unW 2 z.2.1).1) (upd g2 (unW 2 z.2.1).2.length (nI 2)) (by omega) (nx_b K1).2 (by rw [hv, hn3]; exact adW_4) (by rw [List.length_append, List.length_append, List.length_append, hn3]; omega) (by simp [c9]; omega) ⟨un_gd K2, by decide, fun _ => un_hd (by decide), fun z => absurd z (by decide)⟩ (by simp [c3]; omega) (stkN_push (un_st K3) 2) (by rw [hr, cd_jn (r := 2) (fun z => z.elim n27 n36) h64 hz (Or.inl n79) (by simp [n79])]))
                · exact absurd n79 n103
              · refine g_top (b2_f n79) ?_
                refine g_if_ne (tgt := 99) h dX3_readCondition_82 (by decide) (fun q => absurd q (by decide)) (fun _ => ?_)
                refine g_aload_n h dX3_readCondition_85 rfl rfl ?_
                refine g_ldcS (tx := "or") (k := 26) h (by decide) dX3_readCondition_86 ?_
                refine g_V h lv_X3_49_X3 sh_160 (by decide) rfl (c_X6_atWord_160 f L z.1 w 26 (by decide) (lfS (adW (adW v l n2 q64.1) l (n2 + q64.1.length) z.2.2) g2 (nI z.2.1.length) (nI (c0 z.2.1)) (nI (c3 z.2.1))) ((lf_oc (by decide) (by decide)).trans hfB) hL K1) (fitR hR (by decide) (by decide) (by omega)) rfl rfl (Nat.le_of_ble_eq_true rfl) dX3_readCondition_88 ?_
                by_cases n88 : wdB f L z.1 26 = true
                · refine g_top (b2_t n88) ?_
                  refine g_if_ne (tgt := 99) h dX3_readCondition_91 (by decide) (fun _ => ?_) (fun q => absurd q (by decide))
                  refine g_aload_n h dX3_readCondition_99 rfl rfl ?_
                  refine g_aload_n h dX3_readCondition_100 rfl rfl ?_
                  refine g_ldcS (tx := "and") (k := 25) h (by decide) dX3_readCondition_101 ?_
                  refine g_V h lv_X3_49_X3 sh_160 (by decide) rfl (c_X6_atWord_160 f L z.1 w 25 (by decide) (lfS (adW (adW v l n2 q64.1) l (n2 + q64.1.length) z.2.2) g2 (nI z.2.1.length) (nI (c0 z.2.1)) (nI (c3 z.2.1))) ((lf_oc (by decide) (by decide)).trans hfB) hL K1) (fitR hR (by decide) (by decide) (by omega)) rfl rfl (Nat.le_of_ble_eq_true rfl) dX3_readCondition_103 ?_
                  by_cases n103 : wdB f L z.1 25 = true
                  · exact absurd n103 n79
                  · refine g_top (b2_f n103) ?_
                    refine g_if_eq (tgt := 113) h dX3_readCondition_106 (by decide) (fun _ => ?_) (fun q => absurd q (by decide))
                    refine g_iconst (v := nI 1) h dX3_readCondition_113 (by decide) ?_
                    refine g_V h lv_X3_107_X3 sh_160 (by decide) rfl (c_X3_joinOn g2 (nI (c0 z.2.1)) f L z.1 w l (n2 + q64.1.length + z.2.2.length) hl0 hl 1 (by decide) (by decide) z.2.1 (adW (adW v l n2 q64.1) l (n2 + q64.1.length) z.2.2) hfB hL K1 hxB hnB K3 K2 (by omega) (by omega)) (fitR hR (by decide) (by decide) (by omega)) rfl rfl (Nat.le_of_ble_eq_true rfl) dX3_readCondition_114 ?_
                    refine g_iinc (v := nI (k + 1)) (ls' := [(0, _), (1, _)]) h dX3_readCondition_117 rfl (nI_1 k) (by decide) rfl rfl ?_
                    refine g_goto (tgt := 17) h dX3_readCondition_120 (by decide) ?_
                    have U9 := un_c9 (r := 1) (by decide) (π := z.2.1)
                    have U3 := un_c3 (r := 1) (π := z.2.1)
                    have hzl := nx_lt (f := f) (wd_lt n88)
                    exact g_cv (by rfl) (jn_sto (un_c0 (by decide)) (by decide)) (ih (k + 1) (nx f L z.1) (n2 + q64.1.length + z.2.2.length + (unW 1 z.2.1).1.length) (adW (adW (adW v l n2 q64.1) l (n2 + q64.1.length) z.2.2) l (n2 + q64.1.length + z.2.2.length) (unW 1 z.2.1).1) (1 :: (unW 1 z.2.1).2) (ws ++ q64.1 ++ z.2.2 ++ (unW 1 z.2.1).1) (upd g2 (unW 1 z.2.1).2.length (nI 1)) (by omega) (nx_b K1).2 (by rw [hv, hn3]; exact adW_4) (by rw [List.length_append, List.length_append, List.length_append, hn3]; omega) (by simp [c9]; omega) ⟨un_gd K2, by decide, fun z => absurd z (by decide), fun _ => un_hd (by decide)⟩ (by simp [c3]; omega) (stkN_push (un_st K3) 1) (by rw [hr, cd_jn (r := 1) (fun z => z.elim n27 n36) h64 hz (Or.inr n88) (by simp [n79])]))
                · refine g_top (b2_f n88) ?_
                  refine g_if_ne (tgt := 99) h dX3_readCondition_91 (by decide) (fun q => absurd q (by decide)) (fun _ => ?_)
                  refine g_aload_n h dX3_readCondition_94 rfl rfl ?_
                  refine g_VP h lv_X3_104_X3 sh_160 (by decide) rfl (c_X3_endCondition g2 f L z.1 w l (n2 + q64.1.length + z.2.2.length) hl0 hl z.2.1 (adW (adW v l n2 q64.1) l (n2 + q64.1.length) z.2.2) hfB hL K1 hxB hnB K3 K2 (by omega) (by omega)) (by rintro Ex s (⟨_, h, _⟩ | ⟨_, h, _⟩) <;> exact nomatch h) (fitR hR (by decide) (by decide) (by omega)) rfl rfl (Nat.le_of_ble_eq_true rfl) dX3_readCondition_95 (fun v95 u95 hs95 => ?_)
                  rcases hs95 with ⟨n95, hv95, u95, g95, a95, b95, c95, p95, hd95, hp95, rfl⟩ | ⟨n95, hv95, a95, b95, c95, rfl⟩
                  · cases hv95
                    exact g_zretP h hrt dX3_readCondition_98 (by omega) (by first | exact Or.inl rfl | exact Or.inr rfl | simp) (qc_e (hr.trans ((cd_ed (fun z => z.elim n27 n36) h64 hz (fun z => z.elim n79 n88)).trans (if_pos n95))) (hd95.trans (dl_adW.trans (dl_adW.trans hd))) hp95)
                  · cases hv95
                    exact g_zretP h hrt dX3_readCondition_98 (by omega) (by first | exact Or.inl rfl | exact Or.inr rfl | simp) (qc_k (hr.trans ((cd_ed (fun z => z.elim n27 n36) h64 hz (fun z => z.elim n79 n88)).trans (if_neg n95))) K1 (by rw [List.length_append, List.length_append, List.length_append]; have := un_c9 (r := 1) (by decide) (π := z.2.1); omega) (by rw [hv, hn3]; exact adW_4))
  refine g_aload_n h dX3_readCondition_0 rfl rfl ?_
  refine g_iconst (v := nI 0) h dX3_readCondition_1 (by decide) ?_
  refine g_putI h pfl_X3_76_3 sh_160 (by decide) rfl dX3_readCondition_2 ?_
  refine g_sto (tx_su7 (by decide)) ?_
  refine g_sto (tx_in lf_w9) ?_
  refine g_aload_n h dX3_readCondition_5 rfl rfl ?_
  refine g_iconst (v := nI 0) h dX3_readCondition_6 (by decide) ?_
  refine g_putI h pfl_X3_80_3 sh_160 (by decide) rfl dX3_readCondition_7 ?_
  refine g_sto (tx_su7 (by decide)) ?_
  refine g_sto (tx_in lf_w10) ?_
  refine g_aload_n h dX3_readCondition_10 rfl rfl ?_
  refine g_iconst (v := nI 0) h dX3_readCondition_11 (by decide) ?_
  refine g_putI h pfl_X3_83_3 sh_160 (by decide) rfl dX3_readCondition_12 ?_
  refine g_sto (tx_su7 (by decide)) ?_
  refine g_sto (tx_in lf_w11) ?_
  refine g_iconst (v := nI 0) h dX3_readCondition_15 (by decide) ?_
  refine g_istore_n (ls' := [(0, _), (1, _)]) h dX3_readCondition_16 rfl (by decide) rfl rfl ?_
  exact LP 401 0 p n u [] [] g (by omega) hp rfl rfl (by simp [c9]; omega) trivial (by decide) trivial rfl
