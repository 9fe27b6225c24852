-- after: 38.r 39.s 40.t 47.str 48.tx 49.ty 50.tt 51.tu 52.tv 53.lw 54.lx 55.ly 56.lz 57.ma 58.mb 59.mc 60.md
theorem ten_ok {T W : Nat} {mo own shu f : Nat → Int32} {L p : Nat} {q : TL × Nat} (hT : T ≤ 10) (h : tenD T f L p = .ok q) : tOK T W q.1 := by
  unfold tenD at h
  split at h
  · rename_i h1
    split at h
    · rename_i h2
      split at h
      · rename_i h3
        split at h
        · rename_i h4
          split at h
          · rename_i h5
            split at h
            · rename_i h6
              cases h
              exact h1
            · exact nomatch h
          · exact nomatch h
        · exact nomatch h
      · exact nomatch h
    · exact nomatch h
  · exact nomatch h
theorem chl_ok {T W : Nat} {mo own shu f : Nat → Int32} {L p : Nat} {q : TL × Nat} (hT : T ≤ 10) (h : chlD T mo f L p = .ok q) : tOK T W q.1 := by
  unfold chlD at h
  split at h
  · rename_i h1
    split at h
    · rename_i h2
      split at h
      · rename_i h3
        cases h
        obtain ⟨k3, e3, f3⟩ := nu_T hT h3.1
        exact ⟨h1, k3, f3, e3⟩
      · exact nomatch h
    · exact nomatch h
  · exact nomatch h
theorem let_ok {T W : Nat} {mo own shu f : Nat → Int32} {L p : Nat} {q : TL × Nat} (hT : T ≤ 10) (h : letD T mo own shu f L p = .ok q) : tOK T W q.1 := by
  unfold letD at h
  split at h
  · rename_i h1
    split at h
    · rename_i h2
      split at h
      · rename_i h3
        split at h
        · rename_i h4
          split at h
          · rename_i h5
            split at h
            · rename_i h6
              cases h
              obtain ⟨k1, e1, _, g1⟩ := nu_ix h1
              obtain ⟨k2, e2, _, g2⟩ := nu_ix h2
              rw [e2] at h4
              obtain ⟨k4, e4, i4, g4⟩ := nu_ix h4
              obtain ⟨k6, e6, f6⟩ := nu_T hT h6.1
              refine ⟨?_, ?_, ?_⟩
              · rw [e6, ix_nI (by omega)]; exact f6
              · rw [e1, e4, ix_nI (by omega), ix_nI (by omega)]; omega
              · rw [e2, e4, ix_nI (by omega), ix_nI (by omega)]; exact i4
            · exact nomatch h
          · exact nomatch h
        · exact nomatch h
      · exact nomatch h
    · exact nomatch h
  · exact nomatch h
theorem gds_ok {T W : Nat} {mo own shu f : Nat → Int32} {L p : Nat} {q : TL × Nat} (hT : T ≤ 10) (h : gdsD f L p = .ok q) : tOK T W q.1 := by
  unfold gdsD at h
  split at h
  · rename_i h1
    split at h
    · rename_i h2
      split at h
      · rename_i h3
        cases h
        obtain ⟨k1, e1, _, g1⟩ := nu_ix h1
        obtain ⟨k2, e2, _, g2⟩ := nu_ix h2
        exact (show ix (nmI f L (nx f L p)) * 24 + ix (nmI f L (nx f L (nx f L p))) < 168 by rw [e1, e2, ix_nI (by omega), ix_nI (by omega)]; omega)
      · exact nomatch h
    · exact nomatch h
  · exact nomatch h
theorem sht_ok {T W : Nat} {mo own shu f : Nat → Int32} {L p : Nat} {q : TL × Nat} (hT : T ≤ 10) (h : shtD own f L p = .ok q) : tOK T W q.1 := by
  unfold shtD at h
  split at h
  · rename_i h1
    split at h
    · rename_i h2
      split at h
      · rename_i h3
        cases h
        obtain ⟨k1, e1, _, g1⟩ := nu_ix h1
        obtain ⟨k2, e2, _, g2⟩ := nu_ix h2
        exact (show ix (nmI f L (nx f L p)) * 24 + ix (nmI f L (nx f L (nx f L p))) < 168 by rw [e1, e2, ix_nI (by omega), ix_nI (by omega)]; omega)
      · exact nomatch h
    · exact nomatch h
  · exact nomatch h
theorem sbt_ok {T W : Nat} {mo own shu f : Nat → Int32} {L p : Nat} {q : TL × Nat} (hT : T ≤ 10) (h : sbtD T mo own f L p = .ok q) : tOK T W q.1 := by
  unfold sbtD at h
  split at h
  · rename_i h1
    split at h
    · rename_i h2
      split at h
      · rename_i h3
        split at h
        · rename_i h4
          split at h
          · rename_i h5
            cases h
            obtain ⟨k1, e1, _, g1⟩ := nu_ix h1
            obtain ⟨k2, e2, _, g2⟩ := nu_ix h2
            obtain ⟨k4, e4, f4⟩ := nu_T hT h4.1
            exact ⟨(show ix (nmI f L (nx f L p)) * 24 + ix (nmI f L (nx f L (nx f L p))) < 168 by rw [e1, e2, ix_nI (by omega), ix_nI (by omega)]; omega), k4, f4, e4⟩
          · exact nomatch h
        · exact nomatch h
      · exact nomatch h
    · exact nomatch h
  · exact nomatch h
theorem wnt_ok {T W : Nat} {mo own shu f : Nat → Int32} {L p : Nat} {q : TL × Nat} (hT : T ≤ 10) (h : wntD T W mo f L p = .ok q) : tOK T W q.1 := by
  unfold wntD at h
  split at h
  · rename_i h1
    split at h
    · rename_i h2
      split at h
      · rename_i h3
        split at h
        · rename_i h4
          split at h
          · rename_i h5
            split at h
            · rename_i h6
              split at h
              · rename_i h7
                cases h
                obtain ⟨k2, e2, f2⟩ := nu_T hT h2.1
                exact ⟨h1, k2, f2, e2⟩
              · exact nomatch h
            · exact nomatch h
          · exact nomatch h
        · exact nomatch h
      · exact nomatch h
    · exact nomatch h
  · exact nomatch h
theorem chc_ok {T W : Nat} {mo own shu f : Nat → Int32} {L p : Nat} {q : TL × Nat} (hT : T ≤ 10) (h : chcD f L p = .ok q) : tOK T W q.1 := by
  unfold chcD at h
  split at h
  · rename_i h1
    cases h
    exact trivial
  · exact nomatch h
theorem tw_ok {T W : Nat} {mo own shu f : Nat → Int32} {L p : Nat} {q : TL × Nat} (hT : T ≤ 10) (h : twD T W mo own shu f L p = .ok q) : tOK T W q.1 := by
  unfold twD at h
  split at h
  · exact ten_ok (mo := mo) (own := own) (shu := shu) hT h
  · split at h
    · exact chl_ok (own := own) (shu := shu) hT h
    · split at h
      · exact let_ok hT h
      · split at h
        · exact gds_ok (mo := mo) (own := own) (shu := shu) hT h
        · split at h
          · exact sht_ok (mo := mo) (shu := shu) hT h
          · split at h
            · exact sbt_ok (shu := shu) hT h
            · split at h
              · exact wnt_ok (own := own) (shu := shu) hT h
              · split at h
                · exact chc_ok (mo := mo) (own := own) (shu := shu) hT h
                · exact nomatch h
def tlsD (f : Nat → Int32) (L : Nat) : Nat → Nat → Nat → Sto → Nat → Except Nat Sto
  | 0, _, _, _, p => .error p
  | k + 1, T, W, u, p => match twD T W (u 37) (u 28) (u 38) f L p with
    | .error e => .error e
    | .ok q => if kdN f L q.2 = 0 then .ok (apL u T W q.1) else if sgP f L q.2 (nI 59) then tlsD f L k (T + tT q.1) (W + tW q.1) (apL u T W q.1) (nx f L q.2) else .error q.2
def twnT (f : Nat → Int32) (L T W : Nat) (u : Sto) : Except Nat Sto := if kdN f L (skp f L 0) = 0 then .ok u else tlsD f L 14 T W u (skp f L 0)
section TLS
variable {f : Nat → Int32} {L k T W p : Nat} {u : Sto}
theorem tl_e {e : Nat} (h : twD T W (u 37) (u 28) (u 38) f L p = .error e) : tlsD f L (k + 1) T W u p = .error e := by rw [tlsD, h]
theorem tl_1 {q : TL × Nat} (h : twD T W (u 37) (u 28) (u 38) f L p = .ok q) (h2 : kdN f L q.2 = 0) : tlsD f L (k + 1) T W u p = .ok (apL u T W q.1) := by rw [tlsD, h]; exact if_pos h2
theorem tl_s {q : TL × Nat} (h : twD T W (u 37) (u 28) (u 38) f L p = .ok q) (h2 : ¬ kdN f L q.2 = 0) (h3 : ¬ sgP f L q.2 (nI 59)) : tlsD f L (k + 1) T W u p = .error q.2 := by rw [tlsD, h]; exact (if_neg h2).trans (if_neg h3)
theorem tl_r {q : TL × Nat} (h : twD T W (u 37) (u 28) (u 38) f L p = .ok q) (h2 : ¬ kdN f L q.2 = 0) (h3 : sgP f L q.2 (nI 59)) : tlsD f L (k + 1) T W u p = tlsD f L k (T + tT q.1) (W + tW q.1) (apL u T W q.1) (nx f L q.2) := by rw [tlsD, h]; exact (if_neg h2).trans (if_pos h3)
end TLS
def dz (a b : Sto) : Prop := ∀ k, k < 26 ∨ 42 < k → a k = b k
theorem dz.refl (a : Sto) : dz a a := fun _ _ => rfl
theorem dz.trans {a b c : Sto} (h : dz a b) (h2 : dz b c) : dz a c := fun k hk => (h k hk).trans (h2 k hk)
def QT (u : Sto) (f : Nat → Int32) (L : Nat) (r : Except Nat Sto) : Res → Sto → Prop := fun o s => match r with
  | .error e => o = .inl (some (.int (nI e))) ∧ ∃ u' a b c d p w, dz u' u ∧ s = TT u' a b c d f L p w
  | .ok v => o = .inl (some (.int (-1))) ∧ ∃ a b c d p w, s = TT v a b c d f L p w
theorem qt_nx {u : Sto} {f : Nat → Int32} {L : Nat} {r : Except Nat Sto} : ∀ Ex s, ¬ QT u f L r (.inr Ex) s := by
  intro Ex s h
  cases r with
  | error e => exact nomatch h.1
  | ok q => exact nomatch h.1
theorem qt_e {u v : Sto} {a b c d : Int32} {f : Nat → Int32} {L p e : Nat} {w : Int32} {R : Except Nat Sto} (h : R = .error e) (hd : dz v u) : QT u f L R (.inl (some (.int (nI e)))) (TT v a b c d f L p w) := by
  rw [h]; exact ⟨rfl, v, a, b, c, d, p, w, hd, rfl⟩
theorem qt_k {u v : Sto} {a b c d : Int32} {f : Nat → Int32} {L p : Nat} {w : Int32} {R : Except Nat Sto} (h : R = .ok v) : QT u f L R (.inl (some (.int (-1)))) (TT v a b c d f L p w) := by
  rw [h]; exact ⟨rfl, a, b, c, d, p, w, rfl⟩
set_option maxHeartbeats 1000000 in
theorem c_X8_readTown {E : EE} (f : Nat → Int32) (L T W : Nat) (u : Sto) (hf : u 1 = f) (hL : L ≤ 400) (hD : DI u T W) : CtP E 11 0 yX8_readTown cX8_readTown 4 (some .int) [.ref (E.ad 159), .int (nI L)] u (QT u f L (twnT f L T W u)) := by
  refine ctp_of (by decide) (Nat.le_of_ble_eq_true rfl) (fun X h hR hrt htab hargs => ?_)
  have DN : ∀ (k q : Nat) (v : Sto) (a b c d w : Int32), k ≤ 14 → q ≤ L → v 1 = f → QT u f L (twnT f L T W u) (.inl (some (.int w))) (TT v a b c d f L q w) → G E X (QMP E X (QT u f L (twnT f L T W u)) 0) 4 0 20 [(0, .ref (E.ad 159)), (1, .int (nI L)), (2, .int (nI 0)), (3, .int (nI k))] [] (TT v a b c d f L q w) := by
    intro k q v a b c d w hk hq hf2 hQ
    refine g_iload_n h dX8_readTown_20 rfl rfl ?_
    refine g_bipush (v := nI 14) h dX8_readTown_21 (by decide) ?_
    refine g_icmp_ge (tgt := 65) h dX8_readTown_23 (by decide) (fun c23 => ?_) (fun c23 => ?_)
    · have n23 := le_n (by omega) (by omega) (show nI (14) ≤ nI (k) from c23)
      refine g_iload_n h dX8_readTown_65 rfl rfl ?_
      refine g_if_eq (tgt := 74) h dX8_readTown_66 (by decide) (fun _ => ?_) (fun q => absurd q (by decide))
      refine g_aload_n h dX8_readTown_74 rfl rfl ?_
      refine g_V h lv_X8_41_X8 sh_159 (by decide) rfl (c_X6_firstWrong_159 f L q w (tfS v a b c d) ((tf_oc (by decide)).trans hf2) hL hq) (fitR hR (by decide) (by decide) (by omega)) rfl rfl (Nat.le_of_ble_eq_true rfl) dX8_readTown_75 ?_
      exact g_iretP h hrt dX8_readTown_78 (by omega) hQ
    · have n23 := nle_n (by omega) (by omega) (show ¬ nI (14) ≤ nI (k) from c23)
      refine g_iload_n h dX8_readTown_26 rfl rfl ?_
      refine g_if_eq (tgt := 65) h dX8_readTown_27 (by decide) (fun _ => ?_) (fun q => absurd q (by decide))
      refine g_iload_n h dX8_readTown_65 rfl rfl ?_
      refine g_if_eq (tgt := 74) h dX8_readTown_66 (by decide) (fun _ => ?_) (fun q => absurd q (by decide))
      refine g_aload_n h dX8_readTown_74 rfl rfl ?_
      refine g_V h lv_X8_41_X8 sh_159 (by decide) rfl (c_X6_firstWrong_159 f L q w (tfS v a b c d) ((tf_oc (by decide)).trans hf2) hL hq) (fitR hR (by decide) (by decide) (by omega)) rfl rfl (Nat.le_of_ble_eq_true rfl) dX8_readTown_75 ?_
      exact g_iretP h hrt dX8_readTown_78 (by omega) hQ
  have LP : ∀ (j l q T2 W2 : Nat) (v : Sto) (a b c d : Int32), l + j = 14 → q ≤ L → v 1 = f → DI v T2 W2 → dz v u → twnT f L T W u = tlsD f L j T2 W2 v q → G E X (QMP E X (QT u f L (twnT f L T W u)) 0) 4 0 20 [(0, .ref (E.ad 159)), (1, .int (nI L)), (2, .int (nI 1)), (3, .int (nI l))] [] (TT v a b c d f L q (-1)) := by
    intro j
    induction j with
    | zero =>
      intro l q T2 W2 v a b c d hlj hq hf2 hD hd hr
      refine g_iload_n h dX8_readTown_20 rfl rfl ?_
      refine g_bipush (v := nI 14) h dX8_readTown_21 (by decide) ?_
      refine g_icmp_ge (tgt := 65) h dX8_readTown_23 (by decide) (fun c23 => ?_) (fun c23 => ?_)
      · have n23 := le_n (by omega) (by omega) (show nI (14) ≤ nI (l) from c23)
        refine g_iload_n h dX8_readTown_65 rfl rfl ?_
        refine g_if_eq (tgt := 74) h dX8_readTown_66 (by decide) (fun q => absurd q (by decide)) (fun _ => ?_)
        refine g_aload_n h dX8_readTown_69 rfl rfl ?_
        refine g_V h lv_X8_38_X8 sh_159 (by decide) rfl (c_X6_fail_159 f L q (-1) (tfS v a b c d) ((tf_oc (by decide)).trans hf2) hL hq) (fitR hR (by decide) (by decide) (by omega)) rfl rfl (Nat.le_of_ble_eq_true rfl) dX8_readTown_70 ?_
        refine g_pop h dX8_readTown_73 rfl ?_
        refine g_aload_n h dX8_readTown_74 rfl rfl ?_
        refine g_V h lv_X8_41_X8 sh_159 (by decide) rfl (c_X6_firstWrong_159 f L q (nI q) (tfS v a b c d) ((tf_oc (by decide)).trans hf2) hL hq) (fitR hR (by decide) (by decide) (by omega)) rfl rfl (Nat.le_of_ble_eq_true rfl) dX8_readTown_75 ?_
        exact g_iretP h hrt dX8_readTown_78 (by omega) (qt_e hr hd)
      · have n23 := nle_n (by omega) (by omega) (show ¬ nI (14) ≤ nI (l) from c23)
        omega
    | succ j ih =>
      intro l q T2 W2 v a b c d hlj hq hf2 hD hd hr
      refine g_iload_n h dX8_readTown_20 rfl rfl ?_
      refine g_bipush (v := nI 14) h dX8_readTown_21 (by decide) ?_
      refine g_icmp_ge (tgt := 65) h dX8_readTown_23 (by decide) (fun c23 => ?_) (fun c23 => ?_)
      · have n23 := le_n (by omega) (by omega) (show nI (14) ≤ nI (l) from c23)
        omega
      · have n23 := nle_n (by omega) (by omega) (show ¬ nI (14) ≤ nI (l) from c23)
        refine g_iload_n h dX8_readTown_26 rfl rfl ?_
        refine g_if_eq (tgt := 65) h dX8_readTown_27 (by decide) (fun q => absurd q (by decide)) (fun _ => ?_)
        refine g_aload_n h dX8_readTown_30 rfl rfl ?_
        refine g_VP h lv_X8_31_X8 sh_159 (by decide) rfl (c_X8_readLine a b c d f L q (-1) T2 W2 hD.2.1 hD.2.2.2.1 v hf2 hL hq hD.1 hD.2.2.1 hD.2.2.2.2) ql_nx (fitR hR (by decide) (by decide) (by omega)) rfl rfl (Nat.le_of_ble_eq_true rfl) dX8_readTown_31 (fun v31 u31 hs31 => ?_)
        cases h31 : twD T2 W2 (v 37) (v 28) (v 38) f L q
        · rename_i e31
          rw [h31] at hs31
          obtain ⟨hv31, a31, b31, c31, d31, p31, hp31, rfl⟩ := hs31
          cases hv31
          refine g_if_eq (tgt := 57) h dX8_readTown_34 (by decide) (fun _ => ?_) (fun q => absurd q (by decide))
          refine g_iconst (v := nI 0) h dX8_readTown_57 (by decide) ?_
          refine g_istore_n (ls' := [(0, _), (1, _), (2, _), (3, _)]) h dX8_readTown_58 rfl (by decide) rfl rfl ?_
          refine g_iinc (v := nI (l + 1)) (ls' := [(0, _), (1, _), (2, _), (3, _)]) h dX8_readTown_59 rfl (nI_1 l) (by decide) rfl rfl ?_
          refine g_goto (tgt := 20) h dX8_readTown_62 (by decide) ?_
          exact DN (l + 1) p31 v a31 b31 c31 d31 (nI e31) (by omega) hp31 hf2 (qt_e (hr.trans (tl_e h31)) hd)
        · rename_i q31
          rw [h31] at hs31
          obtain ⟨hv31, hq31, a31, b31, c31, d31, rfl⟩ := hs31
          cases hv31
          have hfA : (apL v T2 W2 q31.1) 1 = f := (apL_c (by decide)).trans hf2
          have hdA : dz (apL v T2 W2 q31.1) u := fun k hk => (apL_c hk).trans (hd k hk)
          have hDA := DI_ap hD hD.2.1 (tw_ok hD.2.1 h31)
          refine g_if_eq (tgt := 57) h dX8_readTown_34 (by decide) (fun q => absurd q (by decide)) (fun _ => ?_)
          refine g_aload_n h dX8_readTown_37 rfl rfl ?_
          refine g_V h lv_X8_27_X8 sh_159 (by decide) rfl (c_X6_atEnd_159 f L q31.2 (-1) (tfS (apL v T2 W2 q31.1) a31 b31 c31 d31) ((tf_oc (by decide)).trans hfA) hL hq31) (fitR hR (by decide) (by decide) (by omega)) rfl rfl (Nat.le_of_ble_eq_true rfl) dX8_readTown_38 ?_
          by_cases n38 : kdN f L q31.2 = 0
          · refine g_top (b2_t n38) ?_
            refine g_if_ne (tgt := 57) h dX8_readTown_41 (by decide) (fun _ => ?_) (fun q => absurd q (by decide))
            refine g_iconst (v := nI 0) h dX8_readTown_57 (by decide) ?_
            refine g_istore_n (ls' := [(0, _), (1, _), (2, _), (3, _)]) h dX8_readTown_58 rfl (by decide) rfl rfl ?_
            refine g_iinc (v := nI (l + 1)) (ls' := [(0, _), (1, _), (2, _), (3, _)]) h dX8_readTown_59 rfl (nI_1 l) (by decide) rfl rfl ?_
            refine g_goto (tgt := 20) h dX8_readTown_62 (by decide) ?_
            exact DN (l + 1) q31.2 (apL v T2 W2 q31.1) a31 b31 c31 d31 (-1) (by omega) hq31 hfA (qt_k (hr.trans (tl_1 h31 n38)))
          · refine g_top (b2_f n38) ?_
            refine g_if_ne (tgt := 57) h dX8_readTown_41 (by decide) (fun q => absurd q (by decide)) (fun _ => ?_)
            refine g_aload_n h dX8_readTown_44 rfl rfl ?_
            refine g_bipush (v := nI 59) h dX8_readTown_45 (by decide) ?_
            refine g_V h lv_X8_34_X8 sh_159 (by decide) rfl (c_X6_passSign_159 f L q31.2 (-1) (nI 59) (tfS (apL v T2 W2 q31.1) a31 b31 c31 d31) ((tf_oc (by decide)).trans hfA) hL hq31) (fitR hR (by decide) (by decide) (by omega)) rfl rfl (Nat.le_of_ble_eq_true rfl) dX8_readTown_47 ?_
            by_cases n47 : sgP f L q31.2 (nI 59)
            · refine g_top (b2_t n47) ?_
              refine g_sto (if_pos n47) ?_
              refine g_if_eq (tgt := 57) h dX8_readTown_50 (by decide) (fun q => absurd q (by decide)) (fun _ => ?_)
              refine g_iconst (v := nI 1) h dX8_readTown_53 (by decide) ?_
              refine g_goto (tgt := 58) h dX8_readTown_54 (by decide) ?_
              refine g_istore_n (ls' := [(0, _), (1, _), (2, _), (3, _)]) h dX8_readTown_58 rfl (by decide) rfl rfl ?_
              refine g_iinc (v := nI (l + 1)) (ls' := [(0, _), (1, _), (2, _), (3, _)]) h dX8_readTown_59 rfl (nI_1 l) (by decide) rfl rfl ?_
              refine g_goto (tgt := 20) h dX8_readTown_62 (by decide) ?_
              exact ih (l + 1) (nx f L q31.2) _ _ (apL v T2 W2 q31.1) a31 b31 c31 d31 (by omega) (nx_b hq31).2 hfA hDA hdA (hr.trans (tl_r h31 n38 n47))
            · refine g_top (b2_f n47) ?_
              refine g_sto (if_neg n47) ?_
              refine g_if_eq (tgt := 57) h dX8_readTown_50 (by decide) (fun _ => ?_) (fun q => absurd q (by decide))
              refine g_iconst (v := nI 0) h dX8_readTown_57 (by decide) ?_
              refine g_istore_n (ls' := [(0, _), (1, _), (2, _), (3, _)]) h dX8_readTown_58 rfl (by decide) rfl rfl ?_
              refine g_iinc (v := nI (l + 1)) (ls' := [(0, _), (1, _), (2, _), (3, _)]) h dX8_readTown_59 rfl (nI_1 l) (by decide) rfl rfl ?_
              refine g_goto (tgt := 20) h dX8_readTown_62 (by decide) ?_
              exact DN (l + 1) q31.2 (apL v T2 W2 q31.1) a31 b31 c31 d31 (nI q31.2) (by omega) hq31 hfA (qt_e (hr.trans (tl_s h31 n38 n47)) hdA)
  have hs0 := (skp_b (f := f) (Nat.zero_le L)).2
  refine g_aload_n h dX8_readTown_0 rfl rfl ?_
  refine g_iload_n h dX8_readTown_1 rfl rfl ?_
  refine g_V h lv_X8_23_X8 sh_159 (by decide) rfl (c_X6_open_159 f L u hf hL) (fitR hR (by decide) (by decide) (by omega)) rfl rfl (Nat.le_of_ble_eq_true rfl) dX8_readTown_2 ?_
  refine g_sto (show _ = TT u (u 159 9) (u 159 10) (u 159 11) (u 159 12) f L (skp f L 0) (-1) from tx_in tf_eta.symm) ?_
  refine g_aload_n h dX8_readTown_5 rfl rfl ?_
  refine g_V h lv_X8_27_X8 sh_159 (by decide) rfl (c_X6_atEnd_159 f L (skp f L 0) (-1) (tfS u (u 159 9) (u 159 10) (u 159 11) (u 159 12)) ((tf_oc (by decide)).trans hf) hL hs0) (fitR hR (by decide) (by decide) (by omega)) rfl rfl (Nat.le_of_ble_eq_true rfl) dX8_readTown_6 ?_
  by_cases n6 : kdN f L (skp f L 0) = 0
  · refine g_top (b2_t n6) ?_
    refine g_if_ne (tgt := 16) h dX8_readTown_9 (by decide) (fun _ => ?_) (fun q => absurd q (by decide))
    refine g_iconst (v := nI 0) h dX8_readTown_16 (by decide) ?_
    refine g_istore_n (ls' := [(0, _), (1, _), (2, _)]) h dX8_readTown_17 rfl (by decide) rfl rfl ?_
    refine g_iconst (v := nI 0) h dX8_readTown_18 (by decide) ?_
    refine g_istore_n (ls' := [(0, _), (1, _), (2, _), (3, _)]) h dX8_readTown_19 rfl (by decide) rfl rfl ?_
    exact DN 0 _ u _ _ _ _ (-1) (by omega) hs0 hf (qt_k (by rw [twnT, if_pos n6]))
  · refine g_top (b2_f n6) ?_
    refine g_if_ne (tgt := 16) h dX8_readTown_9 (by decide) (fun q => absurd q (by decide)) (fun _ => ?_)
    refine g_iconst (v := nI 1) h dX8_readTown_12 (by decide) ?_
    refine g_goto (tgt := 17) h dX8_readTown_13 (by decide) ?_
    refine g_istore_n (ls' := [(0, _), (1, _), (2, _)]) h dX8_readTown_17 rfl (by decide) rfl rfl ?_
    refine g_iconst (v := nI 0) h dX8_readTown_18 (by decide) ?_
    refine g_istore_n (ls' := [(0, _), (1, _), (2, _), (3, _)]) h dX8_readTown_19 rfl (by decide) rfl rfl ?_
    exact LP 14 0 _ T W u _ _ _ _ (by omega) hs0 hf hD (dz.refl _) (by rw [twnT, if_neg n6])
