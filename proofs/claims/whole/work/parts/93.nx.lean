-- after: 92.nw
theorem mr_1 {f : Nat → Int32} {k : Nat} {y : Int32} (h : f k = y) (h2 : (mrF f k).1 < y) : mrF f (k + 1) = (y, nI k) := by
  rw [mrF, h, if_pos h2]
theorem mr_0 {f : Nat → Int32} {k : Nat} {y : Int32} (h : f k = y) (h2 : ¬ (mrF f k).1 < y) : mrF f (k + 1) = mrF f k := by
  rw [mrF, h, if_neg h2]
theorem rn_s {p : Nat → Bool} {r n : Nat} (h : n < 168) : rlN p r (168 - n) n = if p ((r + n) % 168) = true then rlN p r (168 - (n + 1)) (n + 1) else n := by
  rw [show 168 - n = (168 - (n + 1)) + 1 by omega]; rfl
theorem m168 {r : Nat} (h : r < 168) : (r + 168) % 168 = r := by omega
theorem rt_mod (r n : Nat) : (r + n) % 168 < 168 := Nat.mod_lt _ (by omega)
set_option maxHeartbeats 1000000 in
theorem c_X11_areNeighbours {E : EE} (v : Sto) (T W a b r : Nat) (ha : a < T) (hb : b < T) (hr : r < 168) (u : Sto) (hK : LK v u T W) : Ct E 4 0 yX11_areNeighbours cX11_areNeighbours 4 (some .boolean) [.ref (E.ad 178), .int (nI a), .int (nI b), .int (nI r)] u (.inl (some (.int (b2 (lvT v 3 r = hmI v a ∧ lvT v 3 (aft r) = hmI v b))))) (u) := by
  refine ct_of (by decide) (Nat.le_of_ble_eq_true rfl) (fun X h hR hrt htab hargs hini => ?_)
  refine g_aload_n h dX11_areNeighbours_0 rfl rfl ?_
  refine g_iload_n h dX11_areNeighbours_1 rfl rfl ?_
  refine g_V h lv_X11_264_X11 sh_178 (by decide) rfl (c_X11_livesIn (nI (r)) (r + 168) (nI_add _ _) (by have := hr; omega) v T W _ hK.t) (fitR hR (by first | decide | omega) (by decide) (by omega)) rfl rfl (Nat.le_of_ble_eq_true rfl) dX11_areNeighbours_2 ?_
  refine g_top (congrArg (lvT v 3) (m168 hr)) ?_
  refine g_aload_n h dX11_areNeighbours_5 rfl rfl ?_
  refine g_iload_n h dX11_areNeighbours_6 rfl rfl ?_
  refine g_V h lv_X11_87_X11 sh_178 (by decide) rfl (c_X11_adult a v T W ha _ hK.r) (fitR hR (by first | decide | omega) (by decide) (by omega)) rfl rfl (Nat.le_of_ble_eq_true rfl) dX11_areNeighbours_7 ?_
  refine g_icmp_ne (tgt := 32) h dX11_areNeighbours_10 (by decide) (fun c10 => ?_) (fun c10 => ?_)
  · refine g_iconst (v := nI 0) h dX11_areNeighbours_32 (by decide) ?_
    exact g_zret h hrt dX11_areNeighbours_33 (by omega) (by first | exact Or.inl rfl | exact Or.inr rfl | exact b2_01 _ | exact hF.2.2.2.1 | exact hF.2.2.2.2 | exact hy | exact hv | simp) (by rw [b2_f (p := lvT v 3 r = hmI v a ∧ lvT v 3 (aft r) = hmI v b) (fun q => c10 q.1)]) rfl
  · refine g_aload_n h dX11_areNeighbours_13 rfl rfl ?_
    refine g_iload_n h dX11_areNeighbours_14 rfl rfl ?_
    refine g_iconst (v := nI 1) h dX11_areNeighbours_15 (by decide) ?_
    refine g_iadd h dX11_areNeighbours_16 ?_
    refine g_V h lv_X11_264_X11 sh_178 (by decide) rfl (c_X11_livesIn (nI (r) + nI 1) (r + 169) (lwy hr) (by have := hr; omega) v T W _ hK.t) (fitR hR (by first | decide | omega) (by decide) (by omega)) rfl rfl (Nat.le_of_ble_eq_true rfl) dX11_areNeighbours_17 ?_
    refine g_top (congrArg (lvT v 3) (aft_k hr)) ?_
    refine g_aload_n h dX11_areNeighbours_20 rfl rfl ?_
    refine g_iload_n h dX11_areNeighbours_21 rfl rfl ?_
    refine g_V h lv_X11_87_X11 sh_178 (by decide) rfl (c_X11_adult b v T W hb _ hK.r) (fitR hR (by first | decide | omega) (by decide) (by omega)) rfl rfl (Nat.le_of_ble_eq_true rfl) dX11_areNeighbours_22 ?_
    refine g_icmp_ne (tgt := 32) h dX11_areNeighbours_25 (by decide) (fun c25 => ?_) (fun c25 => ?_)
    · refine g_iconst (v := nI 0) h dX11_areNeighbours_32 (by decide) ?_
      exact g_zret h hrt dX11_areNeighbours_33 (by omega) (by first | exact Or.inl rfl | exact Or.inr rfl | exact b2_01 _ | exact hF.2.2.2.1 | exact hF.2.2.2.2 | exact hy | exact hv | simp) (by rw [b2_f (p := lvT v 3 r = hmI v a ∧ lvT v 3 (aft r) = hmI v b) (fun q => c25 q.2)]) rfl
    · refine g_iconst (v := nI 1) h dX11_areNeighbours_28 (by decide) ?_
      refine g_goto (tgt := 33) h dX11_areNeighbours_29 (by decide) ?_
      exact g_zret h hrt dX11_areNeighbours_33 (by omega) (by first | exact Or.inl rfl | exact Or.inr rfl | exact b2_01 _ | exact hF.2.2.2.1 | exact hF.2.2.2.2 | exact hy | exact hv | simp) (by rw [b2_t (p := lvT v 3 r = hmI v a ∧ lvT v 3 (aft r) = hmI v b) ⟨c10, c25⟩]) rfl
set_option maxHeartbeats 1000000 in
theorem c_X11_neighbours {E : EE} (v : Sto) (T W : Nat) (x y z : Int32) (u : Sto) (hK : LK v u T W) : CtP E 35 0 yX11_neighbours cX11_neighbours 6 (some .int) [.ref (E.ad 178), .int x, .int y, .int z] u (PMr (cdL [ioob]) (nbrR v x y z).1 u) := by
  refine ctp_of (by decide) (Nat.le_of_ble_eq_true rfl) (fun X h hR hrt htab hargs => ?_)
  refine g_aload_n h dX11_neighbours_0 rfl rfl ?_
  refine g_aload_n h dX11_neighbours_1 rfl rfl ?_
  refine g_iload_n h dX11_neighbours_2 rfl rfl ?_
  refine g_V h lv_X11_277_X11 sh_178 (by decide) rfl (c_X11_isTenant x v T W u hK.r) (fitR hR (by first | decide | omega) (by decide) (by omega)) rfl rfl (Nat.le_of_ble_eq_true rfl) dX11_neighbours_3 ?_
  by_cases n3 : okT v x
  · refine g_top (b2_t n3) ?_
    obtain ⟨a, ha, ha9, ia, rfl⟩ := okT_n hK.hT hK.r.vt n3
    refine g_if_eq (tgt := 17) h dX11_neighbours_6 (by decide) (fun q => absurd q (by decide)) (fun _ => ?_)
    refine g_aload_n h dX11_neighbours_9 rfl rfl ?_
    refine g_iload_n h dX11_neighbours_10 rfl rfl ?_
    refine g_V h lv_X11_277_X11 sh_178 (by decide) rfl (c_X11_isTenant y v T W u hK.r) (fitR hR (by first | decide | omega) (by decide) (by omega)) rfl rfl (Nat.le_of_ble_eq_true rfl) dX11_neighbours_11 ?_
    by_cases n11 : okT v y
    · refine g_top (b2_t n11) ?_
      obtain ⟨b, hb, hb9, ib, rfl⟩ := okT_n hK.hT hK.r.vt n11
      refine g_if_ne (tgt := 21) h dX11_neighbours_14 (by decide) (fun _ => ?_) (fun q => absurd q (by decide))
      refine g_iconst (v := nI 0) h dX11_neighbours_21 (by decide) ?_
      refine g_putI h pfl_X11_69_10 sh_178 (by decide) rfl dX11_neighbours_22 ?_
      refine g_aload_n h dX11_neighbours_25 rfl rfl ?_
      refine g_getI h fl_X11_69_10 sh_178 (by decide) rfl dX11_neighbours_26 ?_
      refine g_top su_k ?_
      refine g_if_le (tgt := 34) h dX11_neighbours_29 (by decide) (fun _ => ?_) (fun q => absurd q (by decide))
      refine g_iconst (v := nI 0) h dX11_neighbours_34 (by decide) ?_
      refine g_istore (ls' := [(0, _), (1, _), (2, _), (3, _), (4, _)]) h dX11_neighbours_35 (by decide) rfl rfl ?_
      refine g_iconst (v := nI 0) h dX11_neighbours_37 (by decide) ?_
      refine g_istore (ls' := [(0, _), (1, _), (2, _), (3, _), (4, _), (5, _)]) h dX11_neighbours_38 (by decide) rfl rfl ?_
      have LP : ∀ j k : Nat, ∀ l : Int32, sbsF (fun r => decide (lvT v 3 r = hmI v a ∧ lvT v 3 (aft r) = hmI v b)) z 168 0 (nI 0) = sbsF (fun r => decide (lvT v 3 r = hmI v a ∧ lvT v 3 (aft r) = hmI v b)) z (168 - k) k l → 168 < k + j → k ≤ 168 → G E X (QMP E X (PMr (cdL [ioob]) (nbrR v (nI a) (nI b) z).1 u) 0) 6 0 40 [(0, .ref (E.ad 178)), (1, .int (nI a)), (2, .int (nI b)), (3, .int z), (4, .int l), (5, .int (nI k))] [] ((su u 178 0 (nI 0))) := by
        intro j
        induction j with
        | zero => intro k l hf h1 h2; omega
        | succ j ih =>
          intro k l hf h1 h2
          refine g_iload h dX11_neighbours_40 rfl ?_
          refine g_sipush (v := nI 168) h dX11_neighbours_42 (by decide) ?_
          refine g_icmp_ge (tgt := 78) h dX11_neighbours_45 (by decide) (fun c45 => ?_) (fun c45 => ?_)
          · have n45 := le_n (by omega) (by omega) (show nI (168) ≤ nI (k) from c45)
            obtain rfl : k = 168 := by omega
            rw [sbs_e] at hf
            refine g_iload_n h dX11_neighbours_78 rfl rfl ?_
            refine g_if_eq (tgt := 86) h dX11_neighbours_79 (by decide) (fun c79 => ?_) (fun c79 => ?_)
            · rw [if_pos c79] at hf
              refine g_iload h dX11_neighbours_86 rfl ?_
              exact g_iretP h hrt dX11_neighbours_88 (by omega) (pm_v (by rw [nbrR, if_pos n3, if_pos n11]) (by rw [ia, ib, hf]) (sim.refl _))
            · rw [if_neg c79] at hf
              refine g_iconst (v := -1) h dX11_neighbours_82 (by decide) ?_
              refine g_goto (tgt := 88) h dX11_neighbours_83 (by decide) ?_
              exact g_iretP h hrt dX11_neighbours_88 (by omega) (pm_v (by rw [nbrR, if_pos n3, if_pos n11]) (by rw [ia, ib, hf]) (sim.refl _))
          · have n45 := nle_n (by omega) (by omega) (show ¬ nI (168) ≤ nI (k) from c45)
            rw [sbs_s (by omega)] at hf
            refine g_aload_n h dX11_neighbours_48 rfl rfl ?_
            refine g_iload_n h dX11_neighbours_49 rfl rfl ?_
            refine g_iload_n h dX11_neighbours_50 rfl rfl ?_
            refine g_iload h dX11_neighbours_51 rfl ?_
            refine g_V h lv_X11_333_X11 sh_178 (by decide) rfl (c_X11_areNeighbours v T W a b k ha hb (by omega) _ hK.th) (fitR hR (by first | decide | omega) (by decide) (by omega)) rfl rfl (Nat.le_of_ble_eq_true rfl) dX11_neighbours_53 ?_
            refine g_if_ne (tgt := 62) h dX11_neighbours_56 (by decide) (fun c56 => ?_) (fun c56 => ?_)
            · rw [if_pos (decide_eq_true (b2_n0.mp c56))] at hf
              refine g_iload_n h dX11_neighbours_62 rfl rfl ?_
              refine g_if_eq (tgt := 69) h dX11_neighbours_63 (by decide) (fun c63 => ?_) (fun c63 => ?_)
              · rw [if_pos c63] at hf
                refine g_iinc (ls' := [(0, _), (1, _), (2, _), (3, _), (4, _), (5, _)]) h dX11_neighbours_69 rfl rfl (by decide) rfl rfl ?_
                refine g_iinc (v := nI (k + 1)) (ls' := [(0, _), (1, _), (2, _), (3, _), (4, _), (5, _)]) h dX11_neighbours_72 rfl (nI_1 k) (by decide) rfl rfl ?_
                refine g_goto (tgt := 40) h dX11_neighbours_75 (by decide) ?_
                exact ih (k + 1) _ hf (by omega) (by omega)
              · rw [if_neg c63] at hf
                refine g_iload h dX11_neighbours_66 rfl ?_
                exact g_iretP h hrt dX11_neighbours_68 (by omega) (pm_v (by rw [nbrR, if_pos n3, if_pos n11]) (by rw [ia, ib, hf]) (sim.refl _))
            · rw [if_neg (fun q => b2_0.mp c56 (of_decide_eq_true q))] at hf
              refine g_goto (tgt := 72) h dX11_neighbours_59 (by decide) ?_
              refine g_iinc (v := nI (k + 1)) (ls' := [(0, _), (1, _), (2, _), (3, _), (4, _), (5, _)]) h dX11_neighbours_72 rfl (nI_1 k) (by decide) rfl rfl ?_
              refine g_goto (tgt := 40) h dX11_neighbours_75 (by decide) ?_
              exact ih (k + 1) _ hf (by omega) (by omega)
      exact LP (168 + 1) (0) _ rfl (by omega) (by omega)
      
    · refine g_top (b2_f n11) ?_
      refine g_if_ne (tgt := 21) h dX11_neighbours_14 (by decide) (fun q => absurd q (by decide)) (fun _ => ?_)
      refine g_iconst (v := nI 1) h dX11_neighbours_17 (by decide) ?_
      refine g_goto (tgt := 22) h dX11_neighbours_18 (by decide) ?_
      refine g_putI h pfl_X11_69_10 sh_178 (by decide) rfl dX11_neighbours_22 ?_
      refine g_aload_n h dX11_neighbours_25 rfl rfl ?_
      refine g_getI h fl_X11_69_10 sh_178 (by decide) rfl dX11_neighbours_26 ?_
      refine g_top su_k ?_
      refine g_if_le (tgt := 34) h dX11_neighbours_29 (by decide) (fun q => absurd q (by decide)) (fun _ => ?_)
      refine g_iconst (v := nI 0) h dX11_neighbours_32 (by decide) ?_
      exact g_iretP h hrt dX11_neighbours_33 (by omega) (by first | exact pm_x (Ex := ioob) (by rw [nbrR, if_pos n3, if_neg n11]) (by decide) (sim.refl _))
  · refine g_top (b2_f n3) ?_
    refine g_if_eq (tgt := 17) h dX11_neighbours_6 (by decide) (fun _ => ?_) (fun q => absurd q (by decide))
    refine g_iconst (v := nI 1) h dX11_neighbours_17 (by decide) ?_
    refine g_goto (tgt := 22) h dX11_neighbours_18 (by decide) ?_
    refine g_putI h pfl_X11_69_10 sh_178 (by decide) rfl dX11_neighbours_22 ?_
    refine g_aload_n h dX11_neighbours_25 rfl rfl ?_
    refine g_getI h fl_X11_69_10 sh_178 (by decide) rfl dX11_neighbours_26 ?_
    refine g_top su_k ?_
    refine g_if_le (tgt := 34) h dX11_neighbours_29 (by decide) (fun q => absurd q (by decide)) (fun _ => ?_)
    refine g_iconst (v := nI 0) h dX11_neighbours_32 (by decide) ?_
    exact g_iretP h hrt dX11_neighbours_33 (by omega) (by first | exact pm_x (Ex := ioob) (by rw [nbrR, if_neg n3]) (by decide) (sim.refl _))
set_option maxHeartbeats 1000000 in
theorem c_X11_wedding {E : EE} (v : Sto) (T W : Nat) (x y : Int32) (u : Sto) (hK : LK v u T W) (hI : TI v 3 10 T) : CtP E 35 0 yX11_wedding cX11_wedding 5 (some .int) [.ref (E.ad 178), .int x, .int y] u (PMr (cdL [ioob, iae]) (wedR v x y).1 u) := by
  obtain ⟨nw, hn, hnw⟩ := hI.now
  refine ctp_of (by decide) (Nat.le_of_ble_eq_true rfl) (fun X h hR hrt htab hargs => ?_)
  refine g_aload_n h dX11_wedding_0 rfl rfl ?_
  refine g_aload_n h dX11_wedding_1 rfl rfl ?_
  refine g_iload_n h dX11_wedding_2 rfl rfl ?_
  refine g_V h lv_X11_277_X11 sh_178 (by decide) rfl (c_X11_isTenant x v T W u hK.r) (fitR hR (by first | decide | omega) (by decide) (by omega)) rfl rfl (Nat.le_of_ble_eq_true rfl) dX11_wedding_3 ?_
  by_cases n3 : okT v x
  · refine g_top (b2_t n3) ?_
    obtain ⟨a, ha, ha9, ia, rfl⟩ := okT_n hK.hT hK.r.vt n3
    refine g_if_eq (tgt := 17) h dX11_wedding_6 (by decide) (fun q => absurd q (by decide)) (fun _ => ?_)
    refine g_aload_n h dX11_wedding_9 rfl rfl ?_
    refine g_iload_n h dX11_wedding_10 rfl rfl ?_
    refine g_V h lv_X11_277_X11 sh_178 (by decide) rfl (c_X11_isTenant y v T W u hK.r) (fitR hR (by first | decide | omega) (by decide) (by omega)) rfl rfl (Nat.le_of_ble_eq_true rfl) dX11_wedding_11 ?_
    by_cases n11 : okT v y
    · refine g_top (b2_t n11) ?_
      obtain ⟨b, hb, hb9, ib, rfl⟩ := okT_n hK.hT hK.r.vt n11
      refine g_if_ne (tgt := 21) h dX11_wedding_14 (by decide) (fun _ => ?_) (fun q => absurd q (by decide))
      refine g_iload_n h dX11_wedding_21 rfl rfl ?_
      refine g_iload_n h dX11_wedding_22 rfl rfl ?_
      refine g_icmp_ne (tgt := 30) h dX11_wedding_23 (by decide) (fun c23 => ?_) (fun c23 => ?_)
      · refine g_iconst (v := nI 0) h dX11_wedding_30 (by decide) ?_
        refine g_putI h pfl_X11_69_10 sh_178 (by decide) rfl dX11_wedding_31 ?_
        refine g_aload_n h dX11_wedding_34 rfl rfl ?_
        refine g_getI h fl_X11_69_10 sh_178 (by decide) rfl dX11_wedding_35 ?_
        refine g_top su_k ?_
        refine g_if_le (tgt := 43) h dX11_wedding_38 (by decide) (fun _ => ?_) (fun q => absurd q (by decide))
        refine g_iconst (v := nI 0) h dX11_wedding_43 (by decide) ?_
        refine g_istore_n (ls' := [(0, _), (1, _), (2, _), (3, _)]) h dX11_wedding_44 rfl (by decide) rfl rfl ?_
        have LP : ∀ j k : Nat, frs (fun k => decide ((lvT v 3 ((nw + k) % 168) = hmI v a ∧ lvT v 3 (aft ((nw + k) % 168)) = hmI v b) ∨ (lvT v 3 ((nw + k) % 168) = hmI v b ∧ lvT v 3 (aft ((nw + k) % 168)) = hmI v a))) (fun k => nI ((nw + k) % 168)) 168 0 = frs (fun k => decide ((lvT v 3 ((nw + k) % 168) = hmI v a ∧ lvT v 3 (aft ((nw + k) % 168)) = hmI v b) ∨ (lvT v 3 ((nw + k) % 168) = hmI v b ∧ lvT v 3 (aft ((nw + k) % 168)) = hmI v a))) (fun k => nI ((nw + k) % 168)) (168 - k) k → 168 < k + j → k ≤ 168 → G E X (QMP E X (PMr (cdL [ioob, iae]) (wedR v (nI a) (nI b)).1 u) 0) 5 0 45 [(0, .ref (E.ad 178)), (1, .int (nI a)), (2, .int (nI b)), (3, .int (nI k))] [] ((su u 178 0 (nI 0))) := by
          intro j
          induction j with
          | zero => intro k hf h1 h2; omega
          | succ j ih =>
            intro k hf h1 h2
            refine g_iload_n h dX11_wedding_45 rfl rfl ?_
            refine g_sipush (v := nI 168) h dX11_wedding_46 (by decide) ?_
            refine g_icmp_ge (tgt := 97) h dX11_wedding_49 (by decide) (fun c49 => ?_) (fun c49 => ?_)
            · have n49 := le_n (by omega) (by omega) (show nI (168) ≤ nI (k) from c49)
              obtain rfl : k = 168 := by omega
              rw [frs_e] at hf
              refine g_iconst (v := -1) h dX11_wedding_97 (by decide) ?_
              exact g_iretP h hrt dX11_wedding_98 (by omega) (pm_v (by rw [wedR, if_pos n3, if_pos n11, if_pos c23]) (by rw [ia, ib, wedV, hnw, ix_nI (by omega), hf]) (sim.refl _))
            · have n49 := nle_n (by omega) (by omega) (show ¬ nI (168) ≤ nI (k) from c49)
              rw [frs_s (by omega)] at hf
              have hrm := rt_mod nw k
              refine g_aload_n h dX11_wedding_52 rfl rfl ?_
              refine g_getR h fl_X11_7_10 sh_178 (by decide) rfl dX11_wedding_53 ?_
              refine g_iconst (v := nI 5) h dX11_wedding_56 (by decide) ?_
              refine g_iald h _ _ _ sh_179 (by decide) (by decide) rfl (by omega) dX11_wedding_57 ?_
              refine g_top (y := nI nw) ((congrFun (su_cell _ _ (by decide)) _).trans (hK.t.nw.trans hnw)) ?_
              refine g_iload_n h dX11_wedding_58 rfl rfl ?_
              refine g_iadd h dX11_wedding_59 ?_
              refine g_top (nI_add _ _) ?_
              refine g_sipush (v := nI 168) h dX11_wedding_60 (by decide) ?_
              refine g_irem h dX11_wedding_63 (by decide) ?_
              refine g_top (y := nI ((nw + k) % 168)) (pk_rem (by omega) (by omega) (by omega)) ?_
              refine g_istore (ls' := [(0, _), (1, _), (2, _), (3, _), (4, _)]) h dX11_wedding_64 (by decide) rfl rfl ?_
              refine g_aload_n h dX11_wedding_66 rfl rfl ?_
              refine g_iload_n h dX11_wedding_67 rfl rfl ?_
              refine g_iload_n h dX11_wedding_68 rfl rfl ?_
              refine g_iload h dX11_wedding_69 rfl ?_
              refine g_V h lv_X11_333_X11 sh_178 (by decide) rfl (c_X11_areNeighbours v T W a b ((nw + k) % 168) ha hb hrm _ hK.th) (fitR hR (by first | decide | omega) (by decide) (by omega)) rfl rfl (Nat.le_of_ble_eq_true rfl) dX11_wedding_71 ?_
              refine g_if_ne (tgt := 88) h dX11_wedding_74 (by decide) (fun c74 => ?_) (fun c74 => ?_)
              · rw [if_pos (decide_eq_true (Or.inl (b2_n0.mp c74)))] at hf
                refine g_iload h dX11_wedding_88 rfl ?_
                exact g_iretP h hrt dX11_wedding_90 (by omega) (pm_v (by rw [wedR, if_pos n3, if_pos n11, if_pos c23]) (by rw [ia, ib, wedV, hnw, ix_nI (by omega), hf]) (sim.refl _))
              · refine g_aload_n h dX11_wedding_77 rfl rfl ?_
                refine g_iload_n h dX11_wedding_78 rfl rfl ?_
                refine g_iload_n h dX11_wedding_79 rfl rfl ?_
                refine g_iload h dX11_wedding_80 rfl ?_
                refine g_V h lv_X11_333_X11 sh_178 (by decide) rfl (c_X11_areNeighbours v T W b a ((nw + k) % 168) hb ha hrm _ hK.th) (fitR hR (by first | decide | omega) (by decide) (by omega)) rfl rfl (Nat.le_of_ble_eq_true rfl) dX11_wedding_82 ?_
                refine g_if_eq (tgt := 91) h dX11_wedding_85 (by decide) (fun c85 => ?_) (fun c85 => ?_)
                · rw [if_neg (fun q => (of_decide_eq_true q).elim (b2_0.mp c74) (b2_0.mp c85))] at hf
                  refine g_iinc (v := nI (k + 1)) (ls' := [(0, _), (1, _), (2, _), (3, _), (4, _)]) h dX11_wedding_91 rfl (nI_1 k) (by decide) rfl rfl ?_
                  refine g_goto (tgt := 45) h dX11_wedding_94 (by decide) ?_
                  refine g_del 4 (ls' := [(0, _), (1, _), (2, _), (3, _)]) rfl ?_
                  exact ih (k + 1) hf (by omega) (by omega)
                · rw [if_pos (decide_eq_true (Or.inr (b2_n0.mp c85)))] at hf
                  refine g_iload h dX11_wedding_88 rfl ?_
                  exact g_iretP h hrt dX11_wedding_90 (by omega) (pm_v (by rw [wedR, if_pos n3, if_pos n11, if_pos c23]) (by rw [ia, ib, wedV, hnw, ix_nI (by omega), hf]) (sim.refl _))
        exact LP (168 + 1) (0) rfl (by omega) (by omega)
        
      · refine g_iconst (v := nI 2) h dX11_wedding_26 (by decide) ?_
        refine g_goto (tgt := 31) h dX11_wedding_27 (by decide) ?_
        refine g_putI h pfl_X11_69_10 sh_178 (by decide) rfl dX11_wedding_31 ?_
        refine g_aload_n h dX11_wedding_34 rfl rfl ?_
        refine g_getI h fl_X11_69_10 sh_178 (by decide) rfl dX11_wedding_35 ?_
        refine g_top su_k ?_
        refine g_if_le (tgt := 43) h dX11_wedding_38 (by decide) (fun q => absurd q (by decide)) (fun _ => ?_)
        refine g_iconst (v := nI 0) h dX11_wedding_41 (by decide) ?_
        exact g_iretP h hrt dX11_wedding_42 (by omega) (by first | exact pm_x (Ex := ioob) (by rw [wedR, if_pos n3, if_pos n11, if_neg (fun q => q c23)]) (by decide) (sim.refl _) | exact pm_x (Ex := iae) (by rw [wedR, if_pos n3, if_pos n11, if_neg (fun q => q c23)]) (by decide) (sim.refl _))
    · refine g_top (b2_f n11) ?_
      refine g_if_ne (tgt := 21) h dX11_wedding_14 (by decide) (fun q => absurd q (by decide)) (fun _ => ?_)
      refine g_iconst (v := nI 1) h dX11_wedding_17 (by decide) ?_
      refine g_goto (tgt := 31) h dX11_wedding_18 (by decide) ?_
      refine g_putI h pfl_X11_69_10 sh_178 (by decide) rfl dX11_wedding_31 ?_
      refine g_aload_n h dX11_wedding_34 rfl rfl ?_
      refine g_getI h fl_X11_69_10 sh_178 (by decide) rfl dX11_wedding_35 ?_
      refine g_top su_k ?_
      refine g_if_le (tgt := 43) h dX11_wedding_38 (by decide) (fun q => absurd q (by decide)) (fun _ => ?_)
      refine g_iconst (v := nI 0) h dX11_wedding_41 (by decide) ?_
      exact g_iretP h hrt dX11_wedding_42 (by omega) (by first | exact pm_x (Ex := ioob) (by rw [wedR, if_pos n3, if_neg n11]) (by decide) (sim.refl _) | exact pm_x (Ex := iae) (by rw [wedR, if_pos n3, if_neg n11]) (by decide) (sim.refl _))
  · refine g_top (b2_f n3) ?_
    refine g_if_eq (tgt := 17) h dX11_wedding_6 (by decide) (fun _ => ?_) (fun q => absurd q (by decide))
    refine g_iconst (v := nI 1) h dX11_wedding_17 (by decide) ?_
    refine g_goto (tgt := 31) h dX11_wedding_18 (by decide) ?_
    refine g_putI h pfl_X11_69_10 sh_178 (by decide) rfl dX11_wedding_31 ?_
    refine g_aload_n h dX11_wedding_34 rfl rfl ?_
    refine g_getI h fl_X11_69_10 sh_178 (by decide) rfl dX11_wedding_35 ?_
    refine g_top su_k ?_
    refine g_if_le (tgt := 43) h dX11_wedding_38 (by decide) (fun q => absurd q (by decide)) (fun _ => ?_)
    refine g_iconst (v := nI 0) h dX11_wedding_41 (by decide) ?_
    exact g_iretP h hrt dX11_wedding_42 (by omega) (by first | exact pm_x (Ex := ioob) (by rw [wedR, if_neg n3]) (by decide) (sim.refl _) | exact pm_x (Ex := iae) (by rw [wedR, if_neg n3]) (by decide) (sim.refl _))
set_option maxHeartbeats 1000000 in
theorem c_X11_runs {E : EE} (w : Nat) (hw : w < 4) (x z : Int32) (u : Sto) : Ct E 2 0 yX11_runs cX11_runs 8 (some .int) [.ref (E.ad 178), .int (nI w), .int x, .int z] u (.inl (some (.int (if z = 0 then (mrF (fun r => nI (rl (fun r => decide (u 179 (88 + 4 * r + w) = x)) r)) 168).1 else (mrF (fun r => nI (rl (fun r => decide (u 179 (88 + 4 * r + w) = x)) r)) 168).2)))) (u) := by
  refine ct_of (by decide) (Nat.le_of_ble_eq_true rfl) (fun X h hR hrt htab hargs hini => ?_)
  have LP : ∀ j k : Nat, 168 < k + j → k ≤ 168 → G E X (QM E X (.inl (some (.int (if z = 0 then (mrF (fun r => nI (rl (fun r => decide (u 179 (88 + 4 * r + w) = x)) r)) 168).1 else (mrF (fun r => nI (rl (fun r => decide (u 179 (88 + 4 * r + w) = x)) r)) 168).2)))) (u) 0) 8 0 9 [(0, .ref (E.ad 178)), (1, .int (nI w)), (2, .int x), (3, .int z), (4, .int (mrF (fun r => nI (rl (fun r => decide (u 179 (88 + 4 * r + w) = x)) r)) k).1), (5, .int (mrF (fun r => nI (rl (fun r => decide (u 179 (88 + 4 * r + w) = x)) r)) k).2), (6, .int (nI k))] [] (u) := by
    intro j
    induction j with
    | zero => intro k h1 h2; omega
    | succ j ih =>
      intro k h1 h2
      refine g_iload h dX11_runs_9 rfl ?_
      refine g_sipush (v := nI 168) h dX11_runs_11 (by decide) ?_
      refine g_icmp_ge (tgt := 76) h dX11_runs_14 (by decide) (fun c14 => ?_) (fun c14 => ?_)
      · have n14 := le_n (by omega) (by omega) (show nI (168) ≤ nI (k) from c14)
        refine g_iload_n h dX11_runs_76 rfl rfl ?_
        refine g_if_eq (tgt := 85) h dX11_runs_77 (by decide) (fun c77 => ?_) (fun c77 => ?_)
        · refine g_iload h dX11_runs_85 rfl ?_
          exact g_iret h hrt dX11_runs_87 (by omega) (by rw [show k = 168 by omega, if_pos c77]) rfl
        · refine g_iload h dX11_runs_80 rfl ?_
          refine g_goto (tgt := 87) h dX11_runs_82 (by decide) ?_
          exact g_iret h hrt dX11_runs_87 (by omega) (by rw [show k = 168 by omega, if_neg c77]) rfl
      · have n14 := nle_n (by omega) (by omega) (show ¬ nI (168) ≤ nI (k) from c14)
        refine g_iconst (v := nI 0) h dX11_runs_17 (by decide) ?_
        refine g_istore (ls' := [(0, _), (1, _), (2, _), (3, _), (4, _), (5, _), (6, _), (7, _)]) h dX11_runs_18 (by decide) rfl rfl ?_
        have LQ : ∀ i n : Nat, rlN (fun r => decide (u 179 (88 + 4 * r + w) = x)) k 168 0 = rlN (fun r => decide (u 179 (88 + 4 * r + w) = x)) k (168 - n) n → 168 < n + i → n ≤ 168 → G E X (QM E X (.inl (some (.int (if z = 0 then (mrF (fun r => nI (rl (fun r => decide (u 179 (88 + 4 * r + w) = x)) r)) 168).1 else (mrF (fun r => nI (rl (fun r => decide (u 179 (88 + 4 * r + w) = x)) r)) 168).2)))) (u) 0) 8 0 20 [(0, .ref (E.ad 178)), (1, .int (nI w)), (2, .int x), (3, .int z), (4, .int (mrF (fun r => nI (rl (fun r => decide (u 179 (88 + 4 * r + w) = x)) r)) k).1), (5, .int (mrF (fun r => nI (rl (fun r => decide (u 179 (88 + 4 * r + w) = x)) r)) k).2), (6, .int (nI k)), (7, .int (nI n))] [] (u) := by
          intro i
          induction i with
          | zero => intro n hf h1 h2; omega
          | succ i ih2 =>
            intro n hf h1 h2
            refine g_iload h dX11_runs_20 rfl ?_
            refine g_sipush (v := nI 168) h dX11_runs_22 (by decide) ?_
            refine g_icmp_ge (tgt := 52) h dX11_runs_25 (by decide) (fun c25 => ?_) (fun c25 => ?_)
            · have n25 := le_n (by omega) (by omega) (show nI (168) ≤ nI (n) from c25)
              obtain rfl : n = 168 := by omega
              have hf : rlN (fun r => decide (u 179 (88 + 4 * r + w) = x)) k 168 0 = 168 := hf
              refine g_iload h dX11_runs_52 rfl ?_
              refine g_iload h dX11_runs_54 rfl ?_
              refine g_icmp_gt (tgt := 62) h dX11_runs_56 (by decide) (fun c56 => ?_) (fun c56 => ?_)
              · refine g_iload h dX11_runs_62 rfl ?_
                refine g_istore (ls' := [(0, _), (1, _), (2, _), (3, _), (4, _), (5, _), (6, _), (7, _)]) h dX11_runs_64 (by decide) rfl rfl ?_
                refine g_iload h dX11_runs_66 rfl ?_
                refine g_istore (ls' := [(0, _), (1, _), (2, _), (3, _), (4, _), (5, _), (6, _), (7, _)]) h dX11_runs_68 (by decide) rfl rfl ?_
                refine g_iinc (v := nI (k + 1)) (ls' := [(0, _), (1, _), (2, _), (3, _), (4, _), (5, _), (6, _), (7, _)]) h dX11_runs_70 rfl (nI_1 k) (by decide) rfl rfl ?_
                refine g_goto (tgt := 9) h dX11_runs_73 (by decide) ?_
                refine g_del 7 (ls' := [(0, _), (1, _), (2, _), (3, _), (4, _), (5, _), (6, _)]) rfl ?_
                exact g_cv (by rw [mr_1 (f := (fun r => nI (rl (fun r => decide (u 179 (88 + 4 * r + w) = x)) r))) (congrArg nI hf) c56]) rfl (ih (k + 1) (by omega) (by omega))
              · refine g_goto (tgt := 70) h dX11_runs_59 (by decide) ?_
                refine g_iinc (v := nI (k + 1)) (ls' := [(0, _), (1, _), (2, _), (3, _), (4, _), (5, _), (6, _), (7, _)]) h dX11_runs_70 rfl (nI_1 k) (by decide) rfl rfl ?_
                refine g_goto (tgt := 9) h dX11_runs_73 (by decide) ?_
                refine g_del 7 (ls' := [(0, _), (1, _), (2, _), (3, _), (4, _), (5, _), (6, _)]) rfl ?_
                exact g_cv (by rw [mr_0 (f := (fun r => nI (rl (fun r => decide (u 179 (88 + 4 * r + w) = x)) r))) (congrArg nI hf) (by first | exact c56 | exact Int32.not_lt.mpr c56)]) rfl (ih (k + 1) (by omega) (by omega))
            · have n25 := nle_n (by omega) (by omega) (show ¬ nI (168) ≤ nI (n) from c25)
              rw [rn_s (by omega)] at hf
              have hrm := rt_mod k n
              refine g_aload_n h dX11_runs_28 rfl rfl ?_
              refine g_iload h dX11_runs_29 rfl ?_
              refine g_iload h dX11_runs_31 rfl ?_
              refine g_iadd h dX11_runs_33 ?_
              refine g_top (nI_add _ _) ?_
              refine g_sipush (v := nI 168) h dX11_runs_34 (by decide) ?_
              refine g_irem h dX11_runs_37 (by decide) ?_
              refine g_top (y := nI ((k + n) % 168)) (pk_rem (by omega) (by omega) (by omega)) ?_
              refine g_iload_n h dX11_runs_38 rfl rfl ?_
              refine g_V h lv_X11_84_X11 sh_178 (by decide) rfl (c_X11_ofRoom ((k + n) % 168) w hrm (by omega) u) (fitR hR (by first | decide | omega) (by decide) (by omega)) rfl rfl (Nat.le_of_ble_eq_true rfl) dX11_runs_39 ?_
              refine g_iload_n h dX11_runs_42 rfl rfl ?_
              refine g_icmp_ne (tgt := 52) h dX11_runs_43 (by decide) (fun c43 => ?_) (fun c43 => ?_)
              · rw [if_neg (fun q => c43 (of_decide_eq_true q))] at hf
                refine g_iload h dX11_runs_52 rfl ?_
                refine g_iload h dX11_runs_54 rfl ?_
                refine g_icmp_gt (tgt := 62) h dX11_runs_56 (by decide) (fun c56 => ?_) (fun c56 => ?_)
                · refine g_iload h dX11_runs_62 rfl ?_
                  refine g_istore (ls' := [(0, _), (1, _), (2, _), (3, _), (4, _), (5, _), (6, _), (7, _)]) h dX11_runs_64 (by decide) rfl rfl ?_
                  refine g_iload h dX11_runs_66 rfl ?_
                  refine g_istore (ls' := [(0, _), (1, _), (2, _), (3, _), (4, _), (5, _), (6, _), (7, _)]) h dX11_runs_68 (by decide) rfl rfl ?_
                  refine g_iinc (v := nI (k + 1)) (ls' := [(0, _), (1, _), (2, _), (3, _), (4, _), (5, _), (6, _), (7, _)]) h dX11_runs_70 rfl (nI_1 k) (by decide) rfl rfl ?_
                  refine g_goto (tgt := 9) h dX11_runs_73 (by decide) ?_
                  refine g_del 7 (ls' := [(0, _), (1, _), (2, _), (3, _), (4, _), (5, _), (6, _)]) rfl ?_
                  exact g_cv (by rw [mr_1 (f := (fun r => nI (rl (fun r => decide (u 179 (88 + 4 * r + w) = x)) r))) (congrArg nI hf) c56]) rfl (ih (k + 1) (by omega) (by omega))
                · refine g_goto (tgt := 70) h dX11_runs_59 (by decide) ?_
                  refine g_iinc (v := nI (k + 1)) (ls' := [(0, _), (1, _), (2, _), (3, _), (4, _), (5, _), (6, _), (7, _)]) h dX11_runs_70 rfl (nI_1 k) (by decide) rfl rfl ?_
                  refine g_goto (tgt := 9) h dX11_runs_73 (by decide) ?_
                  refine g_del 7 (ls' := [(0, _), (1, _), (2, _), (3, _), (4, _), (5, _), (6, _)]) rfl ?_
                  exact g_cv (by rw [mr_0 (f := (fun r => nI (rl (fun r => decide (u 179 (88 + 4 * r + w) = x)) r))) (congrArg nI hf) (by first | exact c56 | exact Int32.not_lt.mpr c56)]) rfl (ih (k + 1) (by omega) (by omega))
              · rw [if_pos (decide_eq_true c43)] at hf
                refine g_iinc (v := nI (n + 1)) (ls' := [(0, _), (1, _), (2, _), (3, _), (4, _), (5, _), (6, _), (7, _)]) h dX11_runs_46 rfl (nI_1 n) (by decide) rfl rfl ?_
                refine g_goto (tgt := 20) h dX11_runs_49 (by decide) ?_
                exact ih2 (n + 1) hf (by omega) (by omega)
        exact LQ (168 + 1) (0) rfl (by omega) (by omega)
        
  refine g_iconst (v := nI 0) h dX11_runs_0 (by decide) ?_
  refine g_istore (ls' := [(0, _), (1, _), (2, _), (3, _), (4, _)]) h dX11_runs_1 (by decide) rfl rfl ?_
  refine g_iconst (v := -1) h dX11_runs_3 (by decide) ?_
  refine g_istore (ls' := [(0, _), (1, _), (2, _), (3, _), (4, _), (5, _)]) h dX11_runs_4 (by decide) rfl rfl ?_
  refine g_iconst (v := nI 0) h dX11_runs_6 (by decide) ?_
  refine g_istore (ls' := [(0, _), (1, _), (2, _), (3, _), (4, _), (5, _), (6, _)]) h dX11_runs_7 (by decide) rfl rfl ?_
  exact LP (168 + 1) (0) (by omega) (by omega)
theorem mr_cong {f g : Nat → Int32} : ∀ {n : Nat}, (∀ k, k < n → f k = g k) → mrF f n = mrF g n
  | 0, _ => rfl
  | n + 1, h => by rw [mrF, mrF, mr_cong (fun k hk => h k (by omega)), h n (by omega)]
theorem lrw_eq {v : Sto} {x z : Int32} {p : Nat → Bool} (h : ∀ k, k < 168 → decide (lvT v 3 k = x) = p k) : lrwV v x z = if z = 0 then (mrF (fun r => nI (rl p r)) 168).1 else (mrF (fun r => nI (rl p r)) 168).2 := by
  have e := lr_eq (p := fun r => decide (lvT v 3 r = x))
  have e2 : mrF (fun r => nI (rl (fun r => decide (lvT v 3 r = x)) r)) 168 = mrF (fun r => nI (rl p r)) 168 := mr_cong (fun k hk => congrArg nI (rl_cong h))
  rw [e2] at e
  rw [lrwV, ← e]
set_option maxHeartbeats 1000000 in
theorem c_X11_run {E : EE} (v : Sto) (T W : Nat) (x z : Int32) (u : Sto) (hK : LK v u T W) : CtP E 35 0 yX11_run cX11_run 3 (some .int) [.ref (E.ad 178), .int x, .int z] u (PMr (cdL [ioob]) (runR v x z).1 u) := by
  refine ctp_of (by decide) (Nat.le_of_ble_eq_true rfl) (fun X h hR hrt htab hargs => ?_)
  refine g_aload_n h dX11_run_0 rfl rfl ?_
  refine g_aload_n h dX11_run_1 rfl rfl ?_
  refine g_iload_n h dX11_run_2 rfl rfl ?_
  refine g_V h lv_X11_277_X11 sh_178 (by decide) rfl (c_X11_isTenant x v T W u hK.r) (fitR hR (by first | decide | omega) (by decide) (by omega)) rfl rfl (Nat.le_of_ble_eq_true rfl) dX11_run_3 ?_
  by_cases n3 : okT v x
  · refine g_top (b2_t n3) ?_
    obtain ⟨a, ha, ha9, ia, rfl⟩ := okT_n hK.hT hK.r.vt n3
    refine g_if_ne (tgt := 13) h dX11_run_6 (by decide) (fun _ => ?_) (fun q => absurd q (by decide))
    refine g_iconst (v := nI 0) h dX11_run_13 (by decide) ?_
    refine g_putI h pfl_X11_69_10 sh_178 (by decide) rfl dX11_run_14 ?_
    refine g_aload_n h dX11_run_17 rfl rfl ?_
    refine g_getI h fl_X11_69_10 sh_178 (by decide) rfl dX11_run_18 ?_
    refine g_top su_k ?_
    refine g_if_le (tgt := 26) h dX11_run_21 (by decide) (fun _ => ?_) (fun q => absurd q (by decide))
    refine g_aload_n h dX11_run_26 rfl rfl ?_
    refine g_iconst (v := nI 1) h dX11_run_27 (by decide) ?_
    refine g_aload_n h dX11_run_28 rfl rfl ?_
    refine g_iload_n h dX11_run_29 rfl rfl ?_
    refine g_V h lv_X11_87_X11 sh_178 (by decide) rfl (c_X11_adult a v T W ha _ hK.th.r) (fitR hR (by first | decide | omega) (by decide) (by omega)) rfl rfl (Nat.le_of_ble_eq_true rfl) dX11_run_30 ?_
    refine g_iload_n h dX11_run_33 rfl rfl ?_
    refine g_V h lv_X11_336_X11 sh_178 (by decide) rfl (c_X11_runs 1 (by decide) _ _ _) (fitR hR (by first | decide | omega) (by decide) (by omega)) rfl rfl (Nat.le_of_ble_eq_true rfl) dX11_run_34 ?_
    exact g_iretP h hrt dX11_run_37 (by omega) (pm_v (by rw [runR, if_pos n3]) ((congrArg (fun q => lrwV v (hmI v q) z) ia).trans (lrw_eq (fun k hk => by rw [hK.th.liv hk]))) (sim.refl _))
  · refine g_top (b2_f n3) ?_
    refine g_if_ne (tgt := 13) h dX11_run_6 (by decide) (fun q => absurd q (by decide)) (fun _ => ?_)
    refine g_iconst (v := nI 1) h dX11_run_9 (by decide) ?_
    refine g_goto (tgt := 14) h dX11_run_10 (by decide) ?_
    refine g_putI h pfl_X11_69_10 sh_178 (by decide) rfl dX11_run_14 ?_
    refine g_aload_n h dX11_run_17 rfl rfl ?_
    refine g_getI h fl_X11_69_10 sh_178 (by decide) rfl dX11_run_18 ?_
    refine g_top su_k ?_
    refine g_if_le (tgt := 26) h dX11_run_21 (by decide) (fun q => absurd q (by decide)) (fun _ => ?_)
    refine g_iconst (v := nI 0) h dX11_run_24 (by decide) ?_
    exact g_iretP h hrt dX11_run_25 (by omega) (by first | exact pm_x (Ex := ioob) (by rw [runR, if_neg n3]) (by decide) (sim.refl _))
set_option maxHeartbeats 1000000 in
theorem c_X11_empty {E : EE} (v : Sto) (T W : Nat) (z : Int32) (u : Sto) (hK : LK v u T W) (hI : TI v 3 10 T) : CtP E 3 0 yX11_empty cX11_empty 2 (some .int) [.ref (E.ad 178), .int z] u (PMr (cdL []) (.inl (some (.int (lrwV v (-1) z)))) u) := by
  refine ctp_of (by decide) (Nat.le_of_ble_eq_true rfl) (fun X h hR hrt htab hargs => ?_)
  refine g_aload_n h dX11_empty_0 rfl rfl ?_
  refine g_iconst (v := nI 0) h dX11_empty_1 (by decide) ?_
  refine g_putI h pfl_X11_69_10 sh_178 (by decide) rfl dX11_empty_2 ?_
  refine g_aload_n h dX11_empty_5 rfl rfl ?_
  refine g_iconst (v := nI 0) h dX11_empty_6 (by decide) ?_
  refine g_iconst (v := -1) h dX11_empty_7 (by decide) ?_
  refine g_iload_n h dX11_empty_8 rfl rfl ?_
  refine g_V h lv_X11_336_X11 sh_178 (by decide) rfl (c_X11_runs 0 (by decide) _ _ _) (fitR hR (by first | decide | omega) (by decide) (by omega)) rfl rfl (Nat.le_of_ble_eq_true rfl) dX11_empty_9 ?_
  exact g_iretP h hrt dX11_empty_12 (by omega) (pm_v rfl (lrw_eq (fun k hk => by rw [hK.th.own hk]; exact decide_eq_decide.mpr (hI.lvn hk))) (sim.refl _))
set_option maxHeartbeats 1000000 in
theorem c_X11_livesAmong {E : EE} (v : Sto) (T W a b N : Nat) (ha : a < T) (hb : b < 168) (hN : N ≤ 12) (u : Sto) (hK : LK v u T W) : Ct E 4 0 yX11_livesAmong cX11_livesAmong 6 (some .int) [.ref (E.ad 178), .int (nI a), .int (nI b), .int (nI N)] u (.inl (some (.int (lrI v (hmI v a) b N)))) (u) := by
  refine ct_of (by decide) (Nat.le_of_ble_eq_true rfl) (fun X h hR hrt htab hargs hini => ?_)
  have LP : ∀ j k : Nat, N < k + j → k ≤ N → G E X (QM E X (.inl (some (.int (lrI v (hmI v a) b N)))) (u) 0) 6 0 6 [(0, .ref (E.ad 178)), (1, .int (nI a)), (2, .int (nI b)), (3, .int (nI N)), (4, .int (lrI v (hmI v a) b k)), (5, .int (nI k))] [] (u) := by
    intro j
    induction j with
    | zero => intro k h1 h2; omega
    | succ j ih =>
      intro k h1 h2
      refine g_iload h dX11_livesAmong_6 rfl ?_
      refine g_iload_n h dX11_livesAmong_8 rfl rfl ?_
      refine g_icmp_ge (tgt := 48) h dX11_livesAmong_9 (by decide) (fun c9 => ?_) (fun c9 => ?_)
      · have n9 := le_n (by omega) (by omega) (show nI (N) ≤ nI (k) from c9)
        refine g_iload h dX11_livesAmong_48 rfl ?_
        exact g_iret h hrt dX11_livesAmong_50 (by omega) (by rw [show k = N by omega]) rfl
      · have n9 := nle_n (by omega) (by omega) (show ¬ nI (N) ≤ nI (k) from c9)
        have hrm := rt_mod b k
        refine g_iload h dX11_livesAmong_12 rfl ?_
        refine g_aload_n h dX11_livesAmong_14 rfl rfl ?_
        refine g_iload_n h dX11_livesAmong_15 rfl rfl ?_
        refine g_iload h dX11_livesAmong_16 rfl ?_
        refine g_iadd h dX11_livesAmong_18 ?_
        refine g_top (nI_add _ _) ?_
        refine g_sipush (v := nI 168) h dX11_livesAmong_19 (by decide) ?_
        refine g_irem h dX11_livesAmong_22 (by decide) ?_
        refine g_top (y := nI ((b + k) % 168)) (pk_rem (by omega) (by omega) (by omega)) ?_
        refine g_V h lv_X11_264_X11 sh_178 (by decide) rfl (c_X11_livesIn (nI ((b + k) % 168)) ((b + k) % 168 + 168) (nI_add _ _) (by have := hrm; omega) v T W _ hK.t) (fitR hR (by first | decide | omega) (by decide) (by omega)) rfl rfl (Nat.le_of_ble_eq_true rfl) dX11_livesAmong_23 ?_
        refine g_top (congrArg (lvT v 3) (m168 hrm)) ?_
        refine g_aload_n h dX11_livesAmong_26 rfl rfl ?_
        refine g_iload_n h dX11_livesAmong_27 rfl rfl ?_
        refine g_V h lv_X11_87_X11 sh_178 (by decide) rfl (c_X11_adult a v T W ha _ hK.r) (fitR hR (by first | decide | omega) (by decide) (by omega)) rfl rfl (Nat.le_of_ble_eq_true rfl) dX11_livesAmong_28 ?_
        refine g_icmp_ne (tgt := 38) h dX11_livesAmong_31 (by decide) (fun c31 => ?_) (fun c31 => ?_)
        · refine g_iconst (v := nI 0) h dX11_livesAmong_38 (by decide) ?_
          refine g_iadd h dX11_livesAmong_39 ?_
          refine g_istore (ls' := [(0, _), (1, _), (2, _), (3, _), (4, _), (5, _)]) h dX11_livesAmong_40 (by decide) rfl rfl ?_
          refine g_iinc (v := nI (k + 1)) (ls' := [(0, _), (1, _), (2, _), (3, _), (4, _), (5, _)]) h dX11_livesAmong_42 rfl (nI_1 k) (by decide) rfl rfl ?_
          refine g_goto (tgt := 6) h dX11_livesAmong_45 (by decide) ?_
          exact g_cv (by unfold lrI; rw [ct_0 (fun q => c31 (of_decide_eq_true q))]) rfl (ih (k + 1) (by omega) (by omega))
        · refine g_iconst (v := nI 1) h dX11_livesAmong_34 (by decide) ?_
          refine g_goto (tgt := 39) h dX11_livesAmong_35 (by decide) ?_
          refine g_iadd h dX11_livesAmong_39 ?_
          refine g_istore (ls' := [(0, _), (1, _), (2, _), (3, _), (4, _), (5, _)]) h dX11_livesAmong_40 (by decide) rfl rfl ?_
          refine g_iinc (v := nI (k + 1)) (ls' := [(0, _), (1, _), (2, _), (3, _), (4, _), (5, _)]) h dX11_livesAmong_42 rfl (nI_1 k) (by decide) rfl rfl ?_
          refine g_goto (tgt := 6) h dX11_livesAmong_45 (by decide) ?_
          exact g_cv (by unfold lrI; rw [ct_1 (decide_eq_true c31)]) rfl (ih (k + 1) (by omega) (by omega))
  refine g_iconst (v := nI 0) h dX11_livesAmong_0 (by decide) ?_
  refine g_istore (ls' := [(0, _), (1, _), (2, _), (3, _), (4, _)]) h dX11_livesAmong_1 (by decide) rfl rfl ?_
  refine g_iconst (v := nI 0) h dX11_livesAmong_3 (by decide) ?_
  refine g_istore (ls' := [(0, _), (1, _), (2, _), (3, _), (4, _), (5, _)]) h dX11_livesAmong_4 (by decide) rfl rfl ?_
  exact LP (N + 1) (0) (by omega) (by omega)
theorem ctI_n {p : Nat → Bool} : ∀ n, ctI p n = nI (cN p n)
  | 0 => rfl
  | n + 1 => by
    rw [ctI, cN, ctI_n n]
    split
    · exact nI_1 _
    · rfl
theorem cN_lq {p : Nat → Bool} : ∀ n, cN p n ≤ n
  | 0 => Nat.le_refl _
  | n + 1 => by have := cN_lq (p := p) n; rw [cN]; split <;> omega
theorem cN_z {p : Nat → Bool} : ∀ n, (∀ k, k < n → ¬ p k = true) → cN p n = 0
  | 0, _ => rfl
  | n + 1, h => by rw [cN, if_neg (h n (by omega)), cN_z n (fun k hk => h k (by omega))]
theorem mr_ge {F : Nat → Nat} {B : Nat} (hB : B < 2 ^ 31) (h : ∀ r, F r ≤ B) : ∀ k, ∃ x, (mrF (fun r => nI (F r)) k).1 = nI x ∧ x ≤ B ∧ ∀ r, r < k → F r ≤ x
  | 0 => ⟨0, rfl, Nat.zero_le _, fun r hr => by omega⟩
  | k + 1 => by
    obtain ⟨x, e, hx, hr⟩ := mr_ge hB h k
    have := h k
    unfold mrF
    by_cases c : (mrF (fun r => nI (F r)) k).1 < nI (F k)
    · rw [if_pos c]
      rw [e] at c
      have := lt_n (by omega) (by omega) c
      exact ⟨F k, rfl, h k, fun r h2 => by by_cases q : r = k; · rw [q]; exact Nat.le_refl _
                                           · have := hr r (by omega); omega⟩
    · rw [if_neg c]
      rw [e] at c
      have := nlt_n (by omega) (by omega) c
      exact ⟨x, e, hx, fun r h2 => by by_cases q : r = k; · rw [q]; exact this
                                      · exact hr r (by omega)⟩
theorem chg_eq {v : Sto} {T W b N : Nat} (hI : TI v 3 10 T) (hR : RI v 10 T W) (hT : T ≤ 10) (hNN : N < 2 ^ 31) : ∀ k, k ≤ T → mrF (fun t => lrI v (hmI v t) b N) k = mrF (fun t => lrI v (nI t) b N) k
  | 0, _ => rfl
  | k + 1, hk => by
    have ih := chg_eq (b := b) (N := N) hI hR hT hNN k (by omega)
    have eF : (fun t => lrI v (hmI v t) b N) = fun t => nI (cN (fun j => decide (lvT v 3 ((b + j) % 168) = hmI v t)) N) := by funext t; exact ctI_n N
    have eG : (fun t => lrI v (nI t) b N) = fun t => nI (cN (fun j => decide (lvT v 3 ((b + j) % 168) = nI t)) N) := by funext t; exact ctI_n N
    rcases hR.mot k (by omega) with e | ⟨m, hm, e, e2⟩
    · rw [mrF, mrF, ih, show hmI v k = nI k by rw [hmI, if_pos e]]
    · have e3 : hmI v k = nI m := by rw [hmI, if_neg (by rw [show v 13 k = nI m from e]; exact nI_m1 (by omega))]; exact e
      have e4 : hmI v m = nI m := by rw [hmI, if_pos (show v 13 m = -1 from e2)]
      have g0 : lrI v (nI k) b N = nI 0 := by
        rw [lrI, ctI_n, cN_z]
        intro j _ q
        have q := of_decide_eq_true q
        rcases hI.liv (rt_mod b j) with z | ⟨a, ha, z, z2⟩
        · rw [z] at q; exact nI_m1 (by omega) q.symm
        · rw [z] at q
          have := eq_n (by omega) (by omega) q
          subst this
          rw [show v (10 + 3) a = nI m from e] at z2
          exact nI_m1 (by omega) z2
      rw [mrF, mrF]
      have h1 : ¬ (mrF (fun t => lrI v (hmI v t) b N) k).1 < lrI v (hmI v k) b N := by
        rw [eF]
        by_cases hN : N < 2 ^ 31
        · obtain ⟨x, ex, hx, hr⟩ := mr_ge (F := fun t => cN (fun j => decide (lvT v 3 ((b + j) % 168) = hmI v t)) N) (B := N) hN (fun r => cN_lq N) k
          rw [ex]
          have h2 := hr m hm
          have h3 : cN (fun j => decide (lvT v 3 ((b + j) % 168) = hmI v m)) N ≤ x := h2
          rw [e4, ← e3] at h3
          show ¬ nI x < lrI v (hmI v k) b N
          rw [lrI, ctI_n]
          exact fun q => absurd (lt_n (by omega) (by omega) q) (by omega)
        · exfalso; exact hN hNN
      have h5 : ¬ (mrF (fun t => lrI v (nI t) b N) k).1 < lrI v (nI k) b N := by
        rw [g0, eG]
        obtain ⟨x, ex, hx, hr⟩ := mr_ge (F := fun t => cN (fun j => decide (lvT v 3 ((b + j) % 168) = nI t)) N) (B := N) hNN (fun r => cN_lq N) k
        rw [ex]
        exact fun q => absurd (lt_n (by omega) (by omega) q) (by omega)
      rw [if_neg h1, if_neg h5, ih]
set_option maxHeartbeats 1000000 in
theorem c_X11_changed {E : EE} (v : Sto) (T W : Nat) (y n x : Int32) (u : Sto) (hK : LK v u T W) (hI : TI v 3 10 T) (hRi : RI v 10 T W) : CtP E 35 0 yX11_changed cX11_changed 7 (some .int) [.ref (E.ad 178), .int y, .int n, .int x] u (PMr (cdL [ioob, iae]) (chgR v T y n x).1 u) := by
  refine ctp_of (by decide) (Nat.le_of_ble_eq_true rfl) (fun X h hR hrt htab hargs => ?_)
  refine g_aload_n h dX11_changed_0 rfl rfl ?_
  refine g_iload_n h dX11_changed_1 rfl rfl ?_
  refine g_S h ls_X11_289 (c_X11_isRoom y u) (fitR hR (by first | decide | omega) (by decide) (by omega)) rfl rfl (Nat.le_of_ble_eq_true rfl) dX11_changed_2 ?_
  by_cases n2 : okR y
  · refine g_top (b2_t n2) ?_
    obtain ⟨r, hr, ir, rfl⟩ := okR_n n2
    refine g_if_eq (tgt := 21) h dX11_changed_5 (by decide) (fun q => absurd q (by decide)) (fun _ => ?_)
    refine g_iload_n h dX11_changed_8 rfl rfl ?_
    refine g_iconst (v := -1) h dX11_changed_9 (by decide) ?_
    refine g_icmp_eq (tgt := 25) h dX11_changed_10 (by decide) (fun c10 => ?_) (fun c10 => ?_)
    · subst c10
      refine g_iload_n h dX11_changed_25 rfl rfl ?_
      refine g_iconst (v := nI 1) h dX11_changed_26 (by decide) ?_
      refine g_bipush (v := nI 12) h dX11_changed_27 (by decide) ?_
      refine g_S h ls_X11_72 (c_X11_isIn n (nI 1) (nI 12) u) (fitR hR (by first | decide | omega) (by decide) (by omega)) rfl rfl (Nat.le_of_ble_eq_true rfl) dX11_changed_29 ?_
      by_cases n29 : okN n (nI 1) (nI 12)
      · refine g_top (b2_t n29) ?_
        obtain ⟨N, hN0, hN1, iN, rfl⟩ := okN_k (by decide) n29
        refine g_if_ne (tgt := 39) h dX11_changed_32 (by decide) (fun _ => ?_) (fun q => absurd q (by decide))
        refine g_iconst (v := nI 0) h dX11_changed_39 (by decide) ?_
        refine g_putI h pfl_X11_69_10 sh_178 (by decide) rfl dX11_changed_40 ?_
        refine g_aload_n h dX11_changed_43 rfl rfl ?_
        refine g_getI h fl_X11_69_10 sh_178 (by decide) rfl dX11_changed_44 ?_
        refine g_top su_k ?_
        refine g_if_le (tgt := 52) h dX11_changed_47 (by decide) (fun _ => ?_) (fun q => absurd q (by decide))
        refine g_iload_n h dX11_changed_52 rfl rfl ?_
        refine g_iconst (v := -1) h dX11_changed_53 (by decide) ?_
        refine g_icmp_eq (tgt := 65) h dX11_changed_54 (by decide) (fun c54 => ?_) (fun c54 => ?_)
        · refine g_iconst (v := -1) h dX11_changed_65 (by decide) ?_
          refine g_istore (ls' := [(0, _), (1, _), (2, _), (3, _), (4, _)]) h dX11_changed_66 (by decide) rfl rfl ?_
          refine g_iconst (v := nI 0) h dX11_changed_68 (by decide) ?_
          refine g_istore (ls' := [(0, _), (1, _), (2, _), (3, _), (4, _), (5, _)]) h dX11_changed_69 (by decide) rfl rfl ?_
          refine g_iconst (v := nI 0) h dX11_changed_71 (by decide) ?_
          refine g_istore (ls' := [(0, _), (1, _), (2, _), (3, _), (4, _), (5, _), (6, _)]) h dX11_changed_72 (by decide) rfl rfl ?_
          have LP : ∀ j k : Nat, T < k + j → k ≤ T → G E X (QMP E X (PMr (cdL [ioob, iae]) (chgR v T (nI r) (nI N) (-1)).1 u) 0) 7 0 74 [(0, .ref (E.ad 178)), (1, .int (nI r)), (2, .int (nI N)), (3, .int (-1)), (4, .int (mrF (fun t => lrI v (hmI v t) r N) k).2), (5, .int (mrF (fun t => lrI v (hmI v t) r N) k).1), (6, .int (nI k))] [] ((su u 178 0 (nI 0))) := by
            intro j
            induction j with
            | zero => intro k h1 h2; omega
            | succ j ih =>
              intro k h1 h2
              refine g_iload h dX11_changed_74 rfl ?_
              refine g_aload_n h dX11_changed_76 rfl rfl ?_
              refine g_getR h fl_X11_7_10 sh_178 (by decide) rfl dX11_changed_77 ?_
              refine g_iconst (v := nI 1) h dX11_changed_80 (by decide) ?_
              refine g_iald h _ _ _ sh_179 (by decide) (by decide) rfl (by omega) dX11_changed_81 ?_
              refine g_top (y := nI T) ((congrFun (su_cell _ _ (by decide)) _).trans hK.r.ten) ?_
              refine g_icmp_ge (tgt := 121) h dX11_changed_82 (by decide) (fun c82 => ?_) (fun c82 => ?_)
              · have n82 := le_n (by omega) (by omega) (show nI (T) ≤ nI (k) from c82)
                refine g_iload h dX11_changed_121 rfl ?_
                exact g_iretP h hrt dX11_changed_123 (by omega) (pm_v (by rw [chgR, if_pos n2, if_pos (show (-1 : Int32) = -1 ∨ okT v (-1) from Or.inl rfl), if_pos n29]) (by rw [ir, iN, chgV, if_pos rfl, ← chg_eq (W := W) hI hRi hK.hT (by omega) T (Nat.le_refl _), show k = T by omega]) (sim.refl _))
              · have n82 := nle_n (by omega) (by omega) (show ¬ nI (T) ≤ nI (k) from c82)
                refine g_aload_n h dX11_changed_85 rfl rfl ?_
                refine g_iload h dX11_changed_86 rfl ?_
                refine g_iload_n h dX11_changed_88 rfl rfl ?_
                refine g_iload_n h dX11_changed_89 rfl rfl ?_
                refine g_V h lv_X11_379_X11 sh_178 (by decide) rfl (c_X11_livesAmong v T W k r N (by omega) hr hN1 _ hK.th) (fitR hR (by first | decide | omega) (by decide) (by omega)) rfl rfl (Nat.le_of_ble_eq_true rfl) dX11_changed_90 ?_
                refine g_iload h dX11_changed_93 rfl ?_
                refine g_icmp_gt (tgt := 101) h dX11_changed_95 (by decide) (fun c95 => ?_) (fun c95 => ?_)
                · refine g_aload_n h dX11_changed_101 rfl rfl ?_
                  refine g_iload h dX11_changed_102 rfl ?_
                  refine g_iload_n h dX11_changed_104 rfl rfl ?_
                  refine g_iload_n h dX11_changed_105 rfl rfl ?_
                  refine g_V h lv_X11_379_X11 sh_178 (by decide) rfl (c_X11_livesAmong v T W k r N (by omega) hr hN1 _ hK.th) (fitR hR (by first | decide | omega) (by decide) (by omega)) rfl rfl (Nat.le_of_ble_eq_true rfl) dX11_changed_106 ?_
                  refine g_istore (ls' := [(0, _), (1, _), (2, _), (3, _), (4, _), (5, _), (6, _)]) h dX11_changed_109 (by decide) rfl rfl ?_
                  refine g_iload h dX11_changed_111 rfl ?_
                  refine g_istore (ls' := [(0, _), (1, _), (2, _), (3, _), (4, _), (5, _), (6, _)]) h dX11_changed_113 (by decide) rfl rfl ?_
                  refine g_iinc (v := nI (k + 1)) (ls' := [(0, _), (1, _), (2, _), (3, _), (4, _), (5, _), (6, _)]) h dX11_changed_115 rfl (nI_1 k) (by decide) rfl rfl ?_
                  refine g_goto (tgt := 74) h dX11_changed_118 (by decide) ?_
                  exact g_cv (by rw [mr_1 (f := (fun t => lrI v (hmI v t) r N)) rfl c95]) rfl (ih (k + 1) (by omega) (by omega))
                · refine g_goto (tgt := 115) h dX11_changed_98 (by decide) ?_
                  refine g_iinc (v := nI (k + 1)) (ls' := [(0, _), (1, _), (2, _), (3, _), (4, _), (5, _), (6, _)]) h dX11_changed_115 rfl (nI_1 k) (by decide) rfl rfl ?_
                  refine g_goto (tgt := 74) h dX11_changed_118 (by decide) ?_
                  exact g_cv (by rw [mr_0 (f := (fun t => lrI v (hmI v t) r N)) rfl (by first | exact c95 | exact Int32.not_lt.mpr c95)]) rfl (ih (k + 1) (by omega) (by omega))
          exact LP (T + 1) (0) (by omega) (by omega)
          
        · exact absurd rfl c54
      · refine g_top (b2_f n29) ?_
        refine g_if_ne (tgt := 39) h dX11_changed_32 (by decide) (fun q => absurd q (by decide)) (fun _ => ?_)
        refine g_iconst (v := nI 2) h dX11_changed_35 (by decide) ?_
        refine g_goto (tgt := 40) h dX11_changed_36 (by decide) ?_
        refine g_putI h pfl_X11_69_10 sh_178 (by decide) rfl dX11_changed_40 ?_
        refine g_aload_n h dX11_changed_43 rfl rfl ?_
        refine g_getI h fl_X11_69_10 sh_178 (by decide) rfl dX11_changed_44 ?_
        refine g_top su_k ?_
        refine g_if_le (tgt := 52) h dX11_changed_47 (by decide) (fun q => absurd q (by decide)) (fun _ => ?_)
        refine g_iconst (v := nI 0) h dX11_changed_50 (by decide) ?_
        exact g_iretP h hrt dX11_changed_51 (by omega) (by first | exact pm_x (Ex := ioob) (by rw [chgR, if_pos n2, if_pos (show (-1 : Int32) = -1 ∨ okT v (-1) from Or.inl rfl), if_neg n29]) (by decide) (sim.refl _) | exact pm_x (Ex := iae) (by rw [chgR, if_pos n2, if_pos (show (-1 : Int32) = -1 ∨ okT v (-1) from Or.inl rfl), if_neg n29]) (by decide) (sim.refl _))
    · refine g_aload_n h dX11_changed_13 rfl rfl ?_
      refine g_iload_n h dX11_changed_14 rfl rfl ?_
      refine g_V h lv_X11_277_X11 sh_178 (by decide) rfl (c_X11_isTenant x v T W u hK.r) (fitR hR (by first | decide | omega) (by decide) (by omega)) rfl rfl (Nat.le_of_ble_eq_true rfl) dX11_changed_15 ?_
      by_cases n15 : okT v x
      · refine g_top (b2_t n15) ?_
        refine g_if_ne (tgt := 25) h dX11_changed_18 (by decide) (fun _ => ?_) (fun q => absurd q (by decide))
        refine g_iload_n h dX11_changed_25 rfl rfl ?_
        refine g_iconst (v := nI 1) h dX11_changed_26 (by decide) ?_
        refine g_bipush (v := nI 12) h dX11_changed_27 (by decide) ?_
        refine g_S h ls_X11_72 (c_X11_isIn n (nI 1) (nI 12) u) (fitR hR (by first | decide | omega) (by decide) (by omega)) rfl rfl (Nat.le_of_ble_eq_true rfl) dX11_changed_29 ?_
        by_cases n29 : okN n (nI 1) (nI 12)
        · refine g_top (b2_t n29) ?_
          obtain ⟨N, hN0, hN1, iN, rfl⟩ := okN_k (by decide) n29
          refine g_if_ne (tgt := 39) h dX11_changed_32 (by decide) (fun _ => ?_) (fun q => absurd q (by decide))
          refine g_iconst (v := nI 0) h dX11_changed_39 (by decide) ?_
          refine g_putI h pfl_X11_69_10 sh_178 (by decide) rfl dX11_changed_40 ?_
          refine g_aload_n h dX11_changed_43 rfl rfl ?_
          refine g_getI h fl_X11_69_10 sh_178 (by decide) rfl dX11_changed_44 ?_
          refine g_top su_k ?_
          refine g_if_le (tgt := 52) h dX11_changed_47 (by decide) (fun _ => ?_) (fun q => absurd q (by decide))
          refine g_iload_n h dX11_changed_52 rfl rfl ?_
          refine g_iconst (v := -1) h dX11_changed_53 (by decide) ?_
          refine g_icmp_eq (tgt := 65) h dX11_changed_54 (by decide) (fun c54 => ?_) (fun c54 => ?_)
          · exact absurd c54 c10
          · obtain ⟨a, ha, ha9, ia, rfl⟩ := okT_n hK.hT hK.r.vt n15
            refine g_aload_n h dX11_changed_57 rfl rfl ?_
            refine g_iload_n h dX11_changed_58 rfl rfl ?_
            refine g_iload_n h dX11_changed_59 rfl rfl ?_
            refine g_iload_n h dX11_changed_60 rfl rfl ?_
            refine g_V h lv_X11_379_X11 sh_178 (by decide) rfl (c_X11_livesAmong v T W a r N ha hr hN1 _ hK.th) (fitR hR (by first | decide | omega) (by decide) (by omega)) rfl rfl (Nat.le_of_ble_eq_true rfl) dX11_changed_61 ?_
            exact g_iretP h hrt dX11_changed_64 (by omega) (pm_v (by rw [chgR, if_pos n2, if_pos (Or.inr n15), if_pos n29]) (by rw [ir, iN, chgV, if_neg c54, ia]) (sim.refl _))
        · refine g_top (b2_f n29) ?_
          refine g_if_ne (tgt := 39) h dX11_changed_32 (by decide) (fun q => absurd q (by decide)) (fun _ => ?_)
          refine g_iconst (v := nI 2) h dX11_changed_35 (by decide) ?_
          refine g_goto (tgt := 40) h dX11_changed_36 (by decide) ?_
          refine g_putI h pfl_X11_69_10 sh_178 (by decide) rfl dX11_changed_40 ?_
          refine g_aload_n h dX11_changed_43 rfl rfl ?_
          refine g_getI h fl_X11_69_10 sh_178 (by decide) rfl dX11_changed_44 ?_
          refine g_top su_k ?_
          refine g_if_le (tgt := 52) h dX11_changed_47 (by decide) (fun q => absurd q (by decide)) (fun _ => ?_)
          refine g_iconst (v := nI 0) h dX11_changed_50 (by decide) ?_
          exact g_iretP h hrt dX11_changed_51 (by omega) (by first | exact pm_x (Ex := ioob) (by rw [chgR, if_pos n2, if_pos (Or.inr n15), if_neg n29]) (by decide) (sim.refl _) | exact pm_x (Ex := iae) (by rw [chgR, if_pos n2, if_pos (Or.inr n15), if_neg n29]) (by decide) (sim.refl _))
      · refine g_top (b2_f n15) ?_
        refine g_if_ne (tgt := 25) h dX11_changed_18 (by decide) (fun q => absurd q (by decide)) (fun _ => ?_)
        refine g_iconst (v := nI 1) h dX11_changed_21 (by decide) ?_
        refine g_goto (tgt := 40) h dX11_changed_22 (by decide) ?_
        refine g_putI h pfl_X11_69_10 sh_178 (by decide) rfl dX11_changed_40 ?_
        refine g_aload_n h dX11_changed_43 rfl rfl ?_
        refine g_getI h fl_X11_69_10 sh_178 (by decide) rfl dX11_changed_44 ?_
        refine g_top su_k ?_
        refine g_if_le (tgt := 52) h dX11_changed_47 (by decide) (fun q => absurd q (by decide)) (fun _ => ?_)
        refine g_iconst (v := nI 0) h dX11_changed_50 (by decide) ?_
        exact g_iretP h hrt dX11_changed_51 (by omega) (by first | exact pm_x (Ex := ioob) (by rw [chgR, if_pos n2, if_neg (not_or.mpr ⟨c10, n15⟩)]) (by decide) (sim.refl _) | exact pm_x (Ex := iae) (by rw [chgR, if_pos n2, if_neg (not_or.mpr ⟨c10, n15⟩)]) (by decide) (sim.refl _))
  · refine g_top (b2_f n2) ?_
    refine g_if_eq (tgt := 21) h dX11_changed_5 (by decide) (fun _ => ?_) (fun q => absurd q (by decide))
    refine g_iconst (v := nI 1) h dX11_changed_21 (by decide) ?_
    refine g_goto (tgt := 40) h dX11_changed_22 (by decide) ?_
    refine g_putI h pfl_X11_69_10 sh_178 (by decide) rfl dX11_changed_40 ?_
    refine g_aload_n h dX11_changed_43 rfl rfl ?_
    refine g_getI h fl_X11_69_10 sh_178 (by decide) rfl dX11_changed_44 ?_
    refine g_top su_k ?_
    refine g_if_le (tgt := 52) h dX11_changed_47 (by decide) (fun q => absurd q (by decide)) (fun _ => ?_)
    refine g_iconst (v := nI 0) h dX11_changed_50 (by decide) ?_
    exact g_iretP h hrt dX11_changed_51 (by omega) (by first | exact pm_x (Ex := ioob) (by rw [chgR, if_neg n2]) (by decide) (sim.refl _) | exact pm_x (Ex := iae) (by rw [chgR, if_neg n2]) (by decide) (sim.refl _))
