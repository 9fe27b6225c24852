-- after: 9q.ou
theorem up_id {f : Nat → Int32} {k : Nat} : upd f k (f k) = f := by
  funext j
  by_cases q : j = k
  · subst q; exact pk_us
  · exact pk_un q
theorem mn_n {a b : Nat} (ha : a < 2 ^ 30) (hb : b < 2 ^ 30) : mnI (nI a) (nI b) = nI (min a b) := by
  unfold mnI
  by_cases c : nI b < nI a
  · have := lt_n (by omega) (by omega) c
    rw [if_pos c, Nat.min_eq_right (by omega)]
  · have : ¬ b < a := fun q => c ((nI_ltI (by omega) (by omega)).mpr q)
    rw [if_neg c, Nat.min_eq_left (by omega)]
theorem bk_n {k w : Nat} (hw : w < 32) : ¬ bitJ (nI k) (nI w) = 0 ↔ k.testBit w = true := by rw [bt_J hw, bt_nI hw]
theorem co_1 {l : Nat → Nat} {S w : Nat} (h : S.testBit w = true) : coN l S (w + 1) = coN l S w := by
  show coN l S w + _ = _
  rw [if_pos h]; omega
theorem co_0 {l : Nat → Nat} {S w : Nat} (h : ¬ S.testBit w = true) : coN l S (w + 1) = coN l S w + l w := by
  show coN l S w + _ = _
  rw [if_neg h]
theorem co_le {l : Nat → Nat} {S : Nat} (w : Nat) : coN l S w ≤ toN l w := by have := ws_co (l := l) (S := S) w; omega
set_option maxHeartbeats 1000000 in
theorem c_X11_counts {E : EE} (r : Nat) (hr : r < 168) (b : Int32) (u : Sto) : Ct E 1 0 yX11_counts cX11_counts 4 none [.ref (E.ad 178), .int (nI r), .int b] u (.inl none) (sc u 188 (spF (u 188) (u 187 r) b 256)) := by
  refine ct_of (by decide) (Nat.le_of_ble_eq_true rfl) (fun X h hR hrt htab hargs hini => ?_)
  refine g_iconst (v := nI 0) h dX11_counts_0 (by decide) ?_
  refine g_istore_n (ls' := [(0, _), (1, _), (2, _), (3, _)]) h dX11_counts_1 rfl (by decide) rfl rfl ?_
  have LP : ∀ j k : Nat, 256 < k + j → k ≤ 256 → G E X (QM E X (.inl none) (sc u 188 (spF (u 188) (u 187 r) b 256)) 0) 4 0 2 [(0, .ref (E.ad 178)), (1, .int (nI r)), (2, .int b), (3, .int (nI k))] [] (sc u 188 (spF (u 188) (u 187 r) b k)) := by
    intro j
    induction j with
    | zero => intro k h1 h2; omega
    | succ j ih =>
      intro k h1 h2
      refine g_iload_n h dX11_counts_2 rfl rfl ?_
      refine g_sipush (v := nI 256) h dX11_counts_3 (by decide) ?_
      refine g_icmp_ge (tgt := 40) h dX11_counts_6 (by decide) (fun c6 => ?_) (fun c6 => ?_)
      · have n6 := le_n (by omega) (by omega) (show nI (256) ≤ nI (k) from c6)
        obtain rfl : k = 256 := by omega
        exact g_vret h hrt dX11_counts_40 (by omega) rfl rfl
      · have n6 := nle_n (by omega) (by omega) (show ¬ nI (256) ≤ nI (k) from c6)
        refine g_aload_n h dX11_counts_9 rfl rfl ?_
        refine g_getR h fl_X11_42_10 sh_178 (by decide) rfl dX11_counts_10 ?_
        refine g_iload_n h dX11_counts_13 rfl rfl ?_
        refine g_dup2 h dX11_counts_14 rfl rfl ?_
        refine g_iald h _ _ _ sh_188 (by decide) (by decide) rfl (by omega) dX11_counts_15 ?_
        refine g_top (y := spF (u 188) (u 187 r) b k k) (by rw [sc_at]) ?_
        refine g_iload_n h dX11_counts_16 rfl rfl ?_
        refine g_aload_n h dX11_counts_17 rfl rfl ?_
        refine g_getR h fl_X11_39_10 sh_178 (by decide) rfl dX11_counts_18 ?_
        refine g_iload_n h dX11_counts_21 rfl rfl ?_
        refine g_iald h _ _ _ sh_187 (by decide) (by decide) rfl hr dX11_counts_22 ?_
        refine g_top (y := u 187 r) (by rw [sc_c (by decide)]) ?_
        refine g_iand h dX11_counts_23 ?_
        refine g_if_eq (tgt := 31) h dX11_counts_24 (by decide) (fun c24 => ?_) (fun c24 => ?_)
        · refine g_iconst (v := nI 0) h dX11_counts_31 (by decide) ?_
          refine g_iadd h dX11_counts_32 ?_
          refine g_iast h _ _ _ sh_188 (by decide) (by decide) rfl (by omega) dX11_counts_33 ?_
          refine g_iinc (v := nI (k + 1)) (ls' := [(0, _), (1, _), (2, _), (3, _)]) h dX11_counts_34 rfl (nI_1 k) (by decide) rfl rfl ?_
          refine g_goto (tgt := 2) h dX11_counts_37 (by decide) ?_
          exact g_cv rfl (by rw [su_sc, sp_n c24, show (nI 0 : Int32) = 0 from rfl, Int32.add_zero, up_id]) (ih (k + 1) (by omega) (by omega))
        · refine g_iload_n h dX11_counts_27 rfl rfl ?_
          refine g_goto (tgt := 32) h dX11_counts_28 (by decide) ?_
          refine g_iadd h dX11_counts_32 ?_
          refine g_iast h _ _ _ sh_188 (by decide) (by decide) rfl (by omega) dX11_counts_33 ?_
          refine g_iinc (v := nI (k + 1)) (ls' := [(0, _), (1, _), (2, _), (3, _)]) h dX11_counts_34 rfl (nI_1 k) (by decide) rfl rfl ?_
          refine g_goto (tgt := 2) h dX11_counts_37 (by decide) ?_
          exact g_cv rfl (by rw [su_sc, sp_s c24]) (ih (k + 1) (by omega) (by omega))
  exact g_cv rfl (by rw [sp_0, sc_self]) (LP (256 + 1) 0 (by omega) (by omega))
  
set_option maxHeartbeats 1000000 in
theorem c_X11_mostGiven {E : EE} (c l : Nat → Nat) (W : Nat) (hW : W ≤ 8) (u : Sto) (h9 : u 179 9 = nI W) (hc : ∀ S, S < 2 ^ W → u 188 S = nI (c S) ∧ c S ≤ 168) (hl : ∀ w, w < W → u 189 w = nI (l w) ∧ l w ≤ 20) : Ct E 2 0 yX11_mostGiven cX11_mostGiven 5 (some .int) [.ref (E.ad 178)] u (.inl (some (.int (nI (mgN c l W (2 ^ W)))))) (u) := by
  refine ct_of (by decide) (Nat.le_of_ble_eq_true rfl) (fun X h hR hrt htab hargs hini => ?_)
  refine g_sipush (v := nI 9999) h dX11_mostGiven_0 (by decide) ?_
  refine g_istore_n (ls' := [(0, _), (1, _)]) h dX11_mostGiven_3 rfl (by decide) rfl rfl ?_
  refine g_iconst (v := nI 0) h dX11_mostGiven_4 (by decide) ?_
  refine g_istore_n (ls' := [(0, _), (1, _), (2, _)]) h dX11_mostGiven_5 rfl (by decide) rfl rfl ?_
  have h8 := pw_8 hW; have hp0 : 0 < 2 ^ W := Nat.two_pow_pos _
  have LP : ∀ j k : Nat, 2 ^ W < k + j → k ≤ 2 ^ W → G E X (QM E X (.inl (some (.int (nI (mgN c l W (2 ^ W)))))) (u) 0) 5 0 6 [(0, .ref (E.ad 178)), (1, .int (nI (mgN c l W k))), (2, .int (nI k))] [] (u) := by
    intro j
    induction j with
    | zero => intro k h1 h2; omega
    | succ j ih =>
      intro k h1 h2
      refine g_iload_n h dX11_mostGiven_6 rfl rfl ?_
      refine g_iconst (v := nI 1) h dX11_mostGiven_7 (by decide) ?_
      refine g_aload_n h dX11_mostGiven_8 rfl rfl ?_
      refine g_getR h fl_X11_7_10 sh_178 (by decide) rfl dX11_mostGiven_9 ?_
      refine g_bipush (v := nI 9) h dX11_mostGiven_12 (by decide) ?_
      refine g_iald h _ _ _ sh_179 (by decide) (by decide) rfl (by omega) dX11_mostGiven_14 ?_
      refine g_top (y := nI W) h9 ?_
      refine g_ishl h dX11_mostGiven_15 ?_
      refine g_top (y := nI (2 ^ W)) (one_pw W hW) ?_
      refine g_icmp_ge (tgt := 82) h dX11_mostGiven_16 (by decide) (fun c16 => ?_) (fun c16 => ?_)
      · have n16 := le_n (by omega) (by omega) (show nI (2 ^ W) ≤ nI (k) from c16)
        have ek : k = 2 ^ W := by omega
        refine g_iload_n h dX11_mostGiven_82 rfl rfl ?_
        exact g_iret h hrt dX11_mostGiven_83 (by omega) (by rw [ek]) rfl
      · have n16 := nle_n (by omega) (by omega) (show ¬ nI (2 ^ W) ≤ nI (k) from c16)
        refine g_aload_n h dX11_mostGiven_19 rfl rfl ?_
        refine g_getR h fl_X11_42_10 sh_178 (by decide) rfl dX11_mostGiven_20 ?_
        refine g_iload_n h dX11_mostGiven_23 rfl rfl ?_
        refine g_iald h _ _ _ sh_188 (by decide) (by decide) rfl (by omega) dX11_mostGiven_24 ?_
        refine g_top (y := nI (c k)) (hc k (by omega)).1 ?_
        refine g_istore_n (ls' := [(0, _), (1, _), (2, _), (3, _)]) h dX11_mostGiven_25 rfl (by decide) rfl rfl ?_
        refine g_iconst (v := nI 0) h dX11_mostGiven_26 (by decide) ?_
        refine g_istore (ls' := [(0, _), (1, _), (2, _), (3, _), (4, _)]) h dX11_mostGiven_27 (by decide) rfl rfl ?_
        have LP2 : ∀ j2 w : Nat, W < w + j2 → w ≤ W → G E X (QM E X (.inl (some (.int (nI (mgN c l W (2 ^ W)))))) (u) 0) 5 0 29 [(0, .ref (E.ad 178)), (1, .int (nI (mgN c l W k))), (2, .int (nI k)), (3, .int (nI (c k + coN l k w))), (4, .int (nI w))] [] (u) := by
          intro j2
          induction j2 with
          | zero => intro w h1 h2; omega
          | succ j2 ih2 =>
            intro w h1 h2
            refine g_iload h dX11_mostGiven_29 rfl ?_
            refine g_aload_n h dX11_mostGiven_31 rfl rfl ?_
            refine g_getR h fl_X11_7_10 sh_178 (by decide) rfl dX11_mostGiven_32 ?_
            refine g_bipush (v := nI 9) h dX11_mostGiven_35 (by decide) ?_
            refine g_iald h _ _ _ sh_179 (by decide) (by decide) rfl (by omega) dX11_mostGiven_37 ?_
            refine g_top (y := nI W) h9 ?_
            refine g_icmp_ge (tgt := 70) h dX11_mostGiven_38 (by decide) (fun c38 => ?_) (fun c38 => ?_)
            · have n38 := le_n (by omega) (by omega) (show nI (W) ≤ nI (w) from c38)
              have ew : w = W := by omega
              have hcl := co_le (l := l) (S := k) W
              have hto := to_20 (l := l) W (fun w hw => (hl w hw).2)
              have hck := (hc k (by omega)).2
              have hmb := mg_b (c := c) (l := l) (W := W) (n := k)
              refine g_iload_n h dX11_mostGiven_70 rfl rfl ?_
              refine g_iload_n h dX11_mostGiven_71 rfl rfl ?_
              refine g_S h ls_X11_292 (c_X11_lesser _ _ u) (fitR hR (by first | decide | omega) (by decide) (by omega)) rfl rfl (Nat.le_of_ble_eq_true rfl) dX11_mostGiven_72 ?_
              refine g_top (y := nI (mgN c l W (k + 1))) (by rw [ew]; exact mn_n (by omega) (by omega)) ?_
              refine g_istore_n (ls' := [(0, _), (1, _), (2, _), (3, _), (4, _)]) h dX11_mostGiven_75 rfl (by decide) rfl rfl ?_
              refine g_iinc (v := nI (k + 1)) (ls' := [(0, _), (1, _), (2, _), (3, _), (4, _)]) h dX11_mostGiven_76 rfl (nI_1 k) (by decide) rfl rfl ?_
              refine g_goto (tgt := 6) h dX11_mostGiven_79 (by decide) ?_
              refine g_del 3 (ls' := [(0, _), (1, _), (2, _), (4, _)]) rfl ?_
              refine g_del 4 (ls' := [(0, _), (1, _), (2, _)]) rfl ?_
              exact ih (k + 1) (by omega) (by omega)
            · have n38 := nle_n (by omega) (by omega) (show ¬ nI (W) ≤ nI (w) from c38)
              refine g_iload_n h dX11_mostGiven_41 rfl rfl ?_
              refine g_iload_n h dX11_mostGiven_42 rfl rfl ?_
              refine g_iload h dX11_mostGiven_43 rfl ?_
              refine g_S h ls_X11_340 (c_X11_isOf (nI k) (nI w) u) (fitR hR (by first | decide | omega) (by decide) (by omega)) rfl rfl (Nat.le_of_ble_eq_true rfl) dX11_mostGiven_45 ?_
              by_cases n45 : k.testBit w = true
              · refine g_top (b2_t ((bk_n (by omega)).mpr n45)) ?_
                refine g_if_eq (tgt := 55) h dX11_mostGiven_48 (by decide) (fun q => absurd q (by decide)) (fun _ => ?_)
                refine g_iconst (v := nI 0) h dX11_mostGiven_51 (by decide) ?_
                refine g_goto (tgt := 62) h dX11_mostGiven_52 (by decide) ?_
                refine g_iadd h dX11_mostGiven_62 ?_
                refine g_top (y := nI (c k + coN l k (w + 1))) (by rw [nI_add]; exact congrArg nI (by have := co_1 (l := l) n45; omega)) ?_
                refine g_istore_n (ls' := [(0, _), (1, _), (2, _), (3, _), (4, _)]) h dX11_mostGiven_63 rfl (by decide) rfl rfl ?_
                refine g_iinc (v := nI (w + 1)) (ls' := [(0, _), (1, _), (2, _), (3, _), (4, _)]) h dX11_mostGiven_64 rfl (nI_1 w) (by decide) rfl rfl ?_
                refine g_goto (tgt := 29) h dX11_mostGiven_67 (by decide) ?_
                exact ih2 (w + 1) (by omega) (by omega)
              · refine g_top (b2_f (fun q => n45 ((bk_n (by omega)).mp q))) ?_
                refine g_if_eq (tgt := 55) h dX11_mostGiven_48 (by decide) (fun _ => ?_) (fun q => absurd q (by decide))
                refine g_aload_n h dX11_mostGiven_55 rfl rfl ?_
                refine g_getR h fl_X11_45_10 sh_178 (by decide) rfl dX11_mostGiven_56 ?_
                refine g_iload h dX11_mostGiven_59 rfl ?_
                refine g_iald h _ _ _ sh_189 (by decide) (by decide) rfl (by omega) dX11_mostGiven_61 ?_
                refine g_top (y := nI (l w)) (hl w (by omega)).1 ?_
                refine g_iadd h dX11_mostGiven_62 ?_
                refine g_top (y := nI (c k + coN l k (w + 1))) (by rw [nI_add]; exact congrArg nI (by have := co_0 (l := l) n45; omega)) ?_
                refine g_istore_n (ls' := [(0, _), (1, _), (2, _), (3, _), (4, _)]) h dX11_mostGiven_63 rfl (by decide) rfl rfl ?_
                refine g_iinc (v := nI (w + 1)) (ls' := [(0, _), (1, _), (2, _), (3, _), (4, _)]) h dX11_mostGiven_64 rfl (nI_1 w) (by decide) rfl rfl ?_
                refine g_goto (tgt := 29) h dX11_mostGiven_67 (by decide) ?_
                exact ih2 (w + 1) (by omega) (by omega)
        exact LP2 (W + 1) (0) (by omega) (by omega)
        
  exact LP (2 ^ W + 1) (0) (by omega) (by omega)
  
abbrev isPw (v : Sto) (r w : Nat) : Prop := v 4 r = -1 ∧ v 14 r = 0 ∧ wfP v r w
set_option maxHeartbeats 1000000 in
theorem c_X11_isFor {E : EE} (v : Sto) (T W w r : Nat) (hw : w < W) (hr : r < 168) (u : Sto) (hK : LK v u T W) (hRi : RI v 10 T W) : CtP E 34 0 yX11_isFor cX11_isFor 4 (some .boolean) [.ref (E.ad 178), .int (nI w), .int (nI r)] u (PA (.inl (some (.int (b2 (isPw v r w))))) u) := by
  refine ctp_of (by decide) (Nat.le_of_ble_eq_true rfl) (fun X h hR hrt htab hargs => ?_)
  obtain ⟨a, ha, ea, -⟩ := hRi.wof w hw
  have ea : v 15 w = nI a := ea
  have hT9 := hK.hT
  have hW9 := hK.r.hW
  refine g_bipush (v := nI 56) h dX11_isFor_0 (by decide) ?_
  refine g_iconst (v := nI 4) h dX11_isFor_2 (by decide) ?_
  refine g_iload_n h dX11_isFor_3 rfl rfl ?_
  refine g_imul h dX11_isFor_4 ?_
  refine g_iadd h dX11_isFor_5 ?_
  refine g_top (y := nI (56 + 4 * w)) (by rw [nI_mul, nI_add]) ?_
  refine g_istore_n (ls' := [(0, _), (1, _), (2, _), (3, _)]) h dX11_isFor_6 rfl (by decide) rfl rfl ?_
  refine g_aload_n h dX11_isFor_7 rfl rfl ?_
  refine g_iload_n h dX11_isFor_8 rfl rfl ?_
  refine g_iconst (v := nI 0) h dX11_isFor_9 (by decide) ?_
  refine g_V h lv_X11_84_X11 sh_178 (by decide) rfl (c_X11_ofRoom r 0 hr (by decide) u) (fitR hR (by first | decide | omega) (by decide) (by omega)) rfl rfl (Nat.le_of_ble_eq_true rfl) dX11_isFor_10 ?_
  refine g_top (y := v 4 r) (hK.own hr) ?_
  refine g_iconst (v := -1) h dX11_isFor_13 (by decide) ?_
  refine g_icmp_ne (tgt := 53) h dX11_isFor_14 (by decide) (fun c14 => ?_) (fun c14 => ?_)
  · refine g_iconst (v := nI 0) h dX11_isFor_53 (by decide) ?_
    exact g_zretP h hrt dX11_isFor_54 (by omega) (by first | exact Or.inl rfl | exact Or.inr rfl | exact b2_01 _ | exact hF.2.2.2.1 | exact hF.2.2.2.2 | exact hy | exact hv | simp) ⟨by rw [b2_f (fun q => c14 q.1)], simA.refl _⟩
  · refine g_aload_n h dX11_isFor_17 rfl rfl ?_
    refine g_iload_n h dX11_isFor_18 rfl rfl ?_
    refine g_iconst (v := nI 3) h dX11_isFor_19 (by decide) ?_
    refine g_V h lv_X11_84_X11 sh_178 (by decide) rfl (c_X11_ofRoom r 3 hr (by decide) u) (fitR hR (by first | decide | omega) (by decide) (by omega)) rfl rfl (Nat.le_of_ble_eq_true rfl) dX11_isFor_20 ?_
    refine g_top (y := v 14 r) (hK.sht hr) ?_
    refine g_iconst (v := nI 1) h dX11_isFor_23 (by decide) ?_
    refine g_icmp_eq (tgt := 53) h dX11_isFor_24 (by decide) (fun c24 => ?_) (fun c24 => ?_)
    · refine g_iconst (v := nI 0) h dX11_isFor_53 (by decide) ?_
      exact g_zretP h hrt dX11_isFor_54 (by omega) (by first | exact Or.inl rfl | exact Or.inr rfl | exact b2_01 _ | exact hF.2.2.2.1 | exact hF.2.2.2.2 | exact hy | exact hv | simp) ⟨by rw [b2_f (fun q => absurd (c24.symm.trans q.2.1) (by decide))], simA.refl _⟩
    · refine g_iload_n h dX11_isFor_27 rfl rfl ?_
      refine g_bipush (v := nI 24) h dX11_isFor_28 (by decide) ?_
      refine g_irem h dX11_isFor_30 (by decide) ?_
      refine g_top (y := nI (r % 24)) (pk_rem (by omega) (by omega) (by omega)) ?_
      refine g_aload_n h dX11_isFor_31 rfl rfl ?_
      refine g_getR h fl_X11_7_10 sh_178 (by decide) rfl dX11_isFor_32 ?_
      refine g_iload_n h dX11_isFor_35 rfl rfl ?_
      refine g_iconst (v := nI 2) h dX11_isFor_36 (by decide) ?_
      refine g_iadd h dX11_isFor_37 ?_
      refine g_top (y := nI (58 + 4 * w)) (by rw [nI_add]; exact congrArg nI (by omega)) ?_
      refine g_iald h _ _ _ sh_179 (by decide) (by decide) rfl (by omega) dX11_isFor_38 ?_
      refine g_top (y := v 17 w) (hK.r.w2 w hw) ?_
      refine g_aload_n h dX11_isFor_39 rfl rfl ?_
      refine g_getR h fl_X11_7_10 sh_178 (by decide) rfl dX11_isFor_40 ?_
      refine g_iload_n h dX11_isFor_43 rfl rfl ?_
      refine g_iconst (v := nI 3) h dX11_isFor_44 (by decide) ?_
      refine g_iadd h dX11_isFor_45 ?_
      refine g_top (y := nI (59 + 4 * w)) (by rw [nI_add]; exact congrArg nI (by omega)) ?_
      refine g_iald h _ _ _ sh_179 (by decide) (by decide) rfl (by omega) dX11_isFor_46 ?_
      refine g_top (y := v 18 w) (hK.r.w3 w hw) ?_
      refine g_S h ls_X11_72 (c_X11_isIn (nI (r % 24)) (v 17 w) (v 18 w) u) (fitR hR (by first | decide | omega) (by decide) (by omega)) rfl rfl (Nat.le_of_ble_eq_true rfl) dX11_isFor_47 ?_
      by_cases n47 : okN (nI (r % 24)) (v 17 w) (v 18 w)
      · refine g_top (b2_t n47) ?_
        refine g_if_ne (tgt := 55) h dX11_isFor_50 (by decide) (fun _ => ?_) (fun q => absurd q (by decide))
        refine g_aload_n h dX11_isFor_55 rfl rfl ?_
        refine g_aload_n h dX11_isFor_56 rfl rfl ?_
        refine g_getR h fl_X11_7_10 sh_178 (by decide) rfl dX11_isFor_57 ?_
        refine g_iload_n h dX11_isFor_60 rfl rfl ?_
        refine g_iald h _ _ _ sh_179 (by decide) (by decide) rfl (by omega) dX11_isFor_61 ?_
        refine g_top (y := nI a) ((hK.r.w0 w hw).trans ea) ?_
        refine g_iload_n h dX11_isFor_62 rfl rfl ?_
        refine g_VP h lv_X11_314_X11 sh_178 (by decide) rfl (c_X11_isBarredA v T W a r ha hr u hK) pa_nx (fitR hR (by first | decide | omega) (by decide) (by omega)) rfl rfl (Nat.le_of_ble_eq_true rfl) dX11_isFor_63 (fun v63 u63 hs63 => ?_)
        obtain ⟨hv63, hs63⟩ := hs63
        cases hv63
        refine g_if_ne (tgt := 73) h dX11_isFor_66 (by decide) (fun c66 => ?_) (fun c66 => ?_)
        · refine g_iconst (v := nI 0) h dX11_isFor_73 (by decide) ?_
          exact g_zretP h hrt dX11_isFor_74 (by omega) (by first | exact Or.inl rfl | exact Or.inr rfl | exact b2_01 _ | exact hF.2.2.2.1 | exact hF.2.2.2.2 | exact hy | exact hv | simp) ⟨by rw [b2_f (fun q => by have h := b2_n0.mp c66; have h2 := q.2.2.2.2; rw [ea, ix_nI (by omega), h] at h2; exact absurd h2 (by decide))], hs63⟩
        · refine g_iconst (v := nI 1) h dX11_isFor_69 (by decide) ?_
          refine g_goto (tgt := 74) h dX11_isFor_70 (by decide) ?_
          exact g_zretP h hrt dX11_isFor_74 (by omega) (by first | exact Or.inl rfl | exact Or.inr rfl | exact b2_01 _ | exact hF.2.2.2.1 | exact hF.2.2.2.2 | exact hy | exact hv | simp) ⟨by rw [b2_t ⟨c14, (hRi.sht r hr).resolve_right c24, n47.1, n47.2, by rw [ea, ix_nI (by omega)]; exact Bool.eq_false_iff.mpr (b2_0.mp c66)⟩], hs63⟩
      · refine g_top (b2_f n47) ?_
        refine g_if_ne (tgt := 55) h dX11_isFor_50 (by decide) (fun q => absurd q (by decide)) (fun _ => ?_)
        refine g_iconst (v := nI 0) h dX11_isFor_53 (by decide) ?_
        exact g_zretP h hrt dX11_isFor_54 (by omega) (by first | exact Or.inl rfl | exact Or.inr rfl | exact b2_01 _ | exact hF.2.2.2.1 | exact hF.2.2.2.2 | exact hy | exact hv | simp) ⟨by rw [b2_f (fun q => n47 ⟨q.2.2.1, q.2.2.2.1⟩)], simA.refl _⟩
