-- after: 38.r 39.s 40.t 47.str 48.tx 49.ty 50.tt 51.tu 52.tv
set_option maxHeartbeats 1000000 in
theorem c_X8_readLine {E : EE} (a b c d : Int32) (f : Nat → Int32) (L p : Nat) (w : Int32) (T W : Nat) (hT : T ≤ 10) (hW : W ≤ 8) (u : Sto) (hf : u 1 = f) (hL : L ≤ 400) (hp : p ≤ L) (hu : u 34 8 = nI T) (hw : u 34 9 = nI W) (ho : ∀ r, r < 168 → tn (u 28 r) 10) : CtP E 10 0 yX8_readLine cX8_readLine 1 (some .boolean) [.ref (E.ad 159)] (TT u a b c d f L p w) (QL u T W f L w (twD T W (u 37) (u 28) (u 38) f L p)) := by
  have q1 := (nx_b (f := f) hp).2
  have q2 := (nx_b (f := f) q1).2
  have q3 := (nx_b (f := f) q2).2
  have q4 := (nx_b (f := f) q3).2
  have q5 := (nx_b (f := f) q4).2
  have q6 := (nx_b (f := f) q5).2
  have q7 := (nx_b (f := f) q6).2
  have q8 := (nx_b (f := f) q7).2
  refine ctp_of (by decide) (Nat.le_of_ble_eq_true rfl) (fun X h hR hrt htab hargs => ?_)
  refine g_aload_n h dX8_readLine_0 rfl rfl ?_
  refine g_ldcS (tx := "tenant") (k := 0) h (by decide) dX8_readLine_1 ?_
  refine g_V h lv_X8_47_X8 sh_159 (by decide) rfl (c_X6_atWord_159 f L p w 0 (by decide) (tfS u a b c d) ((tf_oc (by decide)).trans hf) hL hp) (fitR hR (by decide) (by decide) (by omega)) rfl rfl (Nat.le_of_ble_eq_true rfl) dX8_readLine_3 ?_
  by_cases n3 : wdB f L p 0 = true
  · refine g_top (b2_t n3) ?_
    refine g_if_eq (tgt := 14) h dX8_readLine_6 (by decide) (fun q => absurd q (by decide)) (fun _ => ?_)
    refine g_aload_n h dX8_readLine_9 rfl rfl ?_
    refine g_VP h lv_X8_51_X8 sh_159 (by decide) rfl (c_X8_readTenant a b c d f L p w T W hT hW u hf hL hp hu hw ho) ql_nx (fitR hR (by decide) (by decide) (by omega)) rfl rfl (Nat.le_of_ble_eq_true rfl) dX8_readLine_10 (fun v10 u10 hs10 => ?_)
    cases h9 : tenD T f L p
    · rename_i e9
      rw [h9] at hs10
      obtain ⟨hv9, a9, b9, c9, d9, p9, hp9, rfl⟩ := hs10
      cases hv9
      exact g_zretP h hrt dX8_readLine_13 (by omega) (by first | exact Or.inl rfl | exact Or.inr rfl | simp) (ql_e (by rw [twD, if_pos n3, h9]) hp9)
    · rename_i q9
      rw [h9] at hs10
      obtain ⟨hv9, hp9, a9, b9, c9, d9, rfl⟩ := hs10
      cases hv9
      exact g_zretP h hrt dX8_readLine_13 (by omega) (by first | exact Or.inl rfl | exact Or.inr rfl | simp) (ql_k (by rw [twD, if_pos n3, h9]) hp9 rfl)
  · refine g_top (b2_f n3) ?_
    refine g_if_eq (tgt := 14) h dX8_readLine_6 (by decide) (fun _ => ?_) (fun q => absurd q (by decide))
    refine g_aload_n h dX8_readLine_14 rfl rfl ?_
    refine g_ldcS (tx := "child") (k := 3) h (by decide) dX8_readLine_15 ?_
    refine g_V h lv_X8_47_X8 sh_159 (by decide) rfl (c_X6_atWord_159 f L p w 3 (by decide) (tfS u a b c d) ((tf_oc (by decide)).trans hf) hL hp) (fitR hR (by decide) (by decide) (by omega)) rfl rfl (Nat.le_of_ble_eq_true rfl) dX8_readLine_17 ?_
    by_cases n17 : wdB f L p 3 = true
    · refine g_top (b2_t n17) ?_
      refine g_if_eq (tgt := 28) h dX8_readLine_20 (by decide) (fun q => absurd q (by decide)) (fun _ => ?_)
      refine g_aload_n h dX8_readLine_23 rfl rfl ?_
      refine g_VP h lv_X8_56_X8 sh_159 (by decide) rfl (c_X8_readChild a b c d f L p w T W hT hW u hf hL hp hu hw ho) ql_nx (fitR hR (by decide) (by decide) (by omega)) rfl rfl (Nat.le_of_ble_eq_true rfl) dX8_readLine_24 (fun v24 u24 hs24 => ?_)
      cases h9 : chlD T (u 37) f L p
      · rename_i e9
        rw [h9] at hs24
        obtain ⟨hv9, a9, b9, c9, d9, p9, hp9, rfl⟩ := hs24
        cases hv9
        exact g_zretP h hrt dX8_readLine_27 (by omega) (by first | exact Or.inl rfl | exact Or.inr rfl | simp) (ql_e (by rw [twD, if_neg n3, if_pos n17, h9]) hp9)
      · rename_i q9
        rw [h9] at hs24
        obtain ⟨hv9, hp9, a9, b9, c9, d9, rfl⟩ := hs24
        cases hv9
        exact g_zretP h hrt dX8_readLine_27 (by omega) (by first | exact Or.inl rfl | exact Or.inr rfl | simp) (ql_k (by rw [twD, if_neg n3, if_pos n17, h9]) hp9 rfl)
    · refine g_top (b2_f n17) ?_
      refine g_if_eq (tgt := 28) h dX8_readLine_20 (by decide) (fun _ => ?_) (fun q => absurd q (by decide))
      refine g_aload_n h dX8_readLine_28 rfl rfl ?_
      refine g_ldcS (tx := "let") (k := 5) h (by decide) dX8_readLine_29 ?_
      refine g_V h lv_X8_47_X8 sh_159 (by decide) rfl (c_X6_atWord_159 f L p w 5 (by decide) (tfS u a b c d) ((tf_oc (by decide)).trans hf) hL hp) (fitR hR (by decide) (by decide) (by omega)) rfl rfl (Nat.le_of_ble_eq_true rfl) dX8_readLine_31 ?_
      by_cases n31 : wdB f L p 5 = true
      · refine g_top (b2_t n31) ?_
        refine g_if_eq (tgt := 42) h dX8_readLine_34 (by decide) (fun q => absurd q (by decide)) (fun _ => ?_)
        refine g_aload_n h dX8_readLine_37 rfl rfl ?_
        refine g_VP h lv_X8_61_X8 sh_159 (by decide) rfl (c_X8_readLet a b c d f L p w T W hT hW u hf hL hp hu hw ho) ql_nx (fitR hR (by decide) (by decide) (by omega)) rfl rfl (Nat.le_of_ble_eq_true rfl) dX8_readLine_38 (fun v38 u38 hs38 => ?_)
        cases h9 : letD T (u 37) (u 28) (u 38) f L p
        · rename_i e9
          rw [h9] at hs38
          obtain ⟨hv9, a9, b9, c9, d9, p9, hp9, rfl⟩ := hs38
          cases hv9
          exact g_zretP h hrt dX8_readLine_41 (by omega) (by first | exact Or.inl rfl | exact Or.inr rfl | simp) (ql_e (by rw [twD, if_neg n3, if_neg n17, if_pos n31, h9]) hp9)
        · rename_i q9
          rw [h9] at hs38
          obtain ⟨hv9, hp9, a9, b9, c9, d9, rfl⟩ := hs38
          cases hv9
          exact g_zretP h hrt dX8_readLine_41 (by omega) (by first | exact Or.inl rfl | exact Or.inr rfl | simp) (ql_k (by rw [twD, if_neg n3, if_neg n17, if_pos n31, h9]) hp9 rfl)
      · refine g_top (b2_f n31) ?_
        refine g_if_eq (tgt := 42) h dX8_readLine_34 (by decide) (fun _ => ?_) (fun q => absurd q (by decide))
        refine g_aload_n h dX8_readLine_42 rfl rfl ?_
        refine g_ldcS (tx := "goods") (k := 6) h (by decide) dX8_readLine_43 ?_
        refine g_V h lv_X8_47_X8 sh_159 (by decide) rfl (c_X6_atWord_159 f L p w 6 (by decide) (tfS u a b c d) ((tf_oc (by decide)).trans hf) hL hp) (fitR hR (by decide) (by decide) (by omega)) rfl rfl (Nat.le_of_ble_eq_true rfl) dX8_readLine_45 ?_
        by_cases n45 : wdB f L p 6 = true
        · refine g_top (b2_t n45) ?_
          refine g_if_eq (tgt := 56) h dX8_readLine_48 (by decide) (fun q => absurd q (by decide)) (fun _ => ?_)
          refine g_aload_n h dX8_readLine_51 rfl rfl ?_
          refine g_VP h lv_X8_66_X8 sh_159 (by decide) rfl (c_X8_readGoods a b c d f L p w T W hT hW u hf hL hp hu hw ho) ql_nx (fitR hR (by decide) (by decide) (by omega)) rfl rfl (Nat.le_of_ble_eq_true rfl) dX8_readLine_52 (fun v52 u52 hs52 => ?_)
          cases h9 : gdsD f L p
          · rename_i e9
            rw [h9] at hs52
            obtain ⟨hv9, a9, b9, c9, d9, p9, hp9, rfl⟩ := hs52
            cases hv9
            exact g_zretP h hrt dX8_readLine_55 (by omega) (by first | exact Or.inl rfl | exact Or.inr rfl | simp) (ql_e (by rw [twD, if_neg n3, if_neg n17, if_neg n31, if_pos n45, h9]) hp9)
          · rename_i q9
            rw [h9] at hs52
            obtain ⟨hv9, hp9, a9, b9, c9, d9, rfl⟩ := hs52
            cases hv9
            exact g_zretP h hrt dX8_readLine_55 (by omega) (by first | exact Or.inl rfl | exact Or.inr rfl | simp) (ql_k (by rw [twD, if_neg n3, if_neg n17, if_neg n31, if_pos n45, h9]) hp9 rfl)
        · refine g_top (b2_f n45) ?_
          refine g_if_eq (tgt := 56) h dX8_readLine_48 (by decide) (fun _ => ?_) (fun q => absurd q (by decide))
          refine g_aload_n h dX8_readLine_56 rfl rfl ?_
          refine g_ldcS (tx := "shut") (k := 7) h (by decide) dX8_readLine_57 ?_
          refine g_V h lv_X8_47_X8 sh_159 (by decide) rfl (c_X6_atWord_159 f L p w 7 (by decide) (tfS u a b c d) ((tf_oc (by decide)).trans hf) hL hp) (fitR hR (by decide) (by decide) (by omega)) rfl rfl (Nat.le_of_ble_eq_true rfl) dX8_readLine_59 ?_
          by_cases n59 : wdB f L p 7 = true
          · refine g_top (b2_t n59) ?_
            refine g_if_eq (tgt := 70) h dX8_readLine_62 (by decide) (fun q => absurd q (by decide)) (fun _ => ?_)
            refine g_aload_n h dX8_readLine_65 rfl rfl ?_
            refine g_VP h lv_X8_71_X8 sh_159 (by decide) rfl (c_X8_readShut a b c d f L p w T W hT hW u hf hL hp hu hw ho) ql_nx (fitR hR (by decide) (by decide) (by omega)) rfl rfl (Nat.le_of_ble_eq_true rfl) dX8_readLine_66 (fun v66 u66 hs66 => ?_)
            cases h9 : shtD (u 28) f L p
            · rename_i e9
              rw [h9] at hs66
              obtain ⟨hv9, a9, b9, c9, d9, p9, hp9, rfl⟩ := hs66
              cases hv9
              exact g_zretP h hrt dX8_readLine_69 (by omega) (by first | exact Or.inl rfl | exact Or.inr rfl | simp) (ql_e (by rw [twD, if_neg n3, if_neg n17, if_neg n31, if_neg n45, if_pos n59, h9]) hp9)
            · rename_i q9
              rw [h9] at hs66
              obtain ⟨hv9, hp9, a9, b9, c9, d9, rfl⟩ := hs66
              cases hv9
              exact g_zretP h hrt dX8_readLine_69 (by omega) (by first | exact Or.inl rfl | exact Or.inr rfl | simp) (ql_k (by rw [twD, if_neg n3, if_neg n17, if_neg n31, if_neg n45, if_pos n59, h9]) hp9 rfl)
          · refine g_top (b2_f n59) ?_
            refine g_if_eq (tgt := 70) h dX8_readLine_62 (by decide) (fun _ => ?_) (fun q => absurd q (by decide))
            refine g_aload_n h dX8_readLine_70 rfl rfl ?_
            refine g_ldcS (tx := "sub") (k := 8) h (by decide) dX8_readLine_71 ?_
            refine g_V h lv_X8_47_X8 sh_159 (by decide) rfl (c_X6_atWord_159 f L p w 8 (by decide) (tfS u a b c d) ((tf_oc (by decide)).trans hf) hL hp) (fitR hR (by decide) (by decide) (by omega)) rfl rfl (Nat.le_of_ble_eq_true rfl) dX8_readLine_73 ?_
            by_cases n73 : wdB f L p 8 = true
            · refine g_top (b2_t n73) ?_
              refine g_if_eq (tgt := 84) h dX8_readLine_76 (by decide) (fun q => absurd q (by decide)) (fun _ => ?_)
              refine g_aload_n h dX8_readLine_79 rfl rfl ?_
              refine g_VP h lv_X8_76_X8 sh_159 (by decide) rfl (c_X8_readSub a b c d f L p w T W hT hW u hf hL hp hu hw ho) ql_nx (fitR hR (by decide) (by decide) (by omega)) rfl rfl (Nat.le_of_ble_eq_true rfl) dX8_readLine_80 (fun v80 u80 hs80 => ?_)
              cases h9 : sbtD T (u 37) (u 28) f L p
              · rename_i e9
                rw [h9] at hs80
                obtain ⟨hv9, a9, b9, c9, d9, p9, hp9, rfl⟩ := hs80
                cases hv9
                exact g_zretP h hrt dX8_readLine_83 (by omega) (by first | exact Or.inl rfl | exact Or.inr rfl | simp) (ql_e (by rw [twD, if_neg n3, if_neg n17, if_neg n31, if_neg n45, if_neg n59, if_pos n73, h9]) hp9)
              · rename_i q9
                rw [h9] at hs80
                obtain ⟨hv9, hp9, a9, b9, c9, d9, rfl⟩ := hs80
                cases hv9
                exact g_zretP h hrt dX8_readLine_83 (by omega) (by first | exact Or.inl rfl | exact Or.inr rfl | simp) (ql_k (by rw [twD, if_neg n3, if_neg n17, if_neg n31, if_neg n45, if_neg n59, if_pos n73, h9]) hp9 rfl)
            · refine g_top (b2_f n73) ?_
              refine g_if_eq (tgt := 84) h dX8_readLine_76 (by decide) (fun _ => ?_) (fun q => absurd q (by decide))
              refine g_aload_n h dX8_readLine_84 rfl rfl ?_
              refine g_ldcS (tx := "want") (k := 9) h (by decide) dX8_readLine_85 ?_
              refine g_V h lv_X8_47_X8 sh_159 (by decide) rfl (c_X6_atWord_159 f L p w 9 (by decide) (tfS u a b c d) ((tf_oc (by decide)).trans hf) hL hp) (fitR hR (by decide) (by decide) (by omega)) rfl rfl (Nat.le_of_ble_eq_true rfl) dX8_readLine_87 ?_
              by_cases n87 : wdB f L p 9 = true
              · refine g_top (b2_t n87) ?_
                refine g_if_eq (tgt := 98) h dX8_readLine_90 (by decide) (fun q => absurd q (by decide)) (fun _ => ?_)
                refine g_aload_n h dX8_readLine_93 rfl rfl ?_
                refine g_VP h lv_X8_81_X8 sh_159 (by decide) rfl (c_X8_readWant a b c d f L p w T W hT hW u hf hL hp hu hw ho) ql_nx (fitR hR (by decide) (by decide) (by omega)) rfl rfl (Nat.le_of_ble_eq_true rfl) dX8_readLine_94 (fun v94 u94 hs94 => ?_)
                cases h9 : wntD T W (u 37) f L p
                · rename_i e9
                  rw [h9] at hs94
                  obtain ⟨hv9, a9, b9, c9, d9, p9, hp9, rfl⟩ := hs94
                  cases hv9
                  exact g_zretP h hrt dX8_readLine_97 (by omega) (by first | exact Or.inl rfl | exact Or.inr rfl | simp) (ql_e (by rw [twD, if_neg n3, if_neg n17, if_neg n31, if_neg n45, if_neg n59, if_neg n73, if_pos n87, h9]) hp9)
                · rename_i q9
                  rw [h9] at hs94
                  obtain ⟨hv9, hp9, a9, b9, c9, d9, rfl⟩ := hs94
                  cases hv9
                  exact g_zretP h hrt dX8_readLine_97 (by omega) (by first | exact Or.inl rfl | exact Or.inr rfl | simp) (ql_k (by rw [twD, if_neg n3, if_neg n17, if_neg n31, if_neg n45, if_neg n59, if_neg n73, if_pos n87, h9]) hp9 rfl)
              · refine g_top (b2_f n87) ?_
                refine g_if_eq (tgt := 98) h dX8_readLine_90 (by decide) (fun _ => ?_) (fun q => absurd q (by decide))
                refine g_aload_n h dX8_readLine_98 rfl rfl ?_
                refine g_ldcS (tx := "chance") (k := 11) h (by decide) dX8_readLine_99 ?_
                refine g_V h lv_X8_47_X8 sh_159 (by decide) rfl (c_X6_atWord_159 f L p w 11 (by decide) (tfS u a b c d) ((tf_oc (by decide)).trans hf) hL hp) (fitR hR (by decide) (by decide) (by omega)) rfl rfl (Nat.le_of_ble_eq_true rfl) dX8_readLine_101 ?_
                by_cases n101 : wdB f L p 11 = true
                · refine g_top (b2_t n101) ?_
                  refine g_if_eq (tgt := 114) h dX8_readLine_104 (by decide) (fun q => absurd q (by decide)) (fun _ => ?_)
                  refine g_aload_n h dX8_readLine_107 rfl rfl ?_
                  refine g_VP h lv_X8_86_X8 sh_159 (by decide) rfl (c_X8_readChance a b c d f L p w T W hT hW u hf hL hp hu hw ho) ql_nx (fitR hR (by decide) (by decide) (by omega)) rfl rfl (Nat.le_of_ble_eq_true rfl) dX8_readLine_108 (fun v108 u108 hs108 => ?_)
                  cases h9 : chcD f L p
                  · rename_i e9
                    rw [h9] at hs108
                    obtain ⟨hv9, a9, b9, c9, d9, p9, hp9, rfl⟩ := hs108
                    cases hv9
                    refine g_goto (tgt := 118) h dX8_readLine_111 (by decide) ?_
                    exact g_zretP h hrt dX8_readLine_118 (by omega) (by first | exact Or.inl rfl | exact Or.inr rfl | simp) (ql_e (by rw [twD, if_neg n3, if_neg n17, if_neg n31, if_neg n45, if_neg n59, if_neg n73, if_neg n87, if_pos n101, h9]) hp9)
                  · rename_i q9
                    rw [h9] at hs108
                    obtain ⟨hv9, hp9, a9, b9, c9, d9, rfl⟩ := hs108
                    cases hv9
                    refine g_goto (tgt := 118) h dX8_readLine_111 (by decide) ?_
                    exact g_zretP h hrt dX8_readLine_118 (by omega) (by first | exact Or.inl rfl | exact Or.inr rfl | simp) (ql_k (by rw [twD, if_neg n3, if_neg n17, if_neg n31, if_neg n45, if_neg n59, if_neg n73, if_neg n87, if_pos n101, h9]) hp9 rfl)
                · refine g_top (b2_f n101) ?_
                  refine g_if_eq (tgt := 114) h dX8_readLine_104 (by decide) (fun _ => ?_) (fun q => absurd q (by decide))
                  refine g_aload_n h dX8_readLine_114 rfl rfl ?_
                  refine g_V h lv_X8_38_X8 sh_159 (by decide) rfl (c_X6_fail_159 f L p w (tfS u a b c d) ((tf_oc (by decide)).trans hf) hL hp) (fitR hR (by decide) (by decide) (by omega)) rfl rfl (Nat.le_of_ble_eq_true rfl) dX8_readLine_115 ?_
                  skip
                  · skip
                    exact g_zretP h hrt dX8_readLine_118 (by omega) (by first | exact Or.inl rfl | exact Or.inr rfl | simp) (ql_e (by rw [twD, if_neg n3, if_neg n17, if_neg n31, if_neg n45, if_neg n59, if_neg n73, if_neg n87, if_neg n101]) hp)
abbrev DI (u : Sto) (T W : Nat) : Prop := u 34 8 = nI T ∧ T ≤ 10 ∧ u 34 9 = nI W ∧ W ≤ 8 ∧ ∀ r, r < 168 → tn (u 28 r) 10
def dx (a b : Sto) : Prop := ∀ k, k < 26 ∨ 49 < k ∧ k < 159 ∨ 161 < k → a k = b k
theorem dx.refl (a : Sto) : dx a a := fun _ _ => rfl
theorem dx.trans {a b c : Sto} (h : dx a b) (h2 : dx b c) : dx a c := fun k hk => (h k hk).trans (h2 k hk)
theorem frT_c7 {u : Sto} {r k : Nat} (h : k < 28 ∨ 32 < k) : frT u 27 r k = u k := by
  unfold frT
  rw [su_cell _ _ (by omega), su_cell _ _ (by omega)]
  split
  · rfl
  · rw [su_cell _ _ (by omega)]
theorem soT_c7 {u : Sto} {r m k : Nat} (h : k < 28 ∨ 32 < k) : soT u 27 r m k = u k := by
  unfold soT
  rw [su_cell _ _ (by omega), su_cell _ _ (by omega)]
  exact frT_c7 h
theorem ltS_c {u : Sto} {q m A k : Nat} (h : k < 28 ∨ 32 < k) : ∀ n, ltS u q m A n k = u k
  | 0 => rfl
  | n + 1 => (soT_c7 h).trans (ltS_c h n)
theorem apL_c {u : Sto} {T W : Nat} {x : TL} {k : Nat} (h : k < 26 ∨ 42 < k) : apL u T W x k = u k := by
  cases x using TL.cs with
  | ten c a b => simp only [apL, atS]; rw [su_cell _ _ (by omega), su_cell _ _ (by omega), su_cell _ _ (by omega), su_cell _ _ (by omega), su_cell _ _ (by omega), su_cell _ _ (by omega)]
  | chl m => simp only [apL, atS]; rw [su_cell _ _ (by omega), su_cell _ _ (by omega), su_cell _ _ (by omega), su_cell _ _ (by omega)]
  | lt q A B m => exact ltS_c (by omega) _
  | gds r n => simp only [apL]; rw [su_cell _ _ (by omega)]
  | sht r => simp only [apL]; rw [su_cell _ _ (by omega)]
  | sbt r m => simp only [apL]; rw [su_cell _ _ (by omega)]
  | wnt m n a b => simp only [apL, awS]; rw [su_cell _ _ (by omega), su_cell _ _ (by omega), su_cell _ _ (by omega), su_cell _ _ (by omega), su_cell _ _ (by omega)]
  | chc n => simp only [apL]; rw [su_cell _ _ (by omega)]
def tT : TL → Nat
  | .inl (_, _, _) => 1
  | .inr (.inl _) => 1
  | _ => 0
def tW : TL → Nat
  | .inr (.inr (.inr (.inr (.inr (.inr (.inl (_, _, _, _))))))) => 1
  | _ => 0
/-- what a line that is read may say -/
def tOK (T W : Nat) : TL → Prop
  | .inl (_, _, _) => T < 10
  | .inr (.inl m) => T < 10 ∧ ∃ a, a < T ∧ m = nI a
  | .inr (.inr (.inl (q, A, B, m))) => m < T ∧ q + B < 168 ∧ A ≤ B
  | .inr (.inr (.inr (.inl (r, n)))) => r < 168
  | .inr (.inr (.inr (.inr (.inl r)))) => r < 168
  | .inr (.inr (.inr (.inr (.inr (.inl (r, m)))))) => r < 168 ∧ ∃ a, a < T ∧ m = nI a
  | .inr (.inr (.inr (.inr (.inr (.inr (.inl (m, _, _, _))))))) => W < 8 ∧ ∃ a, a < T ∧ m = nI a
  | .inr (.inr (.inr (.inr (.inr (.inr (.inr (_))))))) => True
theorem su_i {u : Sto} {k j i : Nat} {x : Int32} (h : i ≠ j) : su u k j x k i = u k i := by rw [su_at, pk_un h]
theorem DI_ap {u : Sto} {T W : Nat} {x : TL} (h : DI u T W) (hT : T ≤ 10) (hx : tOK T W x) : DI (apL u T W x) (T + tT x) (W + tW x) := by
  obtain ⟨h1, h2, h3, h4, h5⟩ := h
  cases x using TL.cs with
  | ten c a b =>
    have hx : T < 10 := hx
    refine ⟨?_, by show T + 1 ≤ 10; omega, ?_, h4, ?_⟩
    · simp only [apL, atS]; rw [su_at, pk_us]; rfl
    · simp only [apL, atS]; rw [su_i (by decide), su_cell _ _ (by decide), su_cell _ _ (by decide), su_cell _ _ (by decide), su_i (by decide), su_cell _ _ (by decide)]; exact h3
    · intro r hr; simp only [apL, atS]; rw [su_cell _ _ (by decide), su_cell _ _ (by decide), su_cell _ _ (by decide), su_cell _ _ (by decide), su_cell _ _ (by decide), su_cell _ _ (by decide)]; exact h5 r hr
  | chl m =>
    have hx : T < 10 := hx.1
    refine ⟨?_, by show T + 1 ≤ 10; omega, ?_, h4, ?_⟩
    · simp only [apL, atS]; rw [su_at, pk_us]; rfl
    · simp only [apL, atS]; rw [su_i (by decide), su_cell _ _ (by decide), su_cell _ _ (by decide), su_cell _ _ (by decide)]; exact h3
    · intro r hr; simp only [apL, atS]; rw [su_cell _ _ (by decide), su_cell _ _ (by decide), su_cell _ _ (by decide), su_cell _ _ (by decide)]; exact h5 r hr
  | lt q A B m =>
    have hm : m < T := hx.1
    refine ⟨?_, h2, ?_, h4, ?_⟩
    · exact (congrFun (ltS_c (by decide) _) 8).trans h1
    · exact (congrFun (ltS_c (by decide) _) 9).trans h3
    · exact ltS_own (by omega) h5 _
  | gds r n => exact ⟨(congrFun (su_cell _ _ (by decide)) 8).trans h1, h2, (congrFun (su_cell _ _ (by decide)) 9).trans h3, h4, fun i hi => by simp only [apL]; rw [su_cell _ _ (by decide)]; exact h5 i hi⟩
  | sht r => exact ⟨(congrFun (su_cell _ _ (by decide)) 8).trans h1, h2, (congrFun (su_cell _ _ (by decide)) 9).trans h3, h4, fun i hi => by simp only [apL]; rw [su_cell _ _ (by decide)]; exact h5 i hi⟩
  | sbt r m => exact ⟨(congrFun (su_cell _ _ (by decide)) 8).trans h1, h2, (congrFun (su_cell _ _ (by decide)) 9).trans h3, h4, fun i hi => by simp only [apL]; rw [su_cell _ _ (by decide)]; exact h5 i hi⟩
  | wnt m n a b =>
    have hx : W < 8 := hx.1
    refine ⟨?_, h2, ?_, by show W + 1 ≤ 8; omega, ?_⟩
    · simp only [apL, awS]; rw [su_i (by decide), su_cell _ _ (by decide), su_cell _ _ (by decide), su_cell _ _ (by decide), su_cell _ _ (by decide)]; exact h1
    · simp only [apL, awS]; rw [su_at, pk_us]; rfl
    · intro r hr; simp only [apL, awS]; rw [su_cell _ _ (by decide), su_cell _ _ (by decide), su_cell _ _ (by decide), su_cell _ _ (by decide), su_cell _ _ (by decide)]; exact h5 r hr
  | chc n => exact ⟨(su_i (by decide)).trans h1, h2, (su_i (by decide)).trans h3, h4, fun i hi => by simp only [apL]; rw [su_cell _ _ (by decide)]; exact h5 i hi⟩
