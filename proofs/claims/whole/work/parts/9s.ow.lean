-- after: 9r.ov
theorem sp_1 {f : Nat → Int32} {m n S a : Nat} (hm : m ≤ 256) (hn : n ≤ 256) (hS : S < n) (hf : f S = nI a) : spF f (nI m) (nI 1) n S = nI (a + indN S m) := by
  unfold spF
  by_cases c : mtP2 S m
  · rw [if_pos ⟨hS, (and_z (by omega) (by omega)).mpr c⟩, ind_1 c, hf, nI_add]
  · rw [if_neg (fun q => c ((and_z (by omega) (by omega)).mp q.2)), ind_0 c, hf, Nat.add_zero]
theorem nI_dm (a : Nat) : nI (1 + a) + (-1) = nI a := by rw [Nat.add_comm, ← nI_add, Int32.add_assoc, show nI 1 + (-1 : Int32) = 0 by decide, Int32.add_zero]
theorem sp_d {f : Nat → Int32} {m n S a : Nat} (hm : m ≤ 256) (hn : n ≤ 256) (hS : S < n) (hf : f S = nI (indN S m + a)) : spF f (nI m) (-1) n S = nI a := by
  unfold spF
  by_cases c : mtP2 S m
  · rw [if_pos ⟨hS, (and_z (by omega) (by omega)).mpr c⟩, hf, ind_1 c, nI_dm]
  · rw [if_neg (fun q => c ((and_z (by omega) (by omega)).mp q.2)), hf, ind_0 c, Nat.zero_add]
theorem ft_1 {v : Sto} {k r : Nat} (h : isPw v r k) : ftI v k r ||| one k = ftI v (k + 1) r := by
  unfold ftI
  rw [if_pos ⟨h.1, h.2.1⟩, if_pos ⟨h.1, h.2.1⟩, wfF, if_pos h.2.2]
theorem ft_0 {v : Sto} {k r : Nat} (h : ¬ isPw v r k) : ftI v k r = ftI v (k + 1) r := by
  unfold ftI
  by_cases c : v 4 r = -1 ∧ v 14 r = 0
  · rw [if_pos c, if_pos c, wfF, if_neg (fun q => h ⟨c.1, c.2, q⟩)]
  · rw [if_neg c, if_neg c]
theorem ft_z {v : Sto} {r : Nat} : ftI v 0 r = nI 0 := by
  unfold ftI
  split <;> rfl
theorem FS_nn {v : Sto} {W k : Nat} {l : Nat → Nat} {L : Int} (h : FS v W k l L) : 0 ≤ (toN l W : Int) + L := by
  obtain ⟨S, hS, tS⟩ := h.2.2.1.2
  have := ws_co (l := l) (S := S) W
  unfold sI at tS
  omega
theorem FS_a {v : Sto} {W : Nat} (hW : W ≤ 8) (hl : ∀ w, w < W → v 16 w = nI (lw0 v w) ∧ lw0 v w ≤ 20) : ∃ L : Int, L ≤ 0 ∧ (fiL v W).toInt = L ∧ FS v W 0 (lw0 v) L ∧ (fiN v W : Int) = toN (lw0 v) W + L ∧ mgN (cvK v W 0) (lw0 v) W (2 ^ W) = fiN v W := by
  obtain ⟨L, h1, h2, h3⟩ := FS_0 hW hl
  have key : ∀ k, k ≤ 168 → ∃ l, FS v W k l L := fun k => by
    induction k with
    | zero => exact fun _ => ⟨_, h3⟩
    | succ k ih =>
      intro hk
      obtain ⟨l, hF⟩ := ih (by omega)
      rcases FS_s hW (by omega) hF h2 with ⟨_, _, q⟩ | ⟨w, _, _, _, _, q⟩
      · exact ⟨_, q⟩
      · exact ⟨_, q⟩
  obtain ⟨l, hF⟩ := key 168 (Nat.le_refl _)
  have h4 := FS_e hF
  have h5 := to_20 (l := lw0 v) W (fun w hw => (hl w hw).2)
  have h6 := mg_M h3.2.2.1 (by omega) h1
  exact ⟨L, h1, h2, h3, h4, by omega⟩
theorem FTm {v : Sto} {W k i M : Nat} {l : Nat → Nat} {L : Int} (hW : W ≤ 8) (hk : k < 168) (h : FS v W k l L) (hL : L ≤ 0) (hM : (M : Int) = toN l W + L) (hi : i < W) (hb : (mkN v W k).testBit i = true) (hl : 0 < l i) : 1 ≤ M ∧ (mgN (cvK v W (k + 1)) (dcN l i) W (2 ^ W) = M - 1 ↔ Qw v W k l L i) := by
  have hc := cv_s (v := v) (W := W) hk
  have h1 := to_dc (l := l) hl W
  rw [if_pos hi] at h1
  have h5 := to_20 (l := l) W (fun w hw => (h.1 w hw).2)
  by_cases c : ∀ S, S < 2 ^ W → sI (cvK v W k) l W S = L → mtP2 S (mkN v W k) → S.testBit i = true
  · have h2 := mg_M (fit_M hc h.2.2.1 hi hb hl c) (by omega) hL
    exact ⟨by omega, ⟨fun _ => ⟨hb, hl, c⟩, fun _ => by omega⟩⟩
  · have h3 : ¬ ∀ S, S < 2 ^ W → L ≤ sI (cvK v W (k + 1)) (dcN l i) W S := fun q => c ((fit_C hc h.2.2.1 hi hb hl).mp q)
    have h4 : ∃ S, S < 2 ^ W ∧ sI (cvK v W (k + 1)) (dcN l i) W S < L := Classical.byContradiction (fun q => h3 (fun S hS => by
      by_cases z : L ≤ sI (cvK v W (k + 1)) (dcN l i) W S
      · exact z
      · exact absurd ⟨S, hS, by omega⟩ q))
    obtain ⟨S, hS, tS⟩ := h4
    have h6 := mg_lt hS tS
    exact ⟨by omega, ⟨fun q => by omega, fun q => absurd q.2.2 c⟩⟩
theorem FN {v : Sto} {W k i : Nat} {l : Nat → Nat} {L : Int} {g : Int32} {wr : Nat → Int32} (hW : W ≤ 8) (hk : k < 168) (h : FS v W k l L) (hL : (fiL v W).toInt = L) (hAB : (g = -1 ∧ (∀ j, j < W → wr j = nI (l j)) ∧ ∀ i', i' < i → ¬ Qw v W k l L i') ∨ ∃ w0, w0 < W ∧ Qw v W k l L w0 ∧ (∀ i', i' < w0 → ¬ Qw v W k l L i') ∧ g = nI w0 ∧ ∀ j, j < W → wr j = nI (dcN l w0 j)) (hx : W ≤ i ∨ ¬ g = -1) : fiG v W k = g ∧ ((g = -1 ∧ FS v W (k + 1) l L ∧ ∀ j, j < W → wr j = nI (l j)) ∨ ∃ w0, w0 < W ∧ g = nI w0 ∧ 0 < l w0 ∧ FS v W (k + 1) (dcN l w0) L ∧ ∀ j, j < W → wr j = nI (dcN l w0 j)) := by
  rcases FS_s hW hk h hL with ⟨e, hn, hF⟩ | ⟨w, hw, e, hq, hn, hF⟩
  · rcases hAB with ⟨a, b, c⟩ | ⟨w0, a, b, _⟩
    · exact ⟨e.trans a.symm, Or.inl ⟨a, hF, b⟩⟩
    · exact absurd b (hn w0 a)
  · rcases hAB with ⟨a, b, c⟩ | ⟨w0, a, b, c, d, f⟩
    · rcases hx with hx | hx
      · exact absurd hq (c w (by omega))
      · exact absurd a hx
    · have : w0 = w := by
        by_cases z : w0 < w
        · exact absurd b (hn w0 z)
        · by_cases z2 : w < w0
          · exact absurd hq (c w z2)
          · omega
      subst this
      exact ⟨e.trans d.symm, Or.inr ⟨w0, a, d, hq.2.1, hF, f⟩⟩
def ftQ (v u : Sto) (W : Nat) : Res → Sto → Prop := fun o t => o = .inl none ∧ sim t u ∧ t 178 26 = nI (fiN v W) ∧ ∀ j, j < 168 → t 190 j = fiG v W j
theorem ftq_nx {v u : Sto} {W : Nat} : ∀ Ex u', ¬ ftQ v u W (.inr Ex) u' := fun _ _ h => nomatch h.1
theorem scr_26 : scrB 178 26 = true := by decide
set_option maxHeartbeats 1000000 in
theorem c_X11_fits {E : EE} (v : Sto) (T W : Nat) (u : Sto) (hK : LK v u T W) (hRi : RI v 10 T W) : CtP E 35 0 yX11_fits cX11_fits 4 none [.ref (E.ad 178)] u (ftQ v u W) := by
  refine ctp_of (by decide) (Nat.le_of_ble_eq_true rfl) (fun X h hR hrt htab hargs => ?_)
  have hW9 := hK.r.hW
  have h8 := pw_8 hW9
  have hp0 : 0 < 2 ^ W := Nat.two_pow_pos _
  have hlw : ∀ w, w < W → v 16 w = nI (lw0 v w) ∧ lw0 v w ≤ 20 := fun w hw => by
    obtain ⟨n, hn, e⟩ := hRi.wan w hw
    have e : v 16 w = nI n := e
    unfold lw0
    rw [e, ix_nI (by omega)]; exact ⟨rfl, hn⟩
  have hcb : ∀ k S, cvK v W k S ≤ 168 := fun k S => by
    have := cov_le (mN := mkN v W) (S := S) (168 - k) k
    unfold cvK; omega
  have hmk : ∀ r, ftI v W r = nI (mkN v W r) ∧ mkN v W r ≤ 256 := fun r => ⟨(ft_n hW9).1, by have := (ft_n (v := v) (r := r) hW9).2; omega⟩
  refine g_iconst (v := nI 0) h dX11_fits_0 (by decide) ?_
  refine g_istore_n (ls' := [(0, _), (1, _)]) h dX11_fits_1 rfl (by decide) rfl rfl ?_
  have LP1 : ∀ (j1 k : Nat) (w1 : Sto), 256 < k + j1 → k ≤ 256 → (sim w1 u ∧ ∀ j, j < k → w1 188 j = nI 0) → G E X (QMP E X (ftQ v u W) 0) 4 0 2 [(0, .ref (E.ad 178)), (1, .int (nI k))] [] w1 := by
    intro j1
    induction j1 with
    | zero => intro k w1 h1 h2 hw1; omega
    | succ j1 ih1 =>
      intro k w1 h1 h2 hw1
      refine g_iload_n h dX11_fits_2 rfl rfl ?_
      refine g_sipush (v := nI 256) h dX11_fits_3 (by decide) ?_
      refine g_icmp_ge (tgt := 22) h dX11_fits_6 (by decide) (fun c6 => ?_) (fun c6 => ?_)
      · have n6 := le_n (by omega) (by omega) (show nI (256) ≤ nI (k) from c6)
        refine g_iconst (v := nI 0) h dX11_fits_22 (by decide) ?_
        refine g_istore_n (ls' := [(0, _), (1, _)]) h dX11_fits_23 rfl (by decide) rfl rfl ?_
        have LP2 : ∀ (j2 i : Nat) (w2 : Sto), W < i + j2 → i ≤ W → (sim w2 u ∧ (∀ j, j < 256 → w2 188 j = nI 0) ∧ ∀ j, j < i → w2 189 j = nI (lw0 v j)) → G E X (QMP E X (ftQ v u W) 0) 4 0 24 [(0, .ref (E.ad 178)), (1, .int (nI i))] [] w2 := by
          intro j2
          induction j2 with
          | zero => intro i w2 h1 h2 hw2; omega
          | succ j2 ih2 =>
            intro i w2 h1 h2 hw2
            refine g_iload_n h dX11_fits_24 rfl rfl ?_
            refine g_aload_n h dX11_fits_25 rfl rfl ?_
            refine g_getR h fl_X11_7_10 sh_178 (by decide) rfl dX11_fits_26 ?_
            refine g_bipush (v := nI 9) h dX11_fits_29 (by decide) ?_
            refine g_iald h _ _ _ sh_179 (by decide) (by decide) rfl (by omega) dX11_fits_31 ?_
            refine g_top (y := nI W) ((hK.sim hw2.1).r.wan) ?_
            refine g_icmp_ge (tgt := 60) h dX11_fits_32 (by decide) (fun c32 => ?_) (fun c32 => ?_)
            · have n32 := le_n (by omega) (by omega) (show nI (W) ≤ nI (i) from c32)
              refine g_iconst (v := nI 0) h dX11_fits_60 (by decide) ?_
              refine g_istore_n (ls' := [(0, _), (1, _)]) h dX11_fits_61 rfl (by decide) rfl rfl ?_
              have LP3 : ∀ (j3 r : Nat) (w3 : Sto), 168 < r + j3 → r ≤ 168 → (sim w3 u ∧ (∀ S, S < 2 ^ W → w3 188 S = nI (covN (mkN v W) S r 0)) ∧ (∀ j, j < W → w3 189 j = nI (lw0 v j)) ∧ ∀ j, j < r → w3 187 j = ftI v W j) → G E X (QMP E X (ftQ v u W) 0) 4 0 62 [(0, .ref (E.ad 178)), (1, .int (nI r))] [] w3 := by
                intro j3
                induction j3 with
                | zero => intro r w3 h1 h2 hw3; omega
                | succ j3 ih3 =>
                  intro r w3 h1 h2 hw3
                  refine g_iload_n h dX11_fits_62 rfl rfl ?_
                  refine g_sipush (v := nI 168) h dX11_fits_63 (by decide) ?_
                  refine g_icmp_ge (tgt := 141) h dX11_fits_66 (by decide) (fun c66 => ?_) (fun c66 => ?_)
                  · have n66 := le_n (by omega) (by omega) (show nI (168) ≤ nI (r) from c66)
                    obtain ⟨L, hL0, hL2, hF0, hN, hmg⟩ := FS_a hW9 hlw
                    refine g_aload_n h dX11_fits_141 rfl rfl ?_
                    refine g_aload_n h dX11_fits_142 rfl rfl ?_
                    refine g_V h lv_X11_349_X11 sh_178 (by decide) rfl (c_X11_mostGiven (cvK v W 0) (lw0 v) W hW9 w3 ((hK.sim hw3.1).r.wan) (fun S hS => ⟨by rw [hw3.2.1 S hS, show r = 168 by omega]; rfl, hcb _ _⟩) (fun w hw => ⟨hw3.2.2.1 w hw, (hlw w hw).2⟩)) (fitR hR (by first | decide | omega) (by decide) (by omega)) rfl rfl (Nat.le_of_ble_eq_true rfl) dX11_fits_143 ?_
                    refine g_top (y := nI (fiN v W)) (congrArg nI hmg) ?_
                    refine g_putI h pfl_X11_352_10 sh_178 (by decide) rfl dX11_fits_146 ?_
                    refine g_aload_n h dX11_fits_149 rfl rfl ?_
                    refine g_getI h fl_X11_352_10 sh_178 (by decide) rfl dX11_fits_150 ?_
                    refine g_top (y := nI (fiN v W)) su_k ?_
                    refine g_istore_n (ls' := [(0, _), (1, _)]) h dX11_fits_153 rfl (by decide) rfl rfl ?_
                    refine g_iconst (v := nI 0) h dX11_fits_154 (by decide) ?_
                    refine g_istore_n (ls' := [(0, _), (1, _), (2, _)]) h dX11_fits_155 rfl (by decide) rfl rfl ?_
                    have hw3s : ∀ S, S < 2 ^ W → w3 188 S = nI (cvK v W 0 S) := fun S hS => by rw [hw3.2.1 S hS, show r = 168 by omega]; rfl
                    have LP5 : ∀ (j5 k : Nat) (w5 : Sto) (M : Nat) (l : Nat → Nat) (hFS : FS v W k l L) (hM : (M : Int) = toN l W + L), 168 < k + j5 → k ≤ 168 → (sim w5 u ∧ (∀ S, S < 2 ^ W → w5 188 S = nI (cvK v W k S)) ∧ (∀ j, j < 168 → w5 187 j = ftI v W j) ∧ (∀ j, j < k → w5 190 j = fiG v W j) ∧ w5 178 26 = nI (fiN v W) ∧ ∀ j, j < W → w5 189 j = nI (l j)) → G E X (QMP E X (ftQ v u W) 0) 4 0 156 [(0, .ref (E.ad 178)), (1, .int (nI M)), (2, .int (nI k))] [] w5 := by
                      intro j5
                      induction j5 with
                      | zero => intro k w5 M l hFS hM h1 h2 hw5; omega
                      | succ j5 ih5 =>
                        intro k w5 M l hFS hM h1 h2 hw5
                        refine g_iload_n h dX11_fits_156 rfl rfl ?_
                        refine g_sipush (v := nI 168) h dX11_fits_157 (by decide) ?_
                        refine g_icmp_ge (tgt := 294) h dX11_fits_160 (by decide) (fun c160 => ?_) (fun c160 => ?_)
                        · have n160 := le_n (by omega) (by omega) (show nI (168) ≤ nI (k) from c160)
                          have ek : k = 168 := by omega
                          exact g_vretP h hrt dX11_fits_294 (by omega) ⟨rfl, hw5.1, hw5.2.2.2.2.1, fun j hj => hw5.2.2.2.1 j (by omega)⟩
                        · have n160 := nle_n (by omega) (by omega) (show ¬ nI (168) ≤ nI (k) from c160)
                          refine g_aload_n h dX11_fits_163 rfl rfl ?_
                          refine g_getR h fl_X11_48_10 sh_178 (by decide) rfl dX11_fits_164 ?_
                          refine g_iload_n h dX11_fits_167 rfl rfl ?_
                          refine g_iconst (v := -1) h dX11_fits_168 (by decide) ?_
                          refine g_iast h _ _ _ sh_190 (by decide) (by decide) rfl (by omega) dX11_fits_169 ?_
                          refine g_aload_n h dX11_fits_170 rfl rfl ?_
                          refine g_iload_n h dX11_fits_171 rfl rfl ?_
                          refine g_iconst (v := -1) h dX11_fits_172 (by decide) ?_
                          refine g_V h lv_X11_346_X11 sh_178 (by decide) rfl (c_X11_counts k n160 (-1) _) (fitR hR (by first | decide | omega) (by decide) (by omega)) rfl rfl (Nat.le_of_ble_eq_true rfl) dX11_fits_173 ?_
                          refine g_iconst (v := nI 0) h dX11_fits_176 (by decide) ?_
                          refine g_istore_n (ls' := [(0, _), (1, _), (2, _), (3, _)]) h dX11_fits_177 rfl (by decide) rfl rfl ?_
                          have LP6 : ∀ (j6 i : Nat) (w6 : Sto), W < i + j6 → i ≤ W → (sim w6 u ∧ (∀ S, S < 2 ^ W → w6 188 S = nI (cvK v W (k + 1) S)) ∧ (∀ j, j < 168 → w6 187 j = ftI v W j) ∧ (∀ j, j < k → w6 190 j = fiG v W j) ∧ w6 178 26 = nI (fiN v W) ∧ ((w6 190 k = -1 ∧ (∀ j, j < W → w6 189 j = nI (l j)) ∧ ∀ i9, i9 < i → ¬ Qw v W k l L i9) ∨ ∃ w0, w0 < W ∧ Qw v W k l L w0 ∧ (∀ i9, i9 < w0 → ¬ Qw v W k l L i9) ∧ w6 190 k = nI w0 ∧ ∀ j, j < W → w6 189 j = nI (dcN l w0 j))) → G E X (QMP E X (ftQ v u W) 0) 4 0 178 [(0, .ref (E.ad 178)), (1, .int (nI M)), (2, .int (nI k)), (3, .int (nI i))] [] w6 := by
                            intro j6
                            induction j6 with
                            | zero => intro i w6 h1 h2 hw6; omega
                            | succ j6 ih6 =>
                              intro i w6 h1 h2 hw6
                              refine g_iload_n h dX11_fits_178 rfl rfl ?_
                              refine g_aload_n h dX11_fits_179 rfl rfl ?_
                              refine g_getR h fl_X11_7_10 sh_178 (by decide) rfl dX11_fits_180 ?_
                              refine g_bipush (v := nI 9) h dX11_fits_183 (by decide) ?_
                              refine g_iald h _ _ _ sh_179 (by decide) (by decide) rfl (by omega) dX11_fits_185 ?_
                              refine g_top (y := nI W) ((hK.sim hw6.1).r.wan) ?_
                              refine g_icmp_ge (tgt := 270) h dX11_fits_186 (by decide) (fun c186 => ?_) (fun c186 => ?_)
                              · have n186 := le_n (by omega) (by omega) (show nI (W) ≤ nI (i) from c186)
                                obtain ⟨hG, hfin⟩ := FN hW9 n160 hFS hL2 hw6.2.2.2.2.2 (Or.inl n186)
                                have hg6 : ∀ j, j < k + 1 → w6 190 j = fiG v W j := fun j hj => by
                                  by_cases q : j = k
                                  · rw [q]; exact hG.symm
                                  · exact hw6.2.2.2.1 j (by omega)
                                refine g_iload_n h dX11_fits_270 rfl rfl ?_
                                refine g_aload_n h dX11_fits_271 rfl rfl ?_
                                refine g_getR h fl_X11_48_10 sh_178 (by decide) rfl dX11_fits_272 ?_
                                refine g_iload_n h dX11_fits_275 rfl rfl ?_
                                refine g_iald h _ _ _ sh_190 (by decide) (by decide) rfl n160 dX11_fits_276 ?_
                                refine g_iconst (v := -1) h dX11_fits_277 (by decide) ?_
                                refine g_icmp_ne (tgt := 285) h dX11_fits_278 (by decide) (fun c278 => ?_) (fun c278 => ?_)
                                · obtain ⟨w0, hw0, _, hl0, hF2, hr2⟩ := hfin.resolve_left (fun q => c278 q.1)
                                  have hnn := FS_nn hF2
                                  have htd := to_dc (l := l) hl0 W
                                  rw [if_pos hw0] at htd
                                  refine g_iconst (v := nI 1) h dX11_fits_285 (by decide) ?_
                                  refine g_isub h dX11_fits_286 ?_
                                  refine g_top (y := nI (M - 1)) (pk_sub (by omega)) ?_
                                  refine g_istore_n (ls' := [(0, _), (1, _), (2, _), (3, _)]) h dX11_fits_287 rfl (by decide) rfl rfl ?_
                                  refine g_iinc (v := nI (k + 1)) (ls' := [(0, _), (1, _), (2, _), (3, _)]) h dX11_fits_288 rfl (nI_1 k) (by decide) rfl rfl ?_
                                  refine g_goto (tgt := 156) h dX11_fits_291 (by decide) ?_
                                  refine g_del 3 (ls' := [(0, _), (1, _), (2, _)]) rfl ?_
                                  exact ih5 (k + 1) w6 (M - 1) (dcN l w0) hF2 (by omega) (by omega) (by omega) ⟨hw6.1, hw6.2.1, hw6.2.2.1, hg6, hw6.2.2.2.2.1, hr2⟩
                                · obtain ⟨hF2, hr2⟩ : FS v W (k + 1) l L ∧ ∀ j, j < W → w6 189 j = nI (l j) := by
                                    rcases hfin with ⟨_, a, b⟩ | ⟨w0, a, e, _⟩
                                    · exact ⟨a, b⟩
                                    · exact absurd (e.symm.trans c278) (nI_m1 (by omega))
                                  refine g_iconst (v := nI 0) h dX11_fits_281 (by decide) ?_
                                  refine g_goto (tgt := 286) h dX11_fits_282 (by decide) ?_
                                  refine g_isub h dX11_fits_286 ?_
                                  refine g_top (y := nI M) (pk_sub (Nat.zero_le _)) ?_
                                  refine g_istore_n (ls' := [(0, _), (1, _), (2, _), (3, _)]) h dX11_fits_287 rfl (by decide) rfl rfl ?_
                                  refine g_iinc (v := nI (k + 1)) (ls' := [(0, _), (1, _), (2, _), (3, _)]) h dX11_fits_288 rfl (nI_1 k) (by decide) rfl rfl ?_
                                  refine g_goto (tgt := 156) h dX11_fits_291 (by decide) ?_
                                  refine g_del 3 (ls' := [(0, _), (1, _), (2, _)]) rfl ?_
                                  exact ih5 (k + 1) w6 M l hF2 hM (by omega) (by omega) ⟨hw6.1, hw6.2.1, hw6.2.2.1, hg6, hw6.2.2.2.2.1, hr2⟩
                              · have n186 := nle_n (by omega) (by omega) (show ¬ nI (W) ≤ nI (i) from c186)
                                refine g_aload_n h dX11_fits_189 rfl rfl ?_
                                refine g_getR h fl_X11_48_10 sh_178 (by decide) rfl dX11_fits_190 ?_
                                refine g_iload_n h dX11_fits_193 rfl rfl ?_
                                refine g_iald h _ _ _ sh_190 (by decide) (by decide) rfl n160 dX11_fits_194 ?_
                                refine g_iconst (v := -1) h dX11_fits_195 (by decide) ?_
                                refine g_icmp_ne (tgt := 270) h dX11_fits_196 (by decide) (fun c196 => ?_) (fun c196 => ?_)
                                · obtain ⟨hG, hfin⟩ := FN hW9 n160 hFS hL2 hw6.2.2.2.2.2 (Or.inr c196)
                                  have hg6 : ∀ j, j < k + 1 → w6 190 j = fiG v W j := fun j hj => by
                                    by_cases q : j = k
                                    · rw [q]; exact hG.symm
                                    · exact hw6.2.2.2.1 j (by omega)
                                  refine g_iload_n h dX11_fits_270 rfl rfl ?_
                                  refine g_aload_n h dX11_fits_271 rfl rfl ?_
                                  refine g_getR h fl_X11_48_10 sh_178 (by decide) rfl dX11_fits_272 ?_
                                  refine g_iload_n h dX11_fits_275 rfl rfl ?_
                                  refine g_iald h _ _ _ sh_190 (by decide) (by decide) rfl n160 dX11_fits_276 ?_
                                  refine g_iconst (v := -1) h dX11_fits_277 (by decide) ?_
                                  refine g_icmp_ne (tgt := 285) h dX11_fits_278 (by decide) (fun c278 => ?_) (fun c278 => ?_)
                                  · obtain ⟨w0, hw0, _, hl0, hF2, hr2⟩ := hfin.resolve_left (fun q => c278 q.1)
                                    have hnn := FS_nn hF2
                                    have htd := to_dc (l := l) hl0 W
                                    rw [if_pos hw0] at htd
                                    refine g_iconst (v := nI 1) h dX11_fits_285 (by decide) ?_
                                    refine g_isub h dX11_fits_286 ?_
                                    refine g_top (y := nI (M - 1)) (pk_sub (by omega)) ?_
                                    refine g_istore_n (ls' := [(0, _), (1, _), (2, _), (3, _)]) h dX11_fits_287 rfl (by decide) rfl rfl ?_
                                    refine g_iinc (v := nI (k + 1)) (ls' := [(0, _), (1, _), (2, _), (3, _)]) h dX11_fits_288 rfl (nI_1 k) (by decide) rfl rfl ?_
                                    refine g_goto (tgt := 156) h dX11_fits_291 (by decide) ?_
                                    refine g_del 3 (ls' := [(0, _), (1, _), (2, _)]) rfl ?_
                                    exact ih5 (k + 1) w6 (M - 1) (dcN l w0) hF2 (by omega) (by omega) (by omega) ⟨hw6.1, hw6.2.1, hw6.2.2.1, hg6, hw6.2.2.2.2.1, hr2⟩
                                  · obtain ⟨hF2, hr2⟩ : FS v W (k + 1) l L ∧ ∀ j, j < W → w6 189 j = nI (l j) := by
                                      rcases hfin with ⟨_, a, b⟩ | ⟨w0, a, e, _⟩
                                      · exact ⟨a, b⟩
                                      · exact absurd (e.symm.trans c278) (nI_m1 (by omega))
                                    refine g_iconst (v := nI 0) h dX11_fits_281 (by decide) ?_
                                    refine g_goto (tgt := 286) h dX11_fits_282 (by decide) ?_
                                    refine g_isub h dX11_fits_286 ?_
                                    refine g_top (y := nI M) (pk_sub (Nat.zero_le _)) ?_
                                    refine g_istore_n (ls' := [(0, _), (1, _), (2, _), (3, _)]) h dX11_fits_287 rfl (by decide) rfl rfl ?_
                                    refine g_iinc (v := nI (k + 1)) (ls' := [(0, _), (1, _), (2, _), (3, _)]) h dX11_fits_288 rfl (nI_1 k) (by decide) rfl rfl ?_
                                    refine g_goto (tgt := 156) h dX11_fits_291 (by decide) ?_
                                    refine g_del 3 (ls' := [(0, _), (1, _), (2, _)]) rfl ?_
                                    exact ih5 (k + 1) w6 M l hF2 hM (by omega) (by omega) ⟨hw6.1, hw6.2.1, hw6.2.2.1, hg6, hw6.2.2.2.2.1, hr2⟩
                                · have hA := hw6.2.2.2.2.2.resolve_right (fun ⟨w0, _, _, _, e, _⟩ => nI_m1 (by omega) (e.symm.trans c196))
                                  refine g_aload_n h dX11_fits_199 rfl rfl ?_
                                  refine g_getR h fl_X11_39_10 sh_178 (by decide) rfl dX11_fits_200 ?_
                                  refine g_iload_n h dX11_fits_203 rfl rfl ?_
                                  refine g_iald h _ _ _ sh_187 (by decide) (by decide) rfl n160 dX11_fits_204 ?_
                                  refine g_top (y := nI (mkN v W k)) ((hw6.2.2.1 k n160).trans (hmk k).1) ?_
                                  refine g_iload_n h dX11_fits_205 rfl rfl ?_
                                  refine g_S h ls_X11_340 (c_X11_isOf (nI (mkN v W k)) (nI i) w6) (fitR hR (by first | decide | omega) (by decide) (by omega)) rfl rfl (Nat.le_of_ble_eq_true rfl) dX11_fits_206 ?_
                                  by_cases n206 : (mkN v W k).testBit i = true
                                  · refine g_top (b2_t ((bk_n (by omega)).mpr n206)) ?_
                                    refine g_if_eq (tgt := 264) h dX11_fits_209 (by decide) (fun q => absurd q (by decide)) (fun _ => ?_)
                                    refine g_aload_n h dX11_fits_212 rfl rfl ?_
                                    refine g_getR h fl_X11_45_10 sh_178 (by decide) rfl dX11_fits_213 ?_
                                    refine g_iload_n h dX11_fits_216 rfl rfl ?_
                                    refine g_iald h _ _ _ sh_189 (by decide) (by decide) rfl (by omega) dX11_fits_217 ?_
                                    refine g_top (y := nI (l i)) (hA.2.1 i n186) ?_
                                    refine g_if_ne (tgt := 224) h dX11_fits_218 (by decide) (fun c218 => ?_) (fun c218 => ?_)
                                    · have hli : 0 < l i := by
                                        by_cases q : l i = 0
                                        · exact absurd (by rw [q]; rfl) c218
                                        · omega
                                      obtain ⟨hM1, hMQ⟩ := FTm hW9 n160 hFS hL0 hM n186 n206 hli
                                      have hl20 := (hFS.1 i n186).2
                                      refine g_aload_n h dX11_fits_224 rfl rfl ?_
                                      refine g_getR h fl_X11_45_10 sh_178 (by decide) rfl dX11_fits_225 ?_
                                      refine g_iload_n h dX11_fits_228 rfl rfl ?_
                                      refine g_dup2 h dX11_fits_229 rfl rfl ?_
                                      refine g_iald h _ _ _ sh_189 (by decide) (by decide) rfl (by omega) dX11_fits_230 ?_
                                      refine g_top (y := nI (l i)) (hA.2.1 i n186) ?_
                                      refine g_iconst (v := nI 1) h dX11_fits_231 (by decide) ?_
                                      refine g_isub h dX11_fits_232 ?_
                                      refine g_top (y := nI (l i - 1)) (pk_sub hli) ?_
                                      refine g_iast h _ _ _ sh_189 (by decide) (by decide) rfl (by omega) dX11_fits_233 ?_
                                      refine g_aload_n h dX11_fits_234 rfl rfl ?_
                                      refine g_V h lv_X11_349_X11 sh_178 (by decide) rfl (c_X11_mostGiven (cvK v W (k + 1)) (dcN l i) W hW9 _ (by rw [su_cell _ _ (by decide)]; exact (hK.sim hw6.1).r.wan) (fun S hS => ⟨by rw [su_cell _ _ (by decide)]; exact hw6.2.1 S hS, hcb _ _⟩) (fun w hw => by
  by_cases q : w = i
  · subst q; rw [su_k, dc_w]; exact ⟨rfl, by omega⟩
  · rw [su_i q, dc_n q]; exact ⟨hA.2.1 w hw, (hFS.1 w hw).2⟩)) (fitR hR (by first | decide | omega) (by decide) (by omega)) rfl rfl (Nat.le_of_ble_eq_true rfl) dX11_fits_235 ?_
                                      refine g_iload_n h dX11_fits_238 rfl rfl ?_
                                      refine g_iconst (v := nI 1) h dX11_fits_239 (by decide) ?_
                                      refine g_isub h dX11_fits_240 ?_
                                      refine g_top (y := nI (M - 1)) (pk_sub hM1) ?_
                                      refine g_icmp_ne (tgt := 254) h dX11_fits_241 (by decide) (fun c241 => ?_) (fun c241 => ?_)
                                      · have hnq : ¬ Qw v W k l L i := fun q => c241 (congrArg nI (hMQ.mpr q))
                                        refine g_aload_n h dX11_fits_254 rfl rfl ?_
                                        refine g_getR h fl_X11_45_10 sh_178 (by decide) rfl dX11_fits_255 ?_
                                        refine g_iload_n h dX11_fits_258 rfl rfl ?_
                                        refine g_dup2 h dX11_fits_259 rfl rfl ?_
                                        refine g_iald h _ _ _ sh_189 (by decide) (by decide) rfl (by omega) dX11_fits_260 ?_
                                        refine g_top (y := nI (l i - 1)) su_k ?_
                                        refine g_iconst (v := nI 1) h dX11_fits_261 (by decide) ?_
                                        refine g_iadd h dX11_fits_262 ?_
                                        refine g_top (y := nI (l i)) (by rw [nI_add]; exact congrArg nI (by omega)) ?_
                                        refine g_iast h _ _ _ sh_189 (by decide) (by decide) rfl (by omega) dX11_fits_263 ?_
                                        refine g_iinc (v := nI (i + 1)) (ls' := [(0, _), (1, _), (2, _), (3, _)]) h dX11_fits_264 rfl (nI_1 i) (by decide) rfl rfl ?_
                                        refine g_goto (tgt := 178) h dX11_fits_267 (by decide) ?_
                                        exact ih6 (i + 1) _ (by omega) (by omega) ⟨sim_scr (sim_scr hw6.1 _ (scr_m (by decide))) _ (scr_m (by decide)), fun S hS => by rw [su_cell _ _ (by decide), su_cell _ _ (by decide)]; exact hw6.2.1 S hS, fun j hj => by rw [su_cell _ _ (by decide), su_cell _ _ (by decide)]; exact hw6.2.2.1 j hj, fun j hj => by rw [su_cell _ _ (by decide), su_cell _ _ (by decide)]; exact hw6.2.2.2.1 j hj, by rw [su_cell _ _ (by decide), su_cell _ _ (by decide)]; exact hw6.2.2.2.2.1, Or.inl ⟨by rw [su_cell _ _ (by decide), su_cell _ _ (by decide)]; exact hA.1, fun j hj => by
                                          by_cases z : j = i
                                          · subst z; exact su_k
                                          · rw [su_i z, su_i z]; exact hA.2.1 j hj, fun i9 h9 q => by
                                          by_cases z : i9 = i
                                          · subst z; exact hnq q
                                          · exact hA.2.2 i9 (by omega) q⟩⟩
                                      · have hyq : Qw v W k l L i := hMQ.mp (eq_n (by have := mg_b (c := cvK v W (k + 1)) (l := dcN l i) (W := W) (n := 2 ^ W); omega) (by have := to_20 (l := l) W (fun w hw => (hFS.1 w hw).2); omega) c241)
                                        refine g_aload_n h dX11_fits_244 rfl rfl ?_
                                        refine g_getR h fl_X11_48_10 sh_178 (by decide) rfl dX11_fits_245 ?_
                                        refine g_iload_n h dX11_fits_248 rfl rfl ?_
                                        refine g_iload_n h dX11_fits_249 rfl rfl ?_
                                        refine g_iast h _ _ _ sh_190 (by decide) (by decide) rfl n160 dX11_fits_250 ?_
                                        refine g_goto (tgt := 264) h dX11_fits_251 (by decide) ?_
                                        refine g_iinc (v := nI (i + 1)) (ls' := [(0, _), (1, _), (2, _), (3, _)]) h dX11_fits_264 rfl (nI_1 i) (by decide) rfl rfl ?_
                                        refine g_goto (tgt := 178) h dX11_fits_267 (by decide) ?_
                                        exact ih6 (i + 1) _ (by omega) (by omega) ⟨sim_scr (sim_scr hw6.1 _ (scr_m (by decide))) _ (scr_m (by decide)), fun S hS => by rw [su_cell _ _ (by decide), su_cell _ _ (by decide)]; exact hw6.2.1 S hS, fun j hj => by rw [su_cell _ _ (by decide), su_cell _ _ (by decide)]; exact hw6.2.2.1 j hj, fun j hj => by rw [su_i (by omega), su_cell _ _ (by decide)]; exact hw6.2.2.2.1 j hj, by rw [su_cell _ _ (by decide), su_cell _ _ (by decide)]; exact hw6.2.2.2.2.1, Or.inr ⟨i, n186, hyq, hA.2.2, su_k, fun j hj => by
                                          rw [su_cell _ _ (by decide)]
                                          by_cases z : j = i
                                          · subst z; rw [su_k, dc_w]
                                          · rw [su_i z, dc_n z]; exact hA.2.1 j hj⟩⟩
                                    · have hl20 := (hFS.1 i n186).2
                                      have hli : l i = 0 := eq_n (by omega) (by omega) (show nI (l i) = nI 0 from c218)
                                      refine g_goto (tgt := 264) h dX11_fits_221 (by decide) ?_
                                      refine g_iinc (v := nI (i + 1)) (ls' := [(0, _), (1, _), (2, _), (3, _)]) h dX11_fits_264 rfl (nI_1 i) (by decide) rfl rfl ?_
                                      refine g_goto (tgt := 178) h dX11_fits_267 (by decide) ?_
                                      exact ih6 (i + 1) w6 (by omega) (by omega) ⟨hw6.1, hw6.2.1, hw6.2.2.1, hw6.2.2.2.1, hw6.2.2.2.2.1, Or.inl ⟨hA.1, hA.2.1, fun i9 h9 q => by
                                        by_cases z : i9 = i
                                        · subst z; exact absurd q.2.1 (by omega)
                                        · exact hA.2.2 i9 (by omega) q⟩⟩
                                  · refine g_top (b2_f (fun q => n206 ((bk_n (by omega)).mp q))) ?_
                                    refine g_if_eq (tgt := 264) h dX11_fits_209 (by decide) (fun _ => ?_) (fun q => absurd q (by decide))
                                    refine g_iinc (v := nI (i + 1)) (ls' := [(0, _), (1, _), (2, _), (3, _)]) h dX11_fits_264 rfl (nI_1 i) (by decide) rfl rfl ?_
                                    refine g_goto (tgt := 178) h dX11_fits_267 (by decide) ?_
                                    exact ih6 (i + 1) w6 (by omega) (by omega) ⟨hw6.1, hw6.2.1, hw6.2.2.1, hw6.2.2.2.1, hw6.2.2.2.2.1, Or.inl ⟨hA.1, hA.2.1, fun i9 h9 q => by
                                      by_cases z : i9 = i
                                      · subst z; exact n206 q.1
                                      · exact hA.2.2 i9 (by omega) q⟩⟩
                          exact LP6 (W + 1) 0 _ (by omega) (by omega) ⟨(sim_sc (fun j => scr_m (by decide))).trans (sim_scr hw5.1 _ (scr_m (by decide))), fun S hS => by
                            rw [sc_at, su_cell _ _ (by decide : (188 : Nat) ≠ 190), su_cell _ _ (by decide : (187 : Nat) ≠ 190), hw5.2.2.1 k n160, (hmk k).1]
                            exact sp_d (hmk k).2 (Nat.le_refl _) (by omega) ((hw5.2.1 S hS).trans (congrArg nI (cv_s n160 S))), fun j hj => by rw [sc_c (by decide), su_cell _ _ (by decide)]; exact hw5.2.2.1 j hj, fun j hj => by rw [sc_c (by decide), su_i (by omega)]; exact hw5.2.2.2.1 j hj, by rw [sc_c (by decide), su_cell _ _ (by decide)]; exact hw5.2.2.2.2.1, Or.inl ⟨by rw [sc_c (by decide), su_k], fun j hj => by rw [sc_c (by decide), su_cell _ _ (by decide)]; exact hw5.2.2.2.2.2 j hj, fun i9 h9 => absurd h9 (Nat.not_lt_zero _)⟩⟩
                          
                    exact LP5 (168 + 1) 0 _ _ (lw0 v) hF0 hN (by omega) (by omega) ⟨sim_scr hw3.1 _ scr_26, fun S hS => by rw [su_cell _ _ (by decide)]; exact hw3s S hS, fun j hj => by rw [su_cell _ _ (by decide)]; exact hw3.2.2.2 j (by omega), fun j hj => absurd hj (Nat.not_lt_zero _), su_k, fun j hj => by rw [su_cell _ _ (by decide)]; exact hw3.2.2.1 j hj⟩
                    
                  · have n66 := nle_n (by omega) (by omega) (show ¬ nI (168) ≤ nI (r) from c66)
                    refine g_aload_n h dX11_fits_69 rfl rfl ?_
                    refine g_getR h fl_X11_39_10 sh_178 (by decide) rfl dX11_fits_70 ?_
                    refine g_iload_n h dX11_fits_73 rfl rfl ?_
                    refine g_iconst (v := nI 0) h dX11_fits_74 (by decide) ?_
                    refine g_iast h _ _ _ sh_187 (by decide) (by decide) rfl (by omega) dX11_fits_75 ?_
                    refine g_iconst (v := nI 0) h dX11_fits_76 (by decide) ?_
                    refine g_istore_n (ls' := [(0, _), (1, _), (2, _)]) h dX11_fits_77 rfl (by decide) rfl rfl ?_
                    have LP4 : ∀ (j4 i : Nat) (w4 : Sto), W < i + j4 → i ≤ W → (sim w4 u ∧ (∀ S, S < 2 ^ W → w4 188 S = nI (covN (mkN v W) S r 0)) ∧ (∀ j, j < W → w4 189 j = nI (lw0 v j)) ∧ (∀ j, j < r → w4 187 j = ftI v W j) ∧ w4 187 r = ftI v i r) → G E X (QMP E X (ftQ v u W) 0) 4 0 78 [(0, .ref (E.ad 178)), (1, .int (nI r)), (2, .int (nI i))] [] w4 := by
                      intro j4
                      induction j4 with
                      | zero => intro i w4 h1 h2 hw4; omega
                      | succ j4 ih4 =>
                        intro i w4 h1 h2 hw4
                        refine g_iload_n h dX11_fits_78 rfl rfl ?_
                        refine g_aload_n h dX11_fits_79 rfl rfl ?_
                        refine g_getR h fl_X11_7_10 sh_178 (by decide) rfl dX11_fits_80 ?_
                        refine g_bipush (v := nI 9) h dX11_fits_83 (by decide) ?_
                        refine g_iald h _ _ _ sh_179 (by decide) (by decide) rfl (by omega) dX11_fits_85 ?_
                        refine g_top (y := nI W) ((hK.sim hw4.1).r.wan) ?_
                        refine g_icmp_ge (tgt := 129) h dX11_fits_86 (by decide) (fun c86 => ?_) (fun c86 => ?_)
                        · have n86 := le_n (by omega) (by omega) (show nI (W) ≤ nI (i) from c86)
                          have ei : i = W := by omega
                          have hf4 : w4 187 r = nI (mkN v W r) := by rw [hw4.2.2.2.2, ei]; exact (hmk r).1
                          refine g_aload_n h dX11_fits_129 rfl rfl ?_
                          refine g_iload_n h dX11_fits_130 rfl rfl ?_
                          refine g_iconst (v := nI 1) h dX11_fits_131 (by decide) ?_
                          refine g_V h lv_X11_346_X11 sh_178 (by decide) rfl (c_X11_counts r n66 (nI 1) w4) (fitR hR (by first | decide | omega) (by decide) (by omega)) rfl rfl (Nat.le_of_ble_eq_true rfl) dX11_fits_132 ?_
                          refine g_iinc (v := nI (r + 1)) (ls' := [(0, _), (1, _), (2, _)]) h dX11_fits_135 rfl (nI_1 r) (by decide) rfl rfl ?_
                          refine g_goto (tgt := 62) h dX11_fits_138 (by decide) ?_
                          refine g_del 2 (ls' := [(0, _), (1, _)]) rfl ?_
                          exact ih3 (r + 1) _ (by omega) (by omega) ⟨(sim_sc (fun j => scr_m (by decide))).trans hw4.1, fun S hS => by
                            rw [sc_at, hf4, cov_e, Nat.zero_add]
                            exact sp_1 (hmk r).2 (Nat.le_refl _) (by omega) (hw4.2.1 S hS), fun j hj => by rw [sc_c (by decide)]; exact hw4.2.2.1 j hj, fun j hj => by
                            rw [sc_c (by decide)]
                            by_cases q : j = r
                            · subst q; exact hf4.trans (hmk j).1.symm
                            · exact hw4.2.2.2.1 j (by omega)⟩
                        · have n86 := nle_n (by omega) (by omega) (show ¬ nI (W) ≤ nI (i) from c86)
                          refine g_aload_n h dX11_fits_89 rfl rfl ?_
                          refine g_getR h fl_X11_39_10 sh_178 (by decide) rfl dX11_fits_90 ?_
                          refine g_iload_n h dX11_fits_93 rfl rfl ?_
                          refine g_aload_n h dX11_fits_94 rfl rfl ?_
                          refine g_iload_n h dX11_fits_95 rfl rfl ?_
                          refine g_iload_n h dX11_fits_96 rfl rfl ?_
                          refine g_VP h lv_X11_343_X11 sh_178 (by decide) rfl (c_X11_isFor v T W i r n86 n66 w4 (hK.sim hw4.1) hRi) pa_nx (fitR hR (by first | decide | omega) (by decide) (by omega)) rfl rfl (Nat.le_of_ble_eq_true rfl) dX11_fits_97 (fun v97 u97 hs97 => ?_)
                          obtain ⟨hv97, hs97⟩ := hs97
                          cases hv97
                          refine g_if_eq (tgt := 116) h dX11_fits_100 (by decide) (fun c100 => ?_) (fun c100 => ?_)
                          · refine g_aload_n h dX11_fits_116 rfl rfl ?_
                            refine g_getR h fl_X11_39_10 sh_178 (by decide) rfl dX11_fits_117 ?_
                            refine g_iload_n h dX11_fits_120 rfl rfl ?_
                            refine g_iald h _ _ _ sh_187 (by decide) (by decide) rfl (by omega) dX11_fits_121 ?_
                            refine g_top (y := ftI v (i + 1) r) (by rw [hs97.1 187 (by decide) (by decide), hw4.2.2.2.2]; exact ft_0 (b2_0.mp c100)) ?_
                            refine g_iast h _ _ _ sh_187 (by decide) (by decide) rfl (by omega) dX11_fits_122 ?_
                            refine g_iinc (v := nI (i + 1)) (ls' := [(0, _), (1, _), (2, _)]) h dX11_fits_123 rfl (nI_1 i) (by decide) rfl rfl ?_
                            refine g_goto (tgt := 78) h dX11_fits_126 (by decide) ?_
                            exact ih4 (i + 1) _ (by omega) (by omega) ⟨sim_scr (hs97.2.trans hw4.1) _ (scr_m (by decide)), fun S hS => by rw [su_cell _ _ (by decide), hs97.1 188 (by decide) (by decide)]; exact hw4.2.1 S hS, fun j hj => by rw [su_cell _ _ (by decide), hs97.1 189 (by decide) (by decide)]; exact hw4.2.2.1 j hj, fun j hj => by rw [su_i (by omega), hs97.1 187 (by decide) (by decide)]; exact hw4.2.2.2.1 j hj, su_k⟩
                          · refine g_aload_n h dX11_fits_103 rfl rfl ?_
                            refine g_getR h fl_X11_39_10 sh_178 (by decide) rfl dX11_fits_104 ?_
                            refine g_iload_n h dX11_fits_107 rfl rfl ?_
                            refine g_iald h _ _ _ sh_187 (by decide) (by decide) rfl (by omega) dX11_fits_108 ?_
                            refine g_top (y := ftI v i r) (by rw [hs97.1 187 (by decide) (by decide)]; exact hw4.2.2.2.2) ?_
                            refine g_iconst (v := nI 1) h dX11_fits_109 (by decide) ?_
                            refine g_iload_n h dX11_fits_110 rfl rfl ?_
                            refine g_ishl h dX11_fits_111 ?_
                            refine g_ior h dX11_fits_112 ?_
                            refine g_top (y := ftI v (i + 1) r) (ft_1 (b2_n0.mp c100)) ?_
                            refine g_goto (tgt := 122) h dX11_fits_113 (by decide) ?_
                            refine g_iast h _ _ _ sh_187 (by decide) (by decide) rfl (by omega) dX11_fits_122 ?_
                            refine g_iinc (v := nI (i + 1)) (ls' := [(0, _), (1, _), (2, _)]) h dX11_fits_123 rfl (nI_1 i) (by decide) rfl rfl ?_
                            refine g_goto (tgt := 78) h dX11_fits_126 (by decide) ?_
                            exact ih4 (i + 1) _ (by omega) (by omega) ⟨sim_scr (hs97.2.trans hw4.1) _ (scr_m (by decide)), fun S hS => by rw [su_cell _ _ (by decide), hs97.1 188 (by decide) (by decide)]; exact hw4.2.1 S hS, fun j hj => by rw [su_cell _ _ (by decide), hs97.1 189 (by decide) (by decide)]; exact hw4.2.2.1 j hj, fun j hj => by rw [su_i (by omega), hs97.1 187 (by decide) (by decide)]; exact hw4.2.2.2.1 j hj, su_k⟩
                    exact LP4 (W + 1) 0 _ (by omega) (by omega) ⟨sim_scr hw3.1 _ (scr_m (by decide)), fun S hS => by rw [su_cell _ _ (by decide)]; exact hw3.2.1 S hS, fun j hj => by rw [su_cell _ _ (by decide)]; exact hw3.2.2.1 j hj, fun j hj => by rw [su_i (by omega)]; exact hw3.2.2.2 j hj, su_k.trans ft_z.symm⟩
                    
              exact LP3 (168 + 1) 0 _ (by omega) (by omega) ⟨hw2.1, fun S hS => (hw2.2.1 S (by omega)), fun j hj => hw2.2.2 j (by omega), fun j hj => absurd hj (Nat.not_lt_zero _)⟩
              
            · have n32 := nle_n (by omega) (by omega) (show ¬ nI (W) ≤ nI (i) from c32)
              refine g_aload_n h dX11_fits_35 rfl rfl ?_
              refine g_getR h fl_X11_45_10 sh_178 (by decide) rfl dX11_fits_36 ?_
              refine g_iload_n h dX11_fits_39 rfl rfl ?_
              refine g_aload_n h dX11_fits_40 rfl rfl ?_
              refine g_getR h fl_X11_7_10 sh_178 (by decide) rfl dX11_fits_41 ?_
              refine g_bipush (v := nI 56) h dX11_fits_44 (by decide) ?_
              refine g_iconst (v := nI 4) h dX11_fits_46 (by decide) ?_
              refine g_iload_n h dX11_fits_47 rfl rfl ?_
              refine g_imul h dX11_fits_48 ?_
              refine g_iadd h dX11_fits_49 ?_
              refine g_top (y := nI (56 + 4 * i)) (by rw [nI_mul, nI_add]) ?_
              refine g_iconst (v := nI 1) h dX11_fits_50 (by decide) ?_
              refine g_iadd h dX11_fits_51 ?_
              refine g_top (y := nI (57 + 4 * i)) (by rw [nI_add]; exact congrArg nI (by omega)) ?_
              refine g_iald h _ _ _ sh_179 (by decide) (by decide) rfl (by omega) dX11_fits_52 ?_
              refine g_top (y := nI (lw0 v i)) (((hK.sim hw2.1).r.w1 i n32).trans (hlw i n32).1) ?_
              refine g_iast h _ _ _ sh_189 (by decide) (by decide) rfl (by omega) dX11_fits_53 ?_
              refine g_iinc (v := nI (i + 1)) (ls' := [(0, _), (1, _)]) h dX11_fits_54 rfl (nI_1 i) (by decide) rfl rfl ?_
              refine g_goto (tgt := 24) h dX11_fits_57 (by decide) ?_
              exact ih2 (i + 1) _ (by omega) (by omega) ⟨sim_scr hw2.1 _ (scr_m (by decide)), fun j hj => by rw [su_cell _ _ (by decide)]; exact hw2.2.1 j hj, fun j hj => by
                by_cases q : j = i
                · subst q; exact su_k
                · rw [su_i q]; exact hw2.2.2 j (by omega)⟩
        exact LP2 (W + 1) 0 _ (by omega) (by omega) ⟨hw1.1, fun j hj => hw1.2 j (by omega), fun j hj => absurd hj (Nat.not_lt_zero _)⟩
        
      · have n6 := nle_n (by omega) (by omega) (show ¬ nI (256) ≤ nI (k) from c6)
        refine g_aload_n h dX11_fits_9 rfl rfl ?_
        refine g_getR h fl_X11_42_10 sh_178 (by decide) rfl dX11_fits_10 ?_
        refine g_iload_n h dX11_fits_13 rfl rfl ?_
        refine g_iconst (v := nI 0) h dX11_fits_14 (by decide) ?_
        refine g_iast h _ _ _ sh_188 (by decide) (by decide) rfl (by omega) dX11_fits_15 ?_
        refine g_iinc (v := nI (k + 1)) (ls' := [(0, _), (1, _)]) h dX11_fits_16 rfl (nI_1 k) (by decide) rfl rfl ?_
        refine g_goto (tgt := 2) h dX11_fits_19 (by decide) ?_
        exact ih1 (k + 1) _ (by omega) (by omega) ⟨sim_scr hw1.1 _ (scr_m (by decide)), fun j hj => by
          by_cases q : j = k
          · subst q; exact su_k
          · rw [su_i q]; exact hw1.2 j (by omega)⟩
  exact LP1 (256 + 1) 0 _ (by omega) (by omega) ⟨sim.refl _, fun j hj => absurd hj (Nat.not_lt_zero _)⟩
  
