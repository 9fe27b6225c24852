-- after: 38.r 39.s 40.t 41.u 42.v 44.x
theorem frs_tn {p : Nat → Bool} {v : Nat → Int32} : ∀ j k, frs p v j k = -1 ∨ ∃ x, k ≤ x ∧ x < k + j ∧ p x = true ∧ frs p v j k = v x
  | 0, k => Or.inl rfl
  | j + 1, k => by
    rw [frs]
    by_cases h : p k = true
    · rw [if_pos h]; exact Or.inr ⟨k, by omega, by omega, h, rfl⟩
    · rw [if_neg h]
      rcases frs_tn (p := p) (v := v) j (k + 1) with q | ⟨x, h1, h2, h3, h4⟩
      · exact Or.inl q
      · exact Or.inr ⟨x, by omega, by omega, h3, h4⟩
theorem frs_cong {p q : Nat → Bool} {v : Nat → Int32} : ∀ j k, (∀ x, k ≤ x → x < k + j → p x = q x) → frs p v j k = frs q v j k
  | 0, k, _ => rfl
  | j + 1, k, h => by rw [frs, frs, h k (by omega) (by omega), frs_cong j (k + 1) (fun x h1 h2 => h x (by omega) (by omega))]
theorem nI_and (a b : Nat) : nI a &&& nI b = nI (a &&& b) := by
  apply Int32.toBitVec_inj.mp
  show BitVec.ofNat 32 a &&& BitVec.ofNat 32 b = BitVec.ofNat 32 (a &&& b)
  exact BitVec.ofNat_and.symm
theorem op_le (f : Nat → Int32) (m : Nat) (l : Int32) : ∀ n, ∃ m', m' ≤ m ∧ opF f (nI m) l n = nI m'
  | 0 => ⟨m, Nat.le_refl _, rfl⟩
  | n + 1 => by
    obtain ⟨m', h1, h2⟩ := op_le f m l n
    rw [opF]
    split
    · exact ⟨m' &&& n, Nat.le_trans Nat.and_le_left h1, by rw [h2, nI_and]⟩
    · exact ⟨m', h1, h2⟩
theorem gu_1c : ∀ k, k < 10 → ∀ m, m < 2 ^ k → nI m ||| one k = nI (m + 2 ^ k) := by decide +kernel
theorem bit_hi : ∀ k, k < 10 → ∀ m, m < 2 ^ k → bitI (nI m) k = 0 := by decide +kernel
theorem wf_lt (u : Sto) (r : Nat) : ∀ k, k ≤ 10 → ∃ m, m < 2 ^ k ∧ wfF u r k = nI m
  | 0, _ => ⟨0, by decide, rfl⟩
  | k + 1, hk => by
    obtain ⟨m, hm, h⟩ := wf_lt u r k (by omega)
    have e : 2 ^ (k + 1) = 2 ^ k + 2 ^ k := by rw [Nat.pow_succ]; omega
    rw [wfF]
    split
    · exact ⟨m + 2 ^ k, by omega, by rw [h]; exact gu_1c k (by omega) m hm⟩
    · exact ⟨m, by omega, h⟩
theorem ft_lt (u : Sto) (W r : Nat) (hW : W ≤ 8) : ∃ m, m < 2 ^ W ∧ ftI u W r = nI m := by
  unfold ftI
  split
  · exact wf_lt u r W (by omega)
  · exact ⟨0, Nat.pow_pos (by omega), rfl⟩
theorem op_bit {f : Nat → Int32} {m W k : Nat} {l : Int32} (hm : m < 2 ^ W) (hW : W ≤ k) (hk : k < 8) (n : Nat) : bitI (opF f (nI m) l n) k = 0 := by
  obtain ⟨m', h1, h2⟩ := op_le f m l n
  rw [h2]
  exact bit_hi k (by omega) m' (Nat.lt_of_le_of_lt h1 (Nat.lt_of_lt_of_le hm (Nat.pow_le_pow_right (by omega) hW)))
theorem op_cong {f g : Nat → Int32} {w l : Int32} {N : Nat} (h : ∀ j, j < N → f j = g j) : ∀ n, n ≤ N → opF f w l n = opF g w l n
  | 0, _ => rfl
  | n + 1, hn => by rw [opF, opF, h n (by omega), op_cong h n (by omega)]
theorem fw_cong {f f' g g' : Nat → Int32} {m W n : Nat} {l : Int32} (hm : m < 2 ^ W) (hn : n ≤ 256) (hf : ∀ j, j < 256 → f j = f' j) (hg : ∀ j, j < W → g j = g' j) : fwI f g (nI m) l n = fwI f' g' (nI m) l n := by
  unfold fwI
  refine frs_cong 8 0 (fun x _ hx => ?_)
  rw [op_cong hf n hn]
  by_cases q : x < W
  · rw [hg x q]
  · have e := op_bit (f := f') (l := l) hm (Nat.le_of_not_lt q) (by omega) n
    rw [e]
    simp
theorem fw_tn {f g : Nat → Int32} {m W n : Nat} {l : Int32} (hm : m < 2 ^ W) : fwI f g (nI m) l n = -1 ∨ ∃ x, x < W ∧ x < 8 ∧ fwI f g (nI m) l n = nI x := by
  unfold fwI
  rcases frs_tn (p := fun k => decide (¬ bitI (opF f (nI m) l n) k = 0 ∧ 0 < g k)) (v := nI) 8 0 with q | ⟨x, h1, h2, h3, h4⟩
  · exact Or.inl q
  · refine Or.inr ⟨x, ?_, by omega, h4⟩
    rcases Nat.lt_or_ge x W with q | q
    · exact q
    · exact absurd (op_bit (f := f) (l := l) hm q (by omega) n) (of_decide_eq_true h3).1
def fiW (u : Sto) (W : Nat) (l : Int32) (s : (Nat → Int32) × (Nat → Int32) × Nat) (k : Nat) : Int32 := if ftI u W k = 0 then -1 else fwI s.2.1 s.1 (ftI u W k) l (2 ^ W)
def fiS (u : Sto) (W : Nat) (l : Int32) : Nat → (Nat → Int32) × (Nat → Int32) × Nat
  | 0 => (u 16, s2F u (2 ^ W) W 168, 0)
  | k + 1 => if fiW u W l (fiS u W l k) k = -1 then ((fiS u W l k).1, spF (fiS u W l k).2.1 (ftI u W k) (-1) (2 ^ W), (fiS u W l k).2.2)
    else (upd (fiS u W l k).1 (ix (fiW u W l (fiS u W l k) k)) ((fiS u W l k).1 (ix (fiW u W l (fiS u W l k) k)) - nI 1), spF (spF (fiS u W l k).2.1 (ftI u W k) (-1) (2 ^ W)) (oneJ (fiW u W l (fiS u W l k) k)) (nI 1) (2 ^ W), (fiS u W l k).2.2 + 1)
def fiL (u : Sto) (W : Nat) : Int32 := lsF (s2F u (2 ^ W) W 168) (2 ^ W)
theorem ls_cong {f g : Nat → Int32} {N : Nat} (h : ∀ j, j < N → f j = g j) : ∀ n, n ≤ N → lsF f n = lsF g n
  | 0, _ => rfl
  | n + 1, hn => by rw [lsF, lsF, h n (by omega), ls_cong h n (by omega)]
def fiN (u : Sto) (W : Nat) : Nat := (fiS u W (fiL u W) 168).2.2
def fiG (u : Sto) (W r : Nat) : Int32 := fiW u W (fiL u W) (fiS u W (fiL u W) r) r
theorem fi_le (u : Sto) (W : Nat) (l : Int32) : ∀ k, (fiS u W l k).2.2 ≤ k
  | 0 => Nat.le_refl _
  | k + 1 => by rw [fiS]; have := fi_le u W l k; split <;> (dsimp only; omega)
def fiQ (u : Sto) (W : Nat) : Res → Sto → Prop := fun o w => o = .inl (some (.int (nI (fiN u W)))) ∧ sim w u ∧ ∀ j, j < 168 → w 175 j = fiG u W j
theorem fi_nx {u : Sto} {W : Nat} : ∀ Ex u', ¬ fiQ u W (.inr Ex) u' := fun _ _ h => nomatch h.1
set_option maxHeartbeats 1000000 in
theorem c_X1_wantOf {E : EE} (r : Nat) (hr : r < 168) (u : Sto) : Ct E 1 0 yX1_wantOf cX1_wantOf 2 (some .int) [.ref (E.ad 173), .int (nI r)] u (.inl (some (.int (u 175 r)))) (u) := by
  refine ct_of (by decide) (Nat.le_of_ble_eq_true rfl) (fun X h hR hrt htab hargs hini => ?_)
  refine g_aload_n h dX1_wantOf_0 rfl rfl ?_
  refine g_getR h fl_X1_15_1 sh_173 (by decide) rfl dX1_wantOf_1 ?_
  refine g_iload_n h dX1_wantOf_4 rfl rfl ?_
  refine g_iald h _ _ _ sh_175 (by decide) (by decide) rfl (by omega) dX1_wantOf_5 ?_
  exact g_iret h hrt dX1_wantOf_6 (by omega) (by rfl) rfl
set_option maxHeartbeats 1000000 in
theorem c_X1_fillWants {E : EE} (W : Nat) (u : Sto) (hl : lawI u) (hW : WW u W) : CtP E 7 0 yX1_fillWants cX1_fillWants 5 (some .int) [.ref (E.ad 173)] u (fiQ u W) := by
  have hW8 := hW.1
  have hn9 : 2 ^ W ≤ 256 := show 2 ^ W ≤ 2 ^ 8 from Nat.pow_le_pow_right (by omega) hW8
  refine ctp_of (by decide) (Nat.le_of_ble_eq_true rfl) (fun X h hR hrt htab hargs => ?_)
  refine g_aload_n h dX1_fillWants_0 rfl rfl ?_
  refine g_VP h lv_X1_28_X1 sh_173 (by decide) rfl (c_X1_prepare W _ hl hW) pr_nx (fitR hR (by decide) (by decide) (by omega)) rfl rfl (Nat.le_of_ble_eq_true rfl) dX1_fillWants_1 (fun v1 u1 hs1 => ?_)
  obtain ⟨hv1, hs1⟩ := hs1
  cases hv1
  obtain ⟨hs1, hs2, hs3, hs4b, hs5⟩ := hs1
  refine g_aload_n h dX1_fillWants_4 rfl rfl ?_
  refine g_V h lv_X1_31_X1 sh_173 (by decide) rfl (c_X1_leastSpare (2 ^ W) hn9 _ hs2) (fitR hR (by decide) (by decide) (by omega)) rfl rfl (Nat.le_of_ble_eq_true rfl) dX1_fillWants_5 ?_
  refine g_top (y := fiL u W) (ls_cong hs5 (2 ^ W) hn9) ?_
  refine g_istore_n (ls' := [(0, _), (1, _)]) h dX1_fillWants_8 rfl (by decide) rfl rfl ?_
  refine g_iconst (v := nI 0) h dX1_fillWants_9 (by decide) ?_
  refine g_istore_n (ls' := [(0, _), (1, _), (2, _)]) h dX1_fillWants_10 rfl (by decide) rfl rfl ?_
  refine g_iconst (v := nI 0) h dX1_fillWants_11 (by decide) ?_
  refine g_istore_n (ls' := [(0, _), (1, _), (2, _), (3, _)]) h dX1_fillWants_12 rfl (by decide) rfl rfl ?_
  have LP : ∀ j k : Nat, ∀ w : Sto, sim w u → w 173 5 = nI (2 ^ W) → (∀ j, j < W → w 176 j = (fiS u W (fiL u W) k).1 j) → (∀ j, j < 168 → w 174 j = ftI u W j) → (∀ j, j < 256 → w 177 j = (fiS u W (fiL u W) k).2.1 j) → (∀ j, j < k → w 175 j = fiG u W j) → 168 < k + j → k ≤ 168 → G E X (QMP E X (fiQ u W) 0) 5 0 13 [(0, .ref (E.ad 173)), (1, .int (fiL u W)), (2, .int (nI (fiS u W (fiL u W) k).2.2)), (3, .int (nI k))] [] (w) := by
    intro j
    induction j with
    | zero => intro k w hs hn hlf hft hsp hgv h1 h2; omega
    | succ j ih =>
      intro k w hs hn hlf hft hsp hgv h1 h2
      refine g_iload_n h dX1_fillWants_13 rfl rfl ?_
      refine g_sipush (v := nI 168) h dX1_fillWants_14 (by decide) ?_
      refine g_icmp_ge (tgt := 100) h dX1_fillWants_17 (by decide) (fun c17 => ?_) (fun c17 => ?_)
      · have n17 := le_n (by omega) (by omega) (show nI (168) ≤ nI (k) from c17)
        obtain rfl : k = 168 := by omega
        refine g_iload_n h dX1_fillWants_100 rfl rfl ?_
        exact g_iretP h hrt dX1_fillWants_101 (by omega) ⟨rfl, hs, hgv⟩
      · have n17 := nle_n (by omega) (by omega) (show ¬ nI (168) ≤ nI (k) from c17)
        obtain ⟨m9, hm9, hfm⟩ := ft_lt u W k hW8
        have hr9 := fi_le u W (fiL u W) k
        refine g_aload_n h dX1_fillWants_20 rfl rfl ?_
        refine g_getR h fl_X1_9_1 sh_173 (by decide) rfl dX1_fillWants_21 ?_
        refine g_iload_n h dX1_fillWants_24 rfl rfl ?_
        refine g_iald h _ _ _ sh_174 (by decide) (by decide) rfl (by omega) dX1_fillWants_25 ?_
        refine g_top (hft k (by omega)) ?_
        refine g_j1 44 (x := (fiG u W k)) ?_ (fun J44 => ?_)
        · refine g_istore (ls' := [(0, _), (1, _), (2, _), (3, _), (4, _)]) h dX1_fillWants_44 (by decide) rfl rfl ?_
          refine g_aload_n h dX1_fillWants_46 rfl rfl ?_
          refine g_getR h fl_X1_15_1 sh_173 (by decide) rfl dX1_fillWants_47 ?_
          refine g_iload_n h dX1_fillWants_50 rfl rfl ?_
          refine g_iload h dX1_fillWants_51 rfl ?_
          refine g_iast h _ _ _ sh_175 (by decide) (by decide) rfl (by omega) dX1_fillWants_53 ?_
          refine g_aload_n h dX1_fillWants_54 rfl rfl ?_
          refine g_aload_n h dX1_fillWants_55 rfl rfl ?_
          refine g_getR h fl_X1_9_1 sh_173 (by decide) rfl dX1_fillWants_56 ?_
          refine g_iload_n h dX1_fillWants_59 rfl rfl ?_
          refine g_iald h _ _ _ sh_174 (by decide) (by decide) rfl (by omega) dX1_fillWants_60 ?_
          refine g_top (y := ftI u W k) (by rw [su_ne2 (by decide)]; exact hft k (by omega)) ?_
          refine g_iconst (v := -1) h dX1_fillWants_61 (by decide) ?_
          refine g_V h lv_X1_39_X1 sh_173 (by decide) rfl (c_X1_change (2 ^ W) hn9 _ _ _ (by rw [su_ne2 (by decide)]; exact hn)) (fitR hR (by decide) (by decide) (by omega)) rfl rfl (Nat.le_of_ble_eq_true rfl) dX1_fillWants_62 ?_
          refine g_iload h dX1_fillWants_65 rfl ?_
          refine g_iconst (v := -1) h dX1_fillWants_67 (by decide) ?_
          refine g_icmp_eq (tgt := 94) h dX1_fillWants_68 (by decide) (fun c68 => ?_) (fun c68 => ?_)
          · have hz : fiS u W (fiL u W) (k + 1) = _ := if_pos c68
            refine g_iinc (v := nI (k + 1)) (ls' := [(0, _), (1, _), (2, _), (3, _), (4, _)]) h dX1_fillWants_94 rfl (nI_1 k) (by decide) rfl rfl ?_
            refine g_goto (tgt := 13) h dX1_fillWants_97 (by decide) ?_
            refine g_del 4 (ls' := [(0, _), (1, _), (2, _), (3, _)]) rfl ?_
            exact g_cv (by rw [hz]) rfl (ih (k + 1) _ ((sim_sc (fun _ => rfl)).trans (sim_scr hs _ (by rfl))) (by rw [sc_c (by decide), su_ne2 (by decide)]; exact hn) (by rw [hz, sc_c (by decide), su_row2 (by decide)]; exact hlf) (by rw [sc_c (by decide), su_row2 (by decide)]; exact hft) (by rw [hz, sc_at, su_row2 (by decide)]; exact sp_cong hsp) (fun j hj => by
              rw [sc_c (by decide), su_row]
              split
              · rename_i e; rw [e]
              · exact hgv j (by omega)) (by omega) (by omega))
          · have hz : fiS u W (fiL u W) (k + 1) = _ := if_neg c68
            have hq : fiG u W k = nI (ix (fiG u W k)) ∧ ix (fiG u W k) < W ∧ ix (fiG u W k) < 8 := by
              have hx : fiG u W k = fwI (fiS u W (fiL u W) k).2.1 (fiS u W (fiL u W) k).1 (ftI u W k) (fiL u W) (2 ^ W) := by
                unfold fiG fiW at c68 ⊢
                by_cases e : ftI u W k = 0
                · rw [if_pos e] at c68; exact absurd rfl c68
                · rw [if_neg e]
              rw [hfm] at hx
              rcases fw_tn (f := (fiS u W (fiL u W) k).2.1) (g := (fiS u W (fiL u W) k).1) (l := fiL u W) (n := 2 ^ W) hm9 with q | ⟨x, h1, h2, q⟩
              · rw [q] at hx; exact absurd hx c68
              · rw [q] at hx; rw [hx, ix_nI (by omega)]; exact ⟨rfl, h1, h2⟩
            refine g_aload_n h dX1_fillWants_71 rfl rfl ?_
            refine g_getR h fl_X1_18_1 sh_173 (by decide) rfl dX1_fillWants_72 ?_
            refine g_iload h dX1_fillWants_75 rfl ?_
            refine g_top hq.1 ?_
            refine g_dup2 h dX1_fillWants_77 rfl rfl ?_
            refine g_iald h _ _ _ sh_176 (by decide) (by decide) rfl hq.2.2 dX1_fillWants_78 ?_
            refine g_top (y := (fiS u W (fiL u W) k).1 (ix (fiG u W k))) (by rw [sc_c (by decide), su_ne2 (by decide)]; exact hlf _ hq.2.1) ?_
            refine g_iconst (v := nI 1) h dX1_fillWants_79 (by decide) ?_
            refine g_isub h dX1_fillWants_80 ?_
            refine g_iast h _ _ _ sh_176 (by decide) (by decide) rfl hq.2.2 dX1_fillWants_81 ?_
            refine g_aload_n h dX1_fillWants_82 rfl rfl ?_
            refine g_iconst (v := nI 1) h dX1_fillWants_83 (by decide) ?_
            refine g_iload h dX1_fillWants_84 rfl ?_
            refine g_ishl h dX1_fillWants_86 ?_
            refine g_iconst (v := nI 1) h dX1_fillWants_87 (by decide) ?_
            refine g_V h lv_X1_39_X1 sh_173 (by decide) rfl (c_X1_change (2 ^ W) hn9 _ _ _ (by rw [su_ne2 (by decide), sc_c (by decide), su_ne2 (by decide)]; exact hn)) (fitR hR (by decide) (by decide) (by omega)) rfl rfl (Nat.le_of_ble_eq_true rfl) dX1_fillWants_88 ?_
            refine g_iinc (v := nI ((fiS u W (fiL u W) k).2.2 + 1)) (ls' := [(0, _), (1, _), (2, _), (3, _), (4, _)]) h dX1_fillWants_91 rfl (nI_1 _) (by decide) rfl rfl ?_
            refine g_iinc (v := nI (k + 1)) (ls' := [(0, _), (1, _), (2, _), (3, _), (4, _)]) h dX1_fillWants_94 rfl (nI_1 k) (by decide) rfl rfl ?_
            refine g_goto (tgt := 13) h dX1_fillWants_97 (by decide) ?_
            refine g_del 4 (ls' := [(0, _), (1, _), (2, _), (3, _)]) rfl ?_
            exact g_cv (by rw [hz]) rfl (ih (k + 1) _ ((sim_sc (fun _ => rfl)).trans (sim_scr ((sim_sc (fun _ => rfl)).trans (sim_scr hs _ (by rfl))) _ (by rfl))) (by rw [sc_c (by decide), su_ne2 (by decide), sc_c (by decide), su_ne2 (by decide)]; exact hn) (fun j hj => by
              rw [hz, sc_c (by decide), su_row, sc_c (by decide), su_row2 (by decide)]
              show _ = upd (fiS u W (fiL u W) k).1 (ix (fiG u W k)) ((fiS u W (fiL u W) k).1 (ix (fiG u W k)) - nI 1) j
              by_cases e : j = ix (fiG u W k)
              · rw [if_pos e, e, pk_us]
              · rw [if_neg e, pk_un e]; exact hlf j hj) (by rw [sc_c (by decide), su_row2 (by decide), sc_c (by decide), su_row2 (by decide)]; exact hft) (by rw [hz, sc_at, su_row2 (by decide), sc_at, su_row2 (by decide)]; exact sp_cong (sp_cong hsp)) (fun j hj => by
              rw [sc_c (by decide), su_row2 (by decide), sc_c (by decide), su_row]
              split
              · rename_i e; rw [e]
              · exact hgv j (by omega)) (by omega) (by omega))
        · refine g_if_ne (tgt := 33) h dX1_fillWants_26 (by decide) (fun c26 => ?_) (fun c26 => ?_)
          · refine g_aload_n h dX1_fillWants_33 rfl rfl ?_
            refine g_aload_n h dX1_fillWants_34 rfl rfl ?_
            refine g_getR h fl_X1_9_1 sh_173 (by decide) rfl dX1_fillWants_35 ?_
            refine g_iload_n h dX1_fillWants_38 rfl rfl ?_
            refine g_iald h _ _ _ sh_174 (by decide) (by decide) rfl (by omega) dX1_fillWants_39 ?_
            refine g_top (hft k (by omega)) ?_
            refine g_iload_n h dX1_fillWants_40 rfl rfl ?_
            refine g_V h lv_X1_35_X1 sh_173 (by decide) rfl (c_X1_firstWant (2 ^ W) hn9 _ _ _ hn) (fitR hR (by decide) (by decide) (by omega)) rfl rfl (Nat.le_of_ble_eq_true rfl) dX1_fillWants_41 ?_
            refine g_top (y := fwI (fiS u W (fiL u W) k).2.1 (fiS u W (fiL u W) k).1 (ftI u W k) (fiL u W) (2 ^ W)) (by rw [hfm]; exact fw_cong hm9 hn9 hsp hlf) ?_
            exact g_top (by first | (rw [fiG, fiW, if_pos c26]; done) | (rw [fiG, fiW, if_neg c26]; done)) J44
          · refine g_iconst (v := -1) h dX1_fillWants_29 (by decide) ?_
            refine g_goto (tgt := 44) h dX1_fillWants_30 (by decide) ?_
            exact g_top (by first | (rw [fiG, fiW, if_pos c26]; done) | (rw [fiG, fiW, if_neg c26]; done)) J44
  exact LP (168 + 1) (0) _ hs1 hs2 hs3 hs4b hs5 (fun j hj => absurd hj (by omega)) (by omega) (by omega)
  
def fitV (u : Sto) (W : Nat) (z : Int32) : Int32 := if z = 0 then nI (fiN u W) else b2 (nI (fiN u W) = smI (u 16) W)
def givR (u : Sto) (W : Nat) (x : Int32) : Res × Sto := if okR x then (.inl (some (.int (fiG u W (ix x)))), u) else (.inr ioob, u)
set_option maxHeartbeats 1000000 in
theorem c_X10_fitted {E : EE} (W : Nat) (z : Int32) (u : Sto) (hl : lawI u) (hW : WW u W) : CtP E 8 0 yX10_fitted cX10_fitted 3 (some .int) [.ref (E.ad 0), .int z] u (PS (.inl (some (.int (fitV u W z)))) u) := by
  refine ctp_of (by decide) (Nat.le_of_ble_eq_true rfl) (fun X h hR hrt htab hargs => ?_)
  refine g_aload_n h dX10_fitted_0 rfl rfl ?_
  refine g_getR h fl_X10_77_9 sh_0 (by decide) rfl dX10_fitted_1 ?_
  refine g_VP h lv_X10_289_X1 sh_173 (by decide) rfl (c_X1_fillWants W _ hl hW) fi_nx (fitR hR (by decide) (by decide) (by omega)) rfl rfl (Nat.le_of_ble_eq_true rfl) dX10_fitted_4 (fun v4 u4 hs4 => ?_)
  obtain ⟨hv4, hs4⟩ := hs4
  cases hv4
  obtain ⟨hs9, hg9⟩ := hs4
  refine g_istore_n (ls' := [(0, _), (1, _), (2, _)]) h dX10_fitted_7 rfl (by decide) rfl rfl ?_
  refine g_iload_n h dX10_fitted_8 rfl rfl ?_
  refine g_if_ne (tgt := 14) h dX10_fitted_9 (by decide) (fun c9 => ?_) (fun c9 => ?_)
  · refine g_iload_n h dX10_fitted_14 rfl rfl ?_
    refine g_aload_n h dX10_fitted_15 rfl rfl ?_
    refine g_getR h fl_X10_20_9 sh_0 (by decide) rfl dX10_fitted_16 ?_
    refine g_getR h fl_X10_97_8 sh_2 (by decide) rfl dX10_fitted_19 ?_
    refine g_V h lv_X10_292_X4 sh_10 (by decide) rfl (c_X4_wantedRooms W hW.1 _ (WW_sim hs9 hW).2.1) (fitR hR (by decide) (by decide) (by omega)) rfl rfl (Nat.le_of_ble_eq_true rfl) dX10_fitted_22 ?_
    refine g_top (y := smI (u 16) W) (by rw [hs9.c 16 (by decide)]) ?_
    refine g_icmp_ne (tgt := 32) h dX10_fitted_25 (by decide) (fun c25 => ?_) (fun c25 => ?_)
    · refine g_iconst (v := nI 0) h dX10_fitted_32 (by decide) ?_
      exact g_iretP h hrt dX10_fitted_33 (by omega) (by first | exact ⟨by rw [fitV, if_neg c9, b2_f c25], hs9⟩ | exact ⟨by rw [fitV, if_neg c9, b2_t c25], hs9⟩)
    · refine g_iconst (v := nI 1) h dX10_fitted_28 (by decide) ?_
      refine g_goto (tgt := 33) h dX10_fitted_29 (by decide) ?_
      exact g_iretP h hrt dX10_fitted_33 (by omega) (by first | exact ⟨by rw [fitV, if_neg c9, b2_f c25], hs9⟩ | exact ⟨by rw [fitV, if_neg c9, b2_t c25], hs9⟩)
  · refine g_iload_n h dX10_fitted_12 rfl rfl ?_
    exact g_iretP h hrt dX10_fitted_13 (by omega) ⟨by rw [fitV, if_pos c9], hs9⟩
set_option maxHeartbeats 1000000 in
theorem c_X10_given {E : EE} (W : Nat) (x : Int32) (u : Sto) (hl : lawI u) (hW : WW u W) : CtP E 9 1 yX10_given cX10_given 2 (some .int) [.ref (E.ad 0), .int x] u (PSp (givR u W x)) := by
  refine ctp_of (by decide) (Nat.le_of_ble_eq_true rfl) (fun X h hR hrt htab hargs => ?_)
  refine g_iload_n h dX10_given_0 rfl rfl ?_
  refine g_nR h dX10_given_1 hR (by decide) (by omega) (fun hc1 => ?_) (fun hc1 => ?_)
  · exact psp (by rw [givR, if_neg hc1]) (sim.refl _)
  obtain ⟨r, hr, er, rfl⟩ := okR_n hc1
  refine g_aload_n h dX10_given_4 rfl rfl ?_
  refine g_getR h fl_X10_77_9 sh_0 (by decide) rfl dX10_given_5 ?_
  refine g_VP h lv_X10_289_X1 sh_173 (by decide) rfl (c_X1_fillWants W _ hl hW) fi_nx (fitR hR (by decide) (by decide) (by omega)) rfl rfl (Nat.le_of_ble_eq_true rfl) dX10_given_8 (fun v8 u8 hs8 => ?_)
  obtain ⟨hv8, hs8⟩ := hs8
  cases hv8
  obtain ⟨hs9, hg9⟩ := hs8
  refine g_pop h dX10_given_11 rfl ?_
  refine g_aload_n h dX10_given_12 rfl rfl ?_
  refine g_getR h fl_X10_77_9 sh_0 (by decide) rfl dX10_given_13 ?_
  refine g_iload_n h dX10_given_16 rfl rfl ?_
  refine g_V h lv_X10_295_X1 sh_173 (by decide) rfl (c_X1_wantOf r hr _) (fitR hR (by decide) (by decide) (by omega)) rfl rfl (Nat.le_of_ble_eq_true rfl) dX10_given_17 ?_
  exact g_iretP h hrt dX10_given_20 (by omega) (psp (by rw [givR, if_pos hc1, er, hg9 r hr]) hs9)
