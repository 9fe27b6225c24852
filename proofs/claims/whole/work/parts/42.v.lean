-- after: 38.r 39.s 40.t 41.u
def cN (p : Nat → Bool) : Nat → Nat
  | 0 => 0
  | n + 1 => if p n = true then cN p n + 1 else cN p n
theorem cN_le (p : Nat → Bool) : ∀ n, cN p n ≤ n
  | 0 => Nat.le_refl _
  | n + 1 => by rw [cN]; have := cN_le p n; split <;> omega
theorem ct_cN (p : Nat → Bool) : ∀ n, ctI p n = nI (cN p n)
  | 0 => rfl
  | n + 1 => by
    rw [ctI, cN, ct_cN p n]
    split
    · exact nI_1 _
    · rfl
theorem cN_0 (p : Nat → Bool) : ∀ n, cN p n = 0 ↔ anyB p n = false
  | 0 => ⟨fun _ => rfl, fun _ => rfl⟩
  | n + 1 => by
    rw [cN, anyB]
    by_cases h : p n = true
    · rw [if_pos h, h, Bool.or_true]; exact ⟨fun q => absurd q (by omega), fun q => absurd q (by decide)⟩
    · rw [if_neg h, Bool.eq_false_iff.mpr h, Bool.or_false]; exact cN_0 p n
/-- the first below n for which p holds, else n -/
def fsN (p : Nat → Bool) : Nat → Nat
  | 0 => 0
  | k + 1 => if anyB p k = true then fsN p k else if p k = true then k else k + 1
def dgF (M k i : Nat) : Int32 := nI ((k / M ^ (5 - i)) % M)
theorem dn_cong {M : Nat} : ∀ n (f g : Nat → Int32) (N : Nat), n ≤ N → (∀ i, i < N → f i = g i) → ∀ i, i < N → dnF M n f i = dnF M n g i
  | 0, f, g, N, _, h => h
  | n + 1, f, g, N, hn, h => fun i hi => by
    have e1 : upd f n (f n + nI 1) n = upd g n (g n + nI 1) n := by rw [pk_us, pk_us, h n (by omega)]
    have e2 : ∀ j, j < N → upd f n (f n + nI 1) j = upd g n (g n + nI 1) j := fun j hj => by
      by_cases q : j = n
      · subst q; rw [pk_us, pk_us, h j hj]
      · rw [pk_un q, pk_un q, h j hj]
    rw [dnF, dnF, e1]
    split
    · exact e2 i hi
    · refine dn_cong n _ _ N (by omega) (fun j hj => ?_) i hi
      by_cases q : j = n
      · subst q; rw [pk_us, pk_us]
      · exact (pk_un q).trans ((e2 j hj).trans (pk_un q).symm)
theorem bt {b : Bool} (h : ¬ b = false) : b = true := by
  cases b
  · exact absurd rfl h
  · rfl
theorem dg_2 : ∀ k, k < 64 → ∀ i, i < 6 → dnF 2 6 (dgF 2 k) i = dgF 2 (k + 1) i := by decide +kernel
theorem dg_3 : ∀ k, k < 729 → ∀ i, i < 6 → dnF 3 6 (dgF 3 k) i = dgF 3 (k + 1) i := by decide +kernel
theorem dg_0 : ∀ M, M < 4 → ∀ i, i < 6 → dgF M 0 i = nI 0 := by decide +kernel
theorem dg_s {M : Nat} (hM : M = 2 ∨ M = 3) {k i : Nat} (hk : k < M ^ 6) (hi : i < 6) : dnF M 6 (dgF M k) i = dgF M (k + 1) i := by
  rcases hM with rfl | rfl
  · exact dg_2 k hk i hi
  · exact dg_3 k hk i hi
def vaF (u : Sto) (d : Nat) (L : List Nat) (j : Nat) : Int32 := vlI u (L.getD (j / 6) 0) (d * 24 + 12 + j % 6)
theorem wo_cong {v v' d d' : Nat → Int32} {s : Nat} {o : Int32} (hv : ∀ i, i < 6 → v (s * 6 + i) = v' (s * 6 + i)) (hd : ∀ i, i < 6 → d i = d' i) : woI v d s o 6 = woI v' d' s o 6 := smI_cong (fun k hk => by rw [hv k hk, hd k hk])
theorem fr_cong {v v' d d' : Nat → Int32} {M : Nat} (hv : ∀ s i, s < M → i < 6 → v (s * 6 + i) = v' (s * 6 + i)) (hd : ∀ i, i < 6 → d i = d' i) : frB v d M = frB v' d' M := by
  have H : ∀ (p q : Nat → Bool) (n : Nat), (∀ k, k < n → p k = q k) → allB p n = allB q n := by
    intro p q n
    induction n with
    | zero => intro _; rfl
    | succ n ih => intro h; rw [allB, allB, ih (fun k hk => h k (by omega)), h n (by omega)]
  exact H _ _ _ (fun s hs => H _ _ _ (fun o ho => by rw [wo_cong (o := nI o) (fun i hi => hv s i hs hi) hd, wo_cong (o := nI s) (fun i hi => hv s i hs hi) hd]))
def faB (u : Sto) (d : Nat) (L : List Nat) (k : Nat) : Bool := frB (vaF u d L) (dgF L.length k) L.length
def dfQ (u : Sto) (d : Nat) (L : List Nat) : Res → Sto → Prop := fun o w => o = .inl (some (.int (nI (cN (faB u d L) (L.length ^ 6))))) ∧ sim w u ∧ rowL (w 167) L ∧ (¬ cN (faB u d L) (L.length ^ 6) = 0 → ∀ i, i < 6 → w 170 i = dgF L.length (fsN (faB u d L) (L.length ^ 6)) i)
theorem df_nx {u : Sto} {d : Nat} {L : List Nat} : ∀ Ex u', ¬ dfQ u d L (.inr Ex) u' := fun _ _ h => nomatch h.1
theorem pw6 {M : Nat} (h : M = 2 ∨ M = 3) : M ^ 6 ≤ 729 := by rcases h with rfl | rfl <;> decide
set_option maxHeartbeats 1000000 in
theorem c_X0_dealFairly {E : EE} (d : Nat) (hd7 : d < 7) (L : List Nat) (M : Nat) (hlen : L.length = M) (hM23 : M = 2 ∨ M = 3) (hL : ∀ a ∈ L, a < 10) (u : Sto) (hl : lawI u) (hn0 : u 164 10 = nI M) (hv0 : rowL (u 167) L) : CtP E 5 0 yX0_dealFairly cX0_dealFairly 6 (some .int) [.ref (E.ad 164), .int (nI d)] u (dfQ u d L) := by
  have hp6 := pw6 hM23
  refine ctp_of (by decide) (Nat.le_of_ble_eq_true rfl) (fun X h hR hrt htab hargs => ?_)
  refine g_iconst (v := nI 1) h dX0_dealFairly_0 (by decide) ?_
  refine g_istore_n (ls' := [(0, _), (1, _), (2, _)]) h dX0_dealFairly_1 rfl (by decide) rfl rfl ?_
  refine g_iconst (v := nI 0) h dX0_dealFairly_2 (by decide) ?_
  refine g_istore_n (ls' := [(0, _), (1, _), (2, _), (3, _)]) h dX0_dealFairly_3 rfl (by decide) rfl rfl ?_
  have LP : ∀ j k : Nat, ∀ w : Sto, sim w u → w 164 10 = nI M → rowL (w 167) L → (∀ s i, s < M → i < k → w 168 (s * 6 + i) = vaF u d L (s * 6 + i)) → 6 < k + j → k ≤ 6 → G E X (QMP E X (dfQ u d L) 0) 6 0 4 [(0, .ref (E.ad 164)), (1, .int (nI d)), (2, .int (nI (M ^ k))), (3, .int (nI k))] [] (w) := by
    intro j
    induction j with
    | zero => intro k w hs hn hv hd h1 h2; omega
    | succ j ih =>
      intro k w hs hn hv hd h1 h2
      refine g_iload_n h dX0_dealFairly_4 rfl rfl ?_
      refine g_bipush (v := nI 6) h dX0_dealFairly_5 (by decide) ?_
      refine g_icmp_ge (tgt := 80) h dX0_dealFairly_7 (by decide) (fun c7 => ?_) (fun c7 => ?_)
      · have n7 := le_n (by omega) (by omega) (show nI (6) ≤ nI (k) from c7)
        obtain rfl : k = 6 := by omega
        refine g_iconst (v := nI 0) h dX0_dealFairly_80 (by decide) ?_
        refine g_istore_n (ls' := [(0, _), (1, _), (2, _), (3, _)]) h dX0_dealFairly_81 rfl (by decide) rfl rfl ?_
        refine g_aload_n h dX0_dealFairly_82 rfl rfl ?_
        refine g_getR h fl_X0_24_0 sh_164 (by decide) rfl dX0_dealFairly_83 ?_
        refine g_iconst (v := nI 0) h dX0_dealFairly_86 (by decide) ?_
        refine g_S h ls_X0_68 (c_J7_fill_53178 169 6 sh_169 (by decide) (by decide) _ _) (fitR hR (by decide) (by decide) (by omega)) rfl rfl (Nat.le_of_ble_eq_true rfl) dX0_dealFairly_87 ?_
        refine g_iconst (v := nI 0) h dX0_dealFairly_90 (by decide) ?_
        refine g_istore (ls' := [(0, _), (1, _), (2, _), (3, _), (4, _)]) h dX0_dealFairly_91 (by decide) rfl rfl ?_
        have LP2 : ∀ j k : Nat, ∀ w : Sto, sim w u → w 164 10 = nI M → rowL (w 167) L → (∀ s i, s < M → i < 6 → w 168 (s * 6 + i) = vaF u d L (s * 6 + i)) → (∀ i, i < 6 → w 169 i = dgF M k i) → (¬ cN (faB u d L) k = 0 → ∀ i, i < 6 → w 170 i = dgF M (fsN (faB u d L) k) i) → M ^ 6 < k + j → k ≤ M ^ 6 → G E X (QMP E X (dfQ u d L) 0) 6 0 93 [(0, .ref (E.ad 164)), (1, .int (nI d)), (2, .int (nI (M ^ 6))), (3, .int (nI (cN (faB u d L) k))), (4, .int (nI k))] [] (w) := by
          intro j
          induction j with
          | zero => intro k w hs hn hv hd hg hf0 h1 h2; omega
          | succ j ih =>
            intro k w hs hn hv hd hg hf0 h1 h2
            refine g_iload h dX0_dealFairly_93 rfl ?_
            refine g_iload_n h dX0_dealFairly_95 rfl rfl ?_
            refine g_icmp_ge (tgt := 138) h dX0_dealFairly_96 (by decide) (fun c96 => ?_) (fun c96 => ?_)
            · have n96 := le_n (by omega) (by omega) (show nI (M ^ 6) ≤ nI (k) from c96)
              obtain rfl : k = M ^ 6 := by omega
              refine g_iload_n h dX0_dealFairly_138 rfl rfl ?_
              exact g_iretP h hrt dX0_dealFairly_139 (by omega) ⟨by rw [hlen], hs, hv, fun q => by rw [hlen] at q ⊢; exact hf0 q⟩
            · have n96 := nle_n (by omega) (by omega) (show ¬ nI (M ^ 6) ≤ nI (k) from c96)
              have hc9 := cN_le (faB u d L) k
              have hfk : frB (w 168) (w 169) M = (faB u d L) k := by rw [faB, hlen]; exact fr_cong hd (fun i hi => by rw [hg i hi])
              have hgs : ∀ i, i < 6 → dnF M 6 (w 169) i = dgF M (k + 1) i := fun i hi => by rw [dn_cong 6 _ _ 6 (by omega) hg i hi]; exact dg_s hM23 n96 hi
              refine g_aload_n h dX0_dealFairly_99 rfl rfl ?_
              refine g_V h lv_X0_91_X0 sh_164 (by decide) rfl (c_X0_isFair M (by omega) _ hn) (fitR hR (by decide) (by decide) (by omega)) rfl rfl (Nat.le_of_ble_eq_true rfl) dX0_dealFairly_100 ?_
              refine g_if_eq (tgt := 128) h dX0_dealFairly_103 (by decide) (fun c103 => ?_) (fun c103 => ?_)
              · have hp : ¬ (faB u d L) k = true := by rw [← hfk]; exact b2_0.mp c103
                have hcn : cN (faB u d L) (k + 1) = cN (faB u d L) k := if_neg hp
                have hfs : ¬ cN (faB u d L) (k + 1) = 0 → fsN (faB u d L) (k + 1) = fsN (faB u d L) k := fun q => if_pos (by rw [hcn] at q; exact bt (fun z => q ((cN_0 _ _).mpr z)))
                refine g_aload_n h dX0_dealFairly_128 rfl rfl ?_
                refine g_V h lv_X0_101_X0 sh_164 (by decide) rfl (c_X0_dealNext M _ (by first | exact hn | (rw [sc_c (by decide)]; exact hn))) (fitR hR (by decide) (by decide) (by omega)) rfl rfl (Nat.le_of_ble_eq_true rfl) dX0_dealFairly_129 ?_
                refine g_iinc (v := nI (k + 1)) (ls' := [(0, _), (1, _), (2, _), (3, _), (4, _)]) h dX0_dealFairly_132 rfl (nI_1 k) (by decide) rfl rfl ?_
                refine g_goto (tgt := 93) h dX0_dealFairly_135 (by decide) ?_
                exact g_cv (by rw [hcn]) rfl (ih (k + 1) _ ((sim_sc (fun _ => rfl)).trans hs) (by rw [sc_c (by decide)]; exact hn) (by rw [sc_c (by decide)]; exact hv) (by rw [sc_c (by decide)]; exact hd) (by rw [sc_at]; exact hgs) (fun q i hi => by rw [sc_c (by decide), hfs q]; exact hf0 (by rw [← hcn]; exact q) i hi) (by omega) (by omega))
              · have hp : (faB u d L) k = true := by rw [← hfk]; exact b2_n0.mp c103
                have hcn : cN (faB u d L) (k + 1) = cN (faB u d L) k + 1 := if_pos hp
                refine g_iload_n h dX0_dealFairly_106 rfl rfl ?_
                refine g_if_ne (tgt := 125) h dX0_dealFairly_107 (by decide) (fun c107 => ?_) (fun c107 => ?_)
                · have n107 := ne_n (show ¬ nI (cN (faB u d L) k) = nI (0) from c107)
                  have hfs : fsN (faB u d L) (k + 1) = fsN (faB u d L) k := if_pos (bt (fun z => n107 ((cN_0 _ _).mpr z)))
                  refine g_iinc (v := nI (cN (faB u d L) k + 1)) (ls' := [(0, _), (1, _), (2, _), (3, _), (4, _)]) h dX0_dealFairly_125 rfl (nI_1 _) (by decide) rfl rfl ?_
                  refine g_aload_n h dX0_dealFairly_128 rfl rfl ?_
                  refine g_V h lv_X0_101_X0 sh_164 (by decide) rfl (c_X0_dealNext M _ (by first | exact hn | (rw [sc_c (by decide)]; exact hn))) (fitR hR (by decide) (by decide) (by omega)) rfl rfl (Nat.le_of_ble_eq_true rfl) dX0_dealFairly_129 ?_
                  refine g_iinc (v := nI (k + 1)) (ls' := [(0, _), (1, _), (2, _), (3, _), (4, _)]) h dX0_dealFairly_132 rfl (nI_1 k) (by decide) rfl rfl ?_
                  refine g_goto (tgt := 93) h dX0_dealFairly_135 (by decide) ?_
                  exact g_cv (by rw [hcn]) rfl (ih (k + 1) _ ((sim_sc (fun _ => rfl)).trans hs) (by rw [sc_c (by decide)]; exact hn) (by rw [sc_c (by decide)]; exact hv) (by rw [sc_c (by decide)]; exact hd) (by rw [sc_at]; exact hgs) (fun q i hi => by rw [sc_c (by decide), hfs]; exact hf0 n107 i hi) (by omega) (by omega))
                · have n107 := eq_n (by omega) (by omega) (show nI (cN (faB u d L) k) = nI (0) from c107)
                  have hfs : fsN (faB u d L) (k + 1) = k := by rw [fsN, if_neg (by rw [(cN_0 _ _).mp n107]; exact Bool.false_ne_true), if_pos hp]
                  refine g_aload_n h dX0_dealFairly_110 rfl rfl ?_
                  refine g_getR h fl_X0_24_0 sh_164 (by decide) rfl dX0_dealFairly_111 ?_
                  refine g_iconst (v := nI 0) h dX0_dealFairly_114 (by decide) ?_
                  refine g_aload_n h dX0_dealFairly_115 rfl rfl ?_
                  refine g_getR h fl_X0_27_0 sh_164 (by decide) rfl dX0_dealFairly_116 ?_
                  refine g_iconst (v := nI 0) h dX0_dealFairly_119 (by decide) ?_
                  refine g_bipush (v := nI 6) h dX0_dealFairly_120 (by decide) ?_
                  refine g_copy h _ _ 6 tw_6_222 tw_3_99 tw_3_98 tw_1_14 sh_169 sh_170 (by decide) (by decide) (by decide) (by rw [hR]; decide) (Nat.le_of_ble_eq_true rfl) dX0_dealFairly_122 ?_
                  refine g_iinc (v := nI (cN (faB u d L) k + 1)) (ls' := [(0, _), (1, _), (2, _), (3, _), (4, _)]) h dX0_dealFairly_125 rfl (nI_1 _) (by decide) rfl rfl ?_
                  refine g_aload_n h dX0_dealFairly_128 rfl rfl ?_
                  refine g_V h lv_X0_101_X0 sh_164 (by decide) rfl (c_X0_dealNext M _ (by first | exact hn | (rw [sc_c (by decide)]; exact hn))) (fitR hR (by decide) (by decide) (by omega)) rfl rfl (Nat.le_of_ble_eq_true rfl) dX0_dealFairly_129 ?_
                  refine g_iinc (v := nI (k + 1)) (ls' := [(0, _), (1, _), (2, _), (3, _), (4, _)]) h dX0_dealFairly_132 rfl (nI_1 k) (by decide) rfl rfl ?_
                  refine g_goto (tgt := 93) h dX0_dealFairly_135 (by decide) ?_
                  exact g_cv (by rw [hcn]) rfl (ih (k + 1) _ ((sim_sc (fun _ => rfl)).trans ((sim_sc (fun _ => rfl)).trans hs)) (by rw [sc_c (by decide), sc_c (by decide)]; exact hn) (by rw [sc_c (by decide), sc_c (by decide)]; exact hv) (by rw [sc_c (by decide), sc_c (by decide)]; exact hd) (by rw [sc_at, sc_c (by decide)]; exact hgs) (fun q i hi => by rw [sc_c (by decide), sc_at, hfs, cpy, if_pos hi]; exact hg i hi) (by omega) (by omega))
        exact LP2 (M ^ 6 + 1) (0) _ ((sim_sc (fun _ => rfl)).trans hs) (by rw [sc_c (by decide)]; exact hn) (by rw [sc_c (by decide)]; exact hv) (by rw [sc_c (by decide)]; exact hd) (fun i hi => by rw [sc_at, flF, if_pos hi]; exact (dg_0 M (by omega) i hi).symm) (fun q => absurd rfl q) (by omega) (by omega)
        
      · have n7 := nle_n (by omega) (by omega) (show ¬ nI (6) ≤ nI (k) from c7)
        refine g_iload_n h dX0_dealFairly_10 rfl rfl ?_
        refine g_aload_n h dX0_dealFairly_11 rfl rfl ?_
        refine g_getI h fl_X0_87_0 sh_164 (by decide) rfl dX0_dealFairly_12 ?_
        refine g_top hn ?_
        refine g_imul h dX0_dealFairly_15 ?_
        refine g_top (pk_mul (M ^ k) M) ?_
        refine g_istore_n (ls' := [(0, _), (1, _), (2, _), (3, _)]) h dX0_dealFairly_16 rfl (by decide) rfl rfl ?_
        refine g_iconst (v := nI 0) h dX0_dealFairly_17 (by decide) ?_
        refine g_istore (ls' := [(0, _), (1, _), (2, _), (3, _), (4, _)]) h dX0_dealFairly_18 (by decide) rfl rfl ?_
        have LPI : ∀ j9 j2 : Nat, ∀ w2 : Sto, sim w2 u → w2 164 10 = nI M → rowL (w2 167) L → (∀ s i, s < M → i < k → w2 168 (s * 6 + i) = vaF u d L (s * 6 + i)) → (∀ s, s < j2 → w2 168 (s * 6 + k) = vaF u d L (s * 6 + k)) → M < j2 + j9 → j2 ≤ M → G E X (QMP E X (dfQ u d L) 0) 6 0 20 [(0, .ref (E.ad 164)), (1, .int (nI d)), (2, .int (nI (M ^ (k + 1)))), (3, .int (nI k)), (4, .int (nI j2))] [] (w2) := by
          intro j9
          induction j9 with
          | zero => intro j2 w2 hs2 hn2 hv2 hd2 hd3 h1 h2; omega
          | succ j9 ih2 =>
            intro j2 w2 hs2 hn2 hv2 hd2 hd3 h1 h2
            refine g_iload h dX0_dealFairly_20 rfl ?_
            refine g_aload_n h dX0_dealFairly_22 rfl rfl ?_
            refine g_getI h fl_X0_87_0 sh_164 (by decide) rfl dX0_dealFairly_23 ?_
            refine g_top hn2 ?_
            refine g_icmp_ge (tgt := 74) h dX0_dealFairly_26 (by decide) (fun c26 => ?_) (fun c26 => ?_)
            · have n26 := le_n (by omega) (by omega) (show nI (M) ≤ nI (j2) from c26)
              obtain rfl : j2 = M := by omega
              refine g_iinc (v := nI (k + 1)) (ls' := [(0, _), (1, _), (2, _), (3, _), (4, _)]) h dX0_dealFairly_74 rfl (nI_1 k) (by decide) rfl rfl ?_
              refine g_goto (tgt := 4) h dX0_dealFairly_77 (by decide) ?_
              refine g_del 4 (ls' := [(0, _), (1, _), (2, _), (3, _)]) rfl ?_
              exact ih (k + 1) _ hs2 hn2 hv2 (fun s i hs3 hi => by
                by_cases e : i = k
                · subst e; exact hd3 s (by omega)
                · exact hd2 s i hs3 (by omega)) (by omega) (by omega)
            · have n26 := nle_n (by omega) (by omega) (show ¬ nI (M) ≤ nI (j2) from c26)
              have hl3 : j2 < L.length := by omega
              have hm := hL L[j2] (List.getElem_mem hl3)
              have hr : d * 24 + 12 + k < 168 := by omega
              refine g_iload_n h dX0_dealFairly_29 rfl rfl ?_
              refine g_bipush (v := nI 24) h dX0_dealFairly_30 (by decide) ?_
              refine g_imul h dX0_dealFairly_32 ?_
              refine g_top (pk_mul d 24) ?_
              refine g_bipush (v := nI 12) h dX0_dealFairly_33 (by decide) ?_
              refine g_iadd h dX0_dealFairly_35 ?_
              refine g_top (nI_add _ _) ?_
              refine g_iload_n h dX0_dealFairly_36 rfl rfl ?_
              refine g_iadd h dX0_dealFairly_37 ?_
              refine g_top (nI_add _ _) ?_
              refine g_istore (ls' := [(0, _), (1, _), (2, _), (3, _), (4, _), (5, _)]) h dX0_dealFairly_38 (by decide) rfl rfl ?_
              refine g_aload_n h dX0_dealFairly_40 rfl rfl ?_
              refine g_getR h fl_X0_21_0 sh_164 (by decide) rfl dX0_dealFairly_41 ?_
              refine g_iload h dX0_dealFairly_44 rfl ?_
              refine g_bipush (v := nI 6) h dX0_dealFairly_46 (by decide) ?_
              refine g_imul h dX0_dealFairly_48 ?_
              refine g_top (pk_mul j2 6) ?_
              refine g_iload_n h dX0_dealFairly_49 rfl rfl ?_
              refine g_iadd h dX0_dealFairly_50 ?_
              refine g_top (nI_add _ _) ?_
              refine g_aload_n h dX0_dealFairly_51 rfl rfl ?_
              refine g_getR h fl_X0_36_0 sh_164 (by decide) rfl dX0_dealFairly_52 ?_
              refine g_aload_n h dX0_dealFairly_55 rfl rfl ?_
              refine g_getR h fl_X0_18_0 sh_164 (by decide) rfl dX0_dealFairly_56 ?_
              refine g_iload h dX0_dealFairly_59 rfl ?_
              refine g_iald h _ _ _ sh_167 (by decide) (by decide) rfl (by omega) dX0_dealFairly_61 ?_
              refine g_top (hv2 j2 hl3) ?_
              refine g_iload h dX0_dealFairly_62 rfl ?_
              refine g_VP h lv_X0_79_X9 sh_2 (by decide) rfl (c_X9_valueOfT _ hm _ hr _ (lawI_sim hs2 hl)) pt_nx (fitR hR (by decide) (by decide) (by omega)) rfl rfl (Nat.le_of_ble_eq_true rfl) dX0_dealFairly_64 (fun v64 u64 hs64 => ?_)
              obtain ⟨hv64, hs64⟩ := hs64
              cases hv64
              refine g_top (y := vaF u d L (j2 * 6 + k)) (by rw [vlI_sim hs2, vaF, show (j2 * 6 + k) / 6 = j2 by omega, show (j2 * 6 + k) % 6 = k by omega, show L.getD j2 0 = L[j2] from by simp [List.getD, hl3]]) ?_
              refine g_iast h _ _ _ sh_168 (by decide) (by decide) rfl (by omega) dX0_dealFairly_67 ?_
              refine g_iinc (v := nI (j2 + 1)) (ls' := [(0, _), (1, _), (2, _), (3, _), (4, _), (5, _)]) h dX0_dealFairly_68 rfl (nI_1 j2) (by decide) rfl rfl ?_
              refine g_goto (tgt := 20) h dX0_dealFairly_71 (by decide) ?_
              refine g_del 5 (ls' := [(0, _), (1, _), (2, _), (3, _), (4, _)]) rfl ?_
              exact ih2 (j2 + 1) _ (sim_scr (hs64.sim.trans hs2) _ (by rfl)) (by rw [su_ne2 (by decide), hs64 164 (by decide) (by decide)]; exact hn2) (by rw [su_row2 (by decide), hs64 167 (by decide) (by decide)]; exact hv2) (fun s i hs3 hi => by
                rw [su_row, hs64 168 (by decide) (by decide), if_neg (by omega)]; exact hd2 s i hs3 hi) (fun s hs3 => by
                rw [su_row, hs64 168 (by decide) (by decide)]
                split
                · rename_i e; rw [e]
                · exact hd3 s (by omega)) (by omega) (by omega)
        exact LPI (M + 1) (0) w hs hn hv hd (fun s hs3 => absurd hs3 (by omega)) (by omega) (by omega)
        
  exact LP (6 + 1) (0) u (sim.refl u) hn0 hv0 (fun s i _ hi => absurd hi (by omega)) (by omega) (by omega)
  
