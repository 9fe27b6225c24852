-- after: 89.nt
/-- what holds of a town t beside the roll r with T tenants -/
abbrev TI (v : Sto) (t r T : Nat) : Prop := (∀ m, m < 168 → v (t + 1) m = -1 ∨ ∃ a, a < T ∧ v (t + 1) m = nI a ∧ v (r + 3) a = -1) ∧ (∀ m, m < 168 → v (t + 2) m = -1 ∨ (¬ v (t + 1) m = -1 ∧ ¬ v (t + 2) m = v (t + 1) m ∧ ∃ a, a < T ∧ v (t + 2) m = nI a ∧ v (r + 3) a = -1)) ∧ (∀ a, a < 10 → v (t + 5) a = ctI (fun m => decide (v (t + 1) m = nI a)) 168) ∧ (∃ ln, ln < 80 ∧ v t 6 = nI ln) ∧ (∃ lc, lc ≤ 80 ∧ v t 7 = nI lc) ∧ (∃ nw, nw < 168 ∧ v t 10 = nI nw) ∧ (∀ a, T ≤ a → a < 10 → v (t + 4) a = 0)
theorem TI.own {v : Sto} {t r T : Nat} (h : TI v t r T) : ∀ m, m < 168 → v (t + 1) m = -1 ∨ ∃ a, a < T ∧ v (t + 1) m = nI a ∧ v (r + 3) a = -1 := h.1
theorem TI.sub {v : Sto} {t r T : Nat} (h : TI v t r T) : ∀ m, m < 168 → v (t + 2) m = -1 ∨ (¬ v (t + 1) m = -1 ∧ ¬ v (t + 2) m = v (t + 1) m ∧ ∃ a, a < T ∧ v (t + 2) m = nI a ∧ v (r + 3) a = -1) := h.2.1
theorem TI.cnt {v : Sto} {t r T : Nat} (h : TI v t r T) : ∀ a, a < 10 → v (t + 5) a = ctI (fun m => decide (v (t + 1) m = nI a)) 168 := h.2.2.1
theorem TI.ln {v : Sto} {t r T : Nat} (h : TI v t r T) : ∃ ln, ln < 80 ∧ v t 6 = nI ln := h.2.2.2.1
theorem TI.lc {v : Sto} {t r T : Nat} (h : TI v t r T) : ∃ lc, lc ≤ 80 ∧ v t 7 = nI lc := h.2.2.2.2.1
theorem TI.now {v : Sto} {t r T : Nat} (h : TI v t r T) : ∃ nw, nw < 168 ∧ v t 10 = nI nw := h.2.2.2.2.2.1
theorem TI.zer {v : Sto} {t r T : Nat} (h : TI v t r T) : ∀ a, T ≤ a → a < 10 → v (t + 4) a = 0 := h.2.2.2.2.2.2
/-- and of a roll r with T tenants, W wants -/
abbrev RI (v : Sto) (r T W : Nat) : Prop := (∀ a, a < T → v (r + 3) a = -1 ∨ ∃ m, m < a ∧ v (r + 3) a = nI m ∧ v (r + 3) m = -1) ∧ (∀ m, m < 168 → v (r + 4) m = nI 0 ∨ v (r + 4) m = nI 1) ∧ (∀ k, k < W → ∃ a, a < T ∧ v (r + 5) k = nI a ∧ v (r + 3) a = -1) ∧ (∀ k, k < W → ∃ n, n ≤ 20 ∧ v (r + 6) k = nI n)
theorem RI.mot {v : Sto} {r T W : Nat} (h : RI v r T W) : ∀ a, a < T → v (r + 3) a = -1 ∨ ∃ m, m < a ∧ v (r + 3) a = nI m ∧ v (r + 3) m = -1 := h.1
theorem RI.sht {v : Sto} {r T W : Nat} (h : RI v r T W) : ∀ m, m < 168 → v (r + 4) m = nI 0 ∨ v (r + 4) m = nI 1 := h.2.1
theorem RI.wof {v : Sto} {r T W : Nat} (h : RI v r T W) : ∀ k, k < W → ∃ a, a < T ∧ v (r + 5) k = nI a ∧ v (r + 3) a = -1 := h.2.2.1
theorem RI.wan {v : Sto} {r T W : Nat} (h : RI v r T W) : ∀ k, k < W → ∃ n, n ≤ 20 ∧ v (r + 6) k = nI n := h.2.2.2
/-- the log of the town t beside the model's -/
def LGt (v : Sto) (t : Nat) (g : Nat → Int32) : Prop := ∀ k, k < ix (v t 7) → g (760 + 4 * k) = lg_weekOf (v (t + 6) ((ix (v t 6) + 79 - k) % 80)) ∧ g (761 + 4 * k) = lg_roomIn (v (t + 6) ((ix (v t 6) + 79 - k) % 80)) ∧ g (762 + 4 * k) = lg_whoOf (v (t + 6) ((ix (v t 6) + 79 - k) % 80)) ∧ g (763 + 4 * k) = lg_howOf (v (t + 6) ((ix (v t 6) + 79 - k) % 80))
theorem TI.lvn {v : Sto} {t r T : Nat} (h : TI v t r T) {m : Nat} (hm : m < 168) : lvT v t m = -1 ↔ v (t + 1) m = -1 := by
  unfold lvT
  by_cases e : v (t + 2) m = -1
  · rw [if_pos e]
  · rw [if_neg e]
    rcases h.sub m hm with q | ⟨q, _⟩
    · exact absurd q e
    · exact ⟨fun z => absurd z e, fun z => absurd z q⟩
theorem TI.sbl {v : Sto} {t r T : Nat} (h : TI v t r T) {m : Nat} (hm : m < 168) : lvT v t m = v (t + 1) m ↔ v (t + 2) m = -1 := by
  unfold lvT
  by_cases e : v (t + 2) m = -1
  · rw [if_pos e]; exact ⟨fun _ => e, fun _ => rfl⟩
  · rw [if_neg e]
    rcases h.sub m hm with q | ⟨_, q, _⟩
    · exact absurd q e
    · exact ⟨fun z => absurd z q, fun z => absurd z e⟩
theorem TI.liv {v : Sto} {t r T : Nat} (h : TI v t r T) {m : Nat} (hm : m < 168) : lvT v t m = -1 ∨ ∃ a, a < T ∧ lvT v t m = nI a ∧ v (r + 3) a = -1 := by
  unfold lvT
  by_cases e : v (t + 2) m = -1
  · rw [if_pos e]; exact h.own m hm
  · rw [if_neg e]
    rcases h.sub m hm with q | ⟨_, _, q⟩
    · exact absurd q e
    · exact Or.inr q
theorem smI_z {f : Nat → Int32} {n : Nat} : ∀ {m : Nat}, (∀ k, n ≤ k → k < n + m → f k = 0) → smI f (n + m) = smI f n
  | 0, _ => rfl
  | m + 1, h => by
    show smI f (n + m) + f (n + m) = _
    rw [smI_z (fun k h1 h2 => h k h1 (by omega)), h (n + m) (by omega) (by omega)]
    exact Int32.add_zero _
theorem ix760 {k w : Nat} (hk : k < 400) (hw : w < 100) : nI 760 + nI 4 * nI k + nI w = nI (760 + 4 * k + w) := by rw [nI_mul, nI_add, nI_add]
theorem okL {x : Int32} {lc : Nat} (h : lc ≤ 80) : okN x (nI 0) (nI lc - nI 1) ↔ (¬ x < 0 ∧ x < nI lc) := by
  have e0 : (nI 0 : Int32) = 0 := by decide
  unfold okN
  rw [e0]
  have h1 : (nI lc - nI 1).toInt = (lc : Int) - 1 := by
    rw [Int32.toInt_sub, nI_toInt (by omega), nI_toInt (by omega), Int.bmod_eq_of_le (by omega) (by omega)]; omega
  constructor
  · intro ⟨a, b⟩
    have := Int32.le_iff_toInt_le.mp b
    exact ⟨a, Int32.lt_iff_toInt_lt.mpr (by rw [nI_toInt (by omega)]; omega)⟩
  · intro ⟨a, b⟩
    have := Int32.lt_iff_toInt_lt.mp b
    rw [nI_toInt (by omega)] at this
    exact ⟨a, Int32.le_iff_toInt_le.mpr (by omega)⟩
theorem lg_of {v : Sto} {g : Nat → Int32} {k w : Nat} (h : LGt v 3 g) (hk : k < ix (v 3 7)) (hw : w < 4) : logV v k (nI w) = g (760 + 4 * k + w) := by
  obtain ⟨h0, h1, h2, h3⟩ := h k hk
  have : w = 0 ∨ w = 1 ∨ w = 2 ∨ w = 3 := by omega
  rcases this with rfl | rfl | rfl | rfl
  · rw [logV, if_pos rfl]; exact h0.symm
  · rw [logV, if_neg (by decide), if_pos rfl, show 760 + 4 * k + 1 = 761 + 4 * k by omega]; exact h1.symm
  · rw [logV, if_neg (by decide), if_neg (by decide), if_pos rfl, show 760 + 4 * k + 2 = 762 + 4 * k by omega]; exact h2.symm
  · rw [logV, if_neg (by decide), if_neg (by decide), if_neg (by decide), show 760 + 4 * k + 3 = 763 + 4 * k by omega]; exact h3.symm
set_option maxHeartbeats 1000000 in
theorem c_X11_roomOf {E : EE} (v : Sto) (T W : Nat) (x b z : Int32) (u : Sto) (hK : LK v u T W) : CtP E 35 0 yX11_roomOf cX11_roomOf 6 (some .int) [.ref (E.ad 178), .int x, .int b, .int z] u (PMr (cdL [ioob]) (rofR v x b z).1 u) := by
  refine ctp_of (by decide) (Nat.le_of_ble_eq_true rfl) (fun X h hR hrt htab hargs => ?_)
  refine g_aload_n h dX11_roomOf_0 rfl rfl ?_
  refine g_aload_n h dX11_roomOf_1 rfl rfl ?_
  refine g_iload_n h dX11_roomOf_2 rfl rfl ?_
  refine g_V h lv_X11_277_X11 sh_178 (by decide) rfl (c_X11_isTenant x v T W u hK.r) (fitR hR (by first | decide | omega) (by decide) (by omega)) rfl rfl (Nat.le_of_ble_eq_true rfl) dX11_roomOf_3 ?_
  by_cases n3 : okT v x
  · refine g_top (b2_t n3) ?_
    obtain ⟨a, ha, ha9, ia, rfl⟩ := okT_n hK.hT hK.r.vt n3
    refine g_if_ne (tgt := 13) h dX11_roomOf_6 (by decide) (fun _ => ?_) (fun q => absurd q (by decide))
    refine g_iconst (v := nI 0) h dX11_roomOf_13 (by decide) ?_
    refine g_putI h pfl_X11_69_10 sh_178 (by decide) rfl dX11_roomOf_14 ?_
    refine g_aload_n h dX11_roomOf_17 rfl rfl ?_
    refine g_getI h fl_X11_69_10 sh_178 (by decide) rfl dX11_roomOf_18 ?_
    refine g_top su_k ?_
    refine g_if_le (tgt := 26) h dX11_roomOf_21 (by decide) (fun _ => ?_) (fun q => absurd q (by decide))
    refine g_iload_n h dX11_roomOf_26 rfl rfl ?_
    refine g_istore (ls' := [(0, _), (1, _), (2, _), (3, _), (4, _)]) h dX11_roomOf_27 (by decide) rfl rfl ?_
    refine g_iconst (v := nI 0) h dX11_roomOf_29 (by decide) ?_
    refine g_istore (ls' := [(0, _), (1, _), (2, _), (3, _), (4, _), (5, _)]) h dX11_roomOf_30 (by decide) rfl rfl ?_
    have LP : ∀ j k : Nat, ∀ l : Int32, fndI (fun r => decide ((if z = 0 then v 4 r else lvT v 3 r) = (if z = 0 then nI a else hmI v a))) 168 0 b = fndI (fun r => decide ((if z = 0 then v 4 r else lvT v 3 r) = (if z = 0 then nI a else hmI v a))) (168 - k) k l → 168 < k + j → k ≤ 168 → G E X (QMP E X (PMr (cdL [ioob]) (rofR v (nI a) b z).1 u) 0) 6 0 32 [(0, .ref (E.ad 178)), (1, .int (nI a)), (2, .int b), (3, .int z), (4, .int l), (5, .int (nI k))] [] ((su u 178 0 (nI 0))) := by
      intro j
      induction j with
      | zero => intro k l hf h1 h2; omega
      | succ j ih =>
        intro k l hf h1 h2
        refine g_iload h dX11_roomOf_32 rfl ?_
        refine g_sipush (v := nI 168) h dX11_roomOf_34 (by decide) ?_
        refine g_icmp_ge (tgt := 96) h dX11_roomOf_37 (by decide) (fun c37 => ?_) (fun c37 => ?_)
        · have n37 := le_n (by omega) (by omega) (show nI (168) ≤ nI (k) from c37)
          obtain rfl : k = 168 := by omega
          rw [fnd_e] at hf
          refine g_iconst (v := -1) h dX11_roomOf_96 (by decide) ?_
          exact g_iretP h hrt dX11_roomOf_97 (by omega) (pm_v (by rw [rofR, if_pos n3]) (by rw [ia, rofV, hf]) (sim.refl _))
        · have n37 := nle_n (by omega) (by omega) (show ¬ nI (168) ≤ nI (k) from c37)
          rw [fnd_s (by omega)] at hf
          refine g_iload h dX11_roomOf_40 rfl ?_
          refine g_if_lt (tgt := 96) h dX11_roomOf_42 (by decide) (fun c42 => ?_) (fun c42 => ?_)
          · rw [if_pos c42] at hf
            refine g_iconst (v := -1) h dX11_roomOf_96 (by decide) ?_
            exact g_iretP h hrt dX11_roomOf_97 (by omega) (pm_v (by rw [rofR, if_pos n3]) (by rw [ia, rofV, hf]) (sim.refl _))
          · rw [if_neg c42] at hf
            refine g_aload_n h dX11_roomOf_45 rfl rfl ?_
            refine g_iload h dX11_roomOf_46 rfl ?_
            refine g_iload_n h dX11_roomOf_48 rfl rfl ?_
            refine g_if_eq (tgt := 56) h dX11_roomOf_49 (by decide) (fun c49 => ?_) (fun c49 => ?_)
            · refine g_iconst (v := nI 0) h dX11_roomOf_56 (by decide) ?_
              refine g_V h lv_X11_84_X11 sh_178 (by decide) rfl (c_X11_ofRoom k 0 (by omega) (by decide) _) (fitR hR (by first | decide | omega) (by decide) (by omega)) rfl rfl (Nat.le_of_ble_eq_true rfl) dX11_roomOf_57 ?_
              refine g_top (hK.th.own (by omega)) ?_
              refine g_iload_n h dX11_roomOf_60 rfl rfl ?_
              refine g_if_eq (tgt := 72) h dX11_roomOf_61 (by decide) (fun c61 => ?_) (fun c61 => ?_)
              · refine g_iload_n h dX11_roomOf_72 rfl rfl ?_
                refine g_icmp_eq (tgt := 79) h dX11_roomOf_73 (by decide) (fun c73 => ?_) (fun c73 => ?_)
                · rw [if_pos (decide_eq_true (by first | (rw [if_pos c49, if_pos c49]; exact c73) | (rw [if_neg c49, if_neg c49]; exact c73)))] at hf
                  refine g_iload h dX11_roomOf_79 rfl ?_
                  refine g_if_ne (tgt := 87) h dX11_roomOf_81 (by decide) (fun c81 => ?_) (fun c81 => ?_)
                  · rw [if_neg c81] at hf
                    refine g_iinc (ls' := [(0, _), (1, _), (2, _), (3, _), (4, _), (5, _)]) h dX11_roomOf_87 rfl rfl (by decide) rfl rfl ?_
                    refine g_iinc (v := nI (k + 1)) (ls' := [(0, _), (1, _), (2, _), (3, _), (4, _), (5, _)]) h dX11_roomOf_90 rfl (nI_1 k) (by decide) rfl rfl ?_
                    refine g_goto (tgt := 32) h dX11_roomOf_93 (by decide) ?_
                    exact ih (k + 1) _ hf (by omega) (by omega)
                  · rw [if_pos c81] at hf
                    refine g_iload h dX11_roomOf_84 rfl ?_
                    exact g_iretP h hrt dX11_roomOf_86 (by omega) (pm_v (by rw [rofR, if_pos n3]) (by rw [ia, rofV, hf]) (sim.refl _))
                · rw [if_neg (show ¬ decide ((if z = 0 then v 4 k else lvT v 3 k) = (if z = 0 then nI a else hmI v a)) = true from fun q => c73 (by have q2 := of_decide_eq_true q; first | (rw [if_pos c49, if_pos c49] at q2; exact q2) | (rw [if_neg c49, if_neg c49] at q2; exact q2)))] at hf
                  refine g_goto (tgt := 90) h dX11_roomOf_76 (by decide) ?_
                  refine g_iinc (v := nI (k + 1)) (ls' := [(0, _), (1, _), (2, _), (3, _), (4, _), (5, _)]) h dX11_roomOf_90 rfl (nI_1 k) (by decide) rfl rfl ?_
                  refine g_goto (tgt := 32) h dX11_roomOf_93 (by decide) ?_
                  exact ih (k + 1) _ hf (by omega) (by omega)
              · exact absurd c49 c61
            · refine g_iconst (v := nI 1) h dX11_roomOf_52 (by decide) ?_
              refine g_goto (tgt := 57) h dX11_roomOf_53 (by decide) ?_
              refine g_V h lv_X11_84_X11 sh_178 (by decide) rfl (c_X11_ofRoom k 1 (by omega) (by decide) _) (fitR hR (by first | decide | omega) (by decide) (by omega)) rfl rfl (Nat.le_of_ble_eq_true rfl) dX11_roomOf_57 ?_
              refine g_top (hK.th.liv (by omega)) ?_
              refine g_iload_n h dX11_roomOf_60 rfl rfl ?_
              refine g_if_eq (tgt := 72) h dX11_roomOf_61 (by decide) (fun c61 => ?_) (fun c61 => ?_)
              · exact absurd c61 c49
              · refine g_aload_n h dX11_roomOf_64 rfl rfl ?_
                refine g_iload_n h dX11_roomOf_65 rfl rfl ?_
                refine g_V h lv_X11_87_X11 sh_178 (by decide) rfl (c_X11_adult a v T W ha _ hK.th.r) (fitR hR (by first | decide | omega) (by decide) (by omega)) rfl rfl (Nat.le_of_ble_eq_true rfl) dX11_roomOf_66 ?_
                refine g_goto (tgt := 73) h dX11_roomOf_69 (by decide) ?_
                refine g_icmp_eq (tgt := 79) h dX11_roomOf_73 (by decide) (fun c73 => ?_) (fun c73 => ?_)
                · rw [if_pos (decide_eq_true (by first | (rw [if_pos c49, if_pos c49]; exact c73) | (rw [if_neg c49, if_neg c49]; exact c73)))] at hf
                  refine g_iload h dX11_roomOf_79 rfl ?_
                  refine g_if_ne (tgt := 87) h dX11_roomOf_81 (by decide) (fun c81 => ?_) (fun c81 => ?_)
                  · rw [if_neg c81] at hf
                    refine g_iinc (ls' := [(0, _), (1, _), (2, _), (3, _), (4, _), (5, _)]) h dX11_roomOf_87 rfl rfl (by decide) rfl rfl ?_
                    refine g_iinc (v := nI (k + 1)) (ls' := [(0, _), (1, _), (2, _), (3, _), (4, _), (5, _)]) h dX11_roomOf_90 rfl (nI_1 k) (by decide) rfl rfl ?_
                    refine g_goto (tgt := 32) h dX11_roomOf_93 (by decide) ?_
                    exact ih (k + 1) _ hf (by omega) (by omega)
                  · rw [if_pos c81] at hf
                    refine g_iload h dX11_roomOf_84 rfl ?_
                    exact g_iretP h hrt dX11_roomOf_86 (by omega) (pm_v (by rw [rofR, if_pos n3]) (by rw [ia, rofV, hf]) (sim.refl _))
                · rw [if_neg (show ¬ decide ((if z = 0 then v 4 k else lvT v 3 k) = (if z = 0 then nI a else hmI v a)) = true from fun q => c73 (by have q2 := of_decide_eq_true q; first | (rw [if_pos c49, if_pos c49] at q2; exact q2) | (rw [if_neg c49, if_neg c49] at q2; exact q2)))] at hf
                  refine g_goto (tgt := 90) h dX11_roomOf_76 (by decide) ?_
                  refine g_iinc (v := nI (k + 1)) (ls' := [(0, _), (1, _), (2, _), (3, _), (4, _), (5, _)]) h dX11_roomOf_90 rfl (nI_1 k) (by decide) rfl rfl ?_
                  refine g_goto (tgt := 32) h dX11_roomOf_93 (by decide) ?_
                  exact ih (k + 1) _ hf (by omega) (by omega)
    exact LP (168 + 1) (0) b rfl (by omega) (by omega)
    
  · refine g_top (b2_f n3) ?_
    refine g_if_ne (tgt := 13) h dX11_roomOf_6 (by decide) (fun q => absurd q (by decide)) (fun _ => ?_)
    refine g_iconst (v := nI 1) h dX11_roomOf_9 (by decide) ?_
    refine g_goto (tgt := 14) h dX11_roomOf_10 (by decide) ?_
    refine g_putI h pfl_X11_69_10 sh_178 (by decide) rfl dX11_roomOf_14 ?_
    refine g_aload_n h dX11_roomOf_17 rfl rfl ?_
    refine g_getI h fl_X11_69_10 sh_178 (by decide) rfl dX11_roomOf_18 ?_
    refine g_top su_k ?_
    refine g_if_le (tgt := 26) h dX11_roomOf_21 (by decide) (fun q => absurd q (by decide)) (fun _ => ?_)
    refine g_iconst (v := nI 0) h dX11_roomOf_24 (by decide) ?_
    exact g_iretP h hrt dX11_roomOf_25 (by omega) (by first | exact pm_x (Ex := ioob) (by rw [rofR, if_neg n3]) (by decide) (sim.refl _))
set_option maxHeartbeats 1000000 in
theorem c_X11_log {E : EE} (v : Sto) (T W : Nat) (x y : Int32) (u : Sto) (hK : LK v u T W) (hI : TI v 3 10 T) (hG : LGt v 3 (u 179)) : CtP E 35 0 yX11_log cX11_log 3 (some .int) [.ref (E.ad 178), .int x, .int y] u (PMr (cdL [nsee]) (logR v x y).1 u) := by
  obtain ⟨lc, hlc, hl7⟩ := hI.lc
  have el : ix (v 3 7) = lc := by rw [hl7]; exact ix_nI (by omega)
  refine ctp_of (by decide) (Nat.le_of_ble_eq_true rfl) (fun X h hR hrt htab hargs => ?_)
  refine g_aload_n h dX11_log_0 rfl rfl ?_
  refine g_iload_n h dX11_log_1 rfl rfl ?_
  refine g_iconst (v := nI 0) h dX11_log_2 (by decide) ?_
  refine g_iconst (v := nI 3) h dX11_log_3 (by decide) ?_
  refine g_S h ls_X11_72 (c_X11_isIn y (nI 0) (nI 3) u) (fitR hR (by first | decide | omega) (by decide) (by omega)) rfl rfl (Nat.le_of_ble_eq_true rfl) dX11_log_4 ?_
  by_cases n4 : okN y (nI 0) (nI 3)
  · refine g_top (b2_t n4) ?_
    obtain ⟨w, hw0, hw1, iw, rfl⟩ := okN_k (by decide) n4
    refine g_if_ne (tgt := 14) h dX11_log_7 (by decide) (fun _ => ?_) (fun q => absurd q (by decide))
    refine g_iconst (v := nI 0) h dX11_log_14 (by decide) ?_
    refine g_putI h pfl_X11_69_10 sh_178 (by decide) rfl dX11_log_15 ?_
    refine g_aload_n h dX11_log_18 rfl rfl ?_
    refine g_getI h fl_X11_69_10 sh_178 (by decide) rfl dX11_log_19 ?_
    refine g_top su_k ?_
    refine g_if_le (tgt := 27) h dX11_log_22 (by decide) (fun _ => ?_) (fun q => absurd q (by decide))
    refine g_iload_n h dX11_log_27 rfl rfl ?_
    refine g_iconst (v := nI 0) h dX11_log_28 (by decide) ?_
    refine g_aload_n h dX11_log_29 rfl rfl ?_
    refine g_getR h fl_X11_7_10 sh_178 (by decide) rfl dX11_log_30 ?_
    refine g_bipush (v := nI 10) h dX11_log_33 (by decide) ?_
    refine g_iald h _ _ _ sh_179 (by decide) (by decide) rfl (by omega) dX11_log_35 ?_
    refine g_top (y := nI lc) ((congrFun (su_cell _ _ (by decide)) _).trans (hK.t.lgs.trans hl7)) ?_
    refine g_iconst (v := nI 1) h dX11_log_36 (by decide) ?_
    refine g_isub h dX11_log_37 ?_
    refine g_S h ls_X11_72 (c_X11_isIn x (nI 0) (nI lc - nI 1) _) (fitR hR (by first | decide | omega) (by decide) (by omega)) rfl rfl (Nat.le_of_ble_eq_true rfl) dX11_log_38 ?_
    by_cases n38 : okN x (nI 0) (nI lc - nI 1)
    · refine g_top (b2_t n38) ?_
      have q38 := (okL hlc).mp n38
      obtain ⟨k, hk4, rfl⟩ := nI_ge0 (Int32.not_lt.mp q38.1)
      have hk := lt_n (by omega) (by omega) q38.2
      have ek : ix (nI k) = k := ix_nI (by omega)
      refine g_if_eq (tgt := 61) h dX11_log_41 (by decide) (fun q => absurd q (by decide)) (fun _ => ?_)
      refine g_aload_n h dX11_log_44 rfl rfl ?_
      refine g_getR h fl_X11_7_10 sh_178 (by decide) rfl dX11_log_45 ?_
      refine g_sipush (v := nI 760) h dX11_log_48 (by decide) ?_
      refine g_iconst (v := nI 4) h dX11_log_51 (by decide) ?_
      refine g_iload_n h dX11_log_52 rfl rfl ?_
      refine g_imul h dX11_log_53 ?_
      refine g_iadd h dX11_log_54 ?_
      refine g_iload_n h dX11_log_55 rfl rfl ?_
      refine g_iadd h dX11_log_56 ?_
      refine g_top (ix760 (by omega) (by omega)) ?_
      refine g_iald h _ _ _ sh_179 (by decide) (by decide) rfl (by omega) dX11_log_57 ?_
      refine g_goto (tgt := 62) h dX11_log_58 (by decide) ?_
      exact g_iretP h hrt dX11_log_62 (by omega) (pm_v (by rw [logR, if_pos n4, if_pos (show ¬ nI k < 0 ∧ nI k < v 3 7 by rw [hl7]; exact q38)]) (by rw [ek]; exact (lg_of hG (by omega) (by omega)).trans (congrFun (su_cell _ _ (by decide)) _).symm) (sim.refl _))
    · refine g_top (b2_f n38) ?_
      refine g_if_eq (tgt := 61) h dX11_log_41 (by decide) (fun _ => ?_) (fun q => absurd q (by decide))
      refine g_iconst (v := -1) h dX11_log_61 (by decide) ?_
      exact g_iretP h hrt dX11_log_62 (by omega) (pm_v (by rw [logR, if_pos n4, if_neg (show ¬ (¬ x < 0 ∧ x < v 3 7) by rw [hl7]; exact fun q => n38 ((okL hlc).mpr q))]) rfl (sim.refl _))
  · refine g_top (b2_f n4) ?_
    refine g_if_ne (tgt := 14) h dX11_log_7 (by decide) (fun q => absurd q (by decide)) (fun _ => ?_)
    refine g_iconst (v := nI 1) h dX11_log_10 (by decide) ?_
    refine g_goto (tgt := 15) h dX11_log_11 (by decide) ?_
    refine g_putI h pfl_X11_69_10 sh_178 (by decide) rfl dX11_log_15 ?_
    refine g_aload_n h dX11_log_18 rfl rfl ?_
    refine g_getI h fl_X11_69_10 sh_178 (by decide) rfl dX11_log_19 ?_
    refine g_top su_k ?_
    refine g_if_le (tgt := 27) h dX11_log_22 (by decide) (fun q => absurd q (by decide)) (fun _ => ?_)
    refine g_iconst (v := nI 0) h dX11_log_25 (by decide) ?_
    exact g_iretP h hrt dX11_log_26 (by omega) (by first | exact pm_x (Ex := nsee) (by rw [logR, if_neg n4]) (by decide) (sim.refl _))
set_option maxHeartbeats 1000000 in
theorem c_X11_led {E : EE} (v : Sto) (T W : Nat) (y b : Int32) (u : Sto) (hK : LK v u T W) (hI : TI v 3 10 T) (hG : LGt v 3 (u 179)) : CtP E 35 0 yX11_led cX11_led 5 (some .int) [.ref (E.ad 178), .int y, .int b] u (PMr (cdL [ioob, iae]) (ledR v y b).1 u) := by
  obtain ⟨lc, hlc, hl7⟩ := hI.lc
  have el : ix (v 3 7) = lc := by rw [hl7]; exact ix_nI (by omega)
  refine ctp_of (by decide) (Nat.le_of_ble_eq_true rfl) (fun X h hR hrt htab hargs => ?_)
  refine g_aload_n h dX11_led_0 rfl rfl ?_
  refine g_iload_n h dX11_led_1 rfl rfl ?_
  refine g_S h ls_X11_289 (c_X11_isRoom y u) (fitR hR (by first | decide | omega) (by decide) (by omega)) rfl rfl (Nat.le_of_ble_eq_true rfl) dX11_led_2 ?_
  by_cases n2 : okR y
  · refine g_top (b2_t n2) ?_
    obtain ⟨r, hr, ir, rfl⟩ := okR_n n2
    refine g_if_ne (tgt := 12) h dX11_led_5 (by decide) (fun _ => ?_) (fun q => absurd q (by decide))
    refine g_iload_n h dX11_led_12 rfl rfl ?_
    refine g_if_ge (tgt := 20) h dX11_led_13 (by decide) (fun c13 => ?_) (fun c13 => ?_)
    · refine g_iconst (v := nI 0) h dX11_led_20 (by decide) ?_
      refine g_putI h pfl_X11_69_10 sh_178 (by decide) rfl dX11_led_21 ?_
      refine g_aload_n h dX11_led_24 rfl rfl ?_
      refine g_getI h fl_X11_69_10 sh_178 (by decide) rfl dX11_led_25 ?_
      refine g_top su_k ?_
      refine g_if_le (tgt := 33) h dX11_led_28 (by decide) (fun _ => ?_) (fun q => absurd q (by decide))
      refine g_iload_n h dX11_led_33 rfl rfl ?_
      refine g_istore_n (ls' := [(0, _), (1, _), (2, _), (3, _)]) h dX11_led_34 rfl (by decide) rfl rfl ?_
      refine g_iconst (v := nI 0) h dX11_led_35 (by decide) ?_
      refine g_istore (ls' := [(0, _), (1, _), (2, _), (3, _), (4, _)]) h dX11_led_36 (by decide) rfl rfl ?_
      have LP : ∀ j k : Nat, ∀ l : Int32, ledF (fun g => decide (lg_roomIn (lgE2 v g) = nI r)) (fun g => lg_whoOf (lgE2 v g)) lc 0 b = ledF (fun g => decide (lg_roomIn (lgE2 v g) = nI r)) (fun g => lg_whoOf (lgE2 v g)) (lc - k) k l → lc < k + j → k ≤ lc → G E X (QMP E X (PMr (cdL [ioob, iae]) (ledR v (nI r) b).1 u) 0) 5 0 38 [(0, .ref (E.ad 178)), (1, .int (nI r)), (2, .int b), (3, .int l), (4, .int (nI k))] [] ((su u 178 0 (nI 0))) := by
        intro j
        induction j with
        | zero => intro k l hf h1 h2; omega
        | succ j ih =>
          intro k l hf h1 h2
          refine g_iload h dX11_led_38 rfl ?_
          refine g_aload_n h dX11_led_40 rfl rfl ?_
          refine g_getR h fl_X11_7_10 sh_178 (by decide) rfl dX11_led_41 ?_
          refine g_bipush (v := nI 10) h dX11_led_44 (by decide) ?_
          refine g_iald h _ _ _ sh_179 (by decide) (by decide) rfl (by omega) dX11_led_46 ?_
          refine g_top (y := nI lc) ((congrFun (su_cell _ _ (by decide)) _).trans (hK.t.lgs.trans hl7)) ?_
          refine g_icmp_ge (tgt := 101) h dX11_led_47 (by decide) (fun c47 => ?_) (fun c47 => ?_)
          · have n47 := le_n (by omega) (by omega) (show nI (lc) ≤ nI (k) from c47)
            obtain rfl : k = lc := by omega
            rw [led_e] at hf
            refine g_iconst (v := -1) h dX11_led_101 (by decide) ?_
            exact g_iretP h hrt dX11_led_102 (by omega) (pm_v (by rw [ledR, if_pos n2, if_pos (Int32.not_lt.mpr c13)]) (by rw [ledV, el, hf]) (sim.refl _))
          · have n47 := nle_n (by omega) (by omega) (show ¬ nI (lc) ≤ nI (k) from c47)
            rw [led_s (by omega)] at hf
            refine g_aload_n h dX11_led_50 rfl rfl ?_
            refine g_getR h fl_X11_7_10 sh_178 (by decide) rfl dX11_led_51 ?_
            refine g_sipush (v := nI 760) h dX11_led_54 (by decide) ?_
            refine g_iconst (v := nI 4) h dX11_led_57 (by decide) ?_
            refine g_iload h dX11_led_58 rfl ?_
            refine g_imul h dX11_led_60 ?_
            refine g_iadd h dX11_led_61 ?_
            refine g_iconst (v := nI 1) h dX11_led_62 (by decide) ?_
            refine g_iadd h dX11_led_63 ?_
            refine g_top (ix760 (w := 1) (by omega) (by omega)) ?_
            refine g_iald h _ _ _ sh_179 (by decide) (by decide) rfl (by omega) dX11_led_64 ?_
            refine g_top (y := lg_roomIn (lgE2 v k)) ((congrFun (su_cell _ _ (by decide)) _).trans ((congrArg (u 179) (show 760 + 4 * k + 1 = 761 + 4 * k by omega)).trans (hG k (by omega)).2.1)) ?_
            refine g_iload_n h dX11_led_65 rfl rfl ?_
            refine g_icmp_eq (tgt := 72) h dX11_led_66 (by decide) (fun c66 => ?_) (fun c66 => ?_)
            · rw [if_pos (decide_eq_true c66)] at hf
              refine g_iload_n h dX11_led_72 rfl rfl ?_
              refine g_if_ne (tgt := 92) h dX11_led_73 (by decide) (fun c73 => ?_) (fun c73 => ?_)
              · rw [if_neg c73] at hf
                refine g_iinc (ls' := [(0, _), (1, _), (2, _), (3, _), (4, _)]) h dX11_led_92 rfl rfl (by decide) rfl rfl ?_
                refine g_iinc (v := nI (k + 1)) (ls' := [(0, _), (1, _), (2, _), (3, _), (4, _)]) h dX11_led_95 rfl (nI_1 k) (by decide) rfl rfl ?_
                refine g_goto (tgt := 38) h dX11_led_98 (by decide) ?_
                exact ih (k + 1) _ hf (by omega) (by omega)
              · rw [if_pos c73] at hf
                refine g_aload_n h dX11_led_76 rfl rfl ?_
                refine g_getR h fl_X11_7_10 sh_178 (by decide) rfl dX11_led_77 ?_
                refine g_sipush (v := nI 760) h dX11_led_80 (by decide) ?_
                refine g_iconst (v := nI 4) h dX11_led_83 (by decide) ?_
                refine g_iload h dX11_led_84 rfl ?_
                refine g_imul h dX11_led_86 ?_
                refine g_iadd h dX11_led_87 ?_
                refine g_iconst (v := nI 2) h dX11_led_88 (by decide) ?_
                refine g_iadd h dX11_led_89 ?_
                refine g_top (ix760 (w := 2) (by omega) (by omega)) ?_
                refine g_iald h _ _ _ sh_179 (by decide) (by decide) rfl (by omega) dX11_led_90 ?_
                refine g_top (y := lg_whoOf (lgE2 v k)) ((congrFun (su_cell _ _ (by decide)) _).trans ((congrArg (u 179) (show 760 + 4 * k + 2 = 762 + 4 * k by omega)).trans (hG k (by omega)).2.2.1)) ?_
                exact g_iretP h hrt dX11_led_91 (by omega) (pm_v (by rw [ledR, if_pos n2, if_pos (Int32.not_lt.mpr c13)]) (by rw [ledV, el, hf]) (sim.refl _))
            · rw [if_neg (fun q => c66 (of_decide_eq_true q))] at hf
              refine g_goto (tgt := 95) h dX11_led_69 (by decide) ?_
              refine g_iinc (v := nI (k + 1)) (ls' := [(0, _), (1, _), (2, _), (3, _), (4, _)]) h dX11_led_95 rfl (nI_1 k) (by decide) rfl rfl ?_
              refine g_goto (tgt := 38) h dX11_led_98 (by decide) ?_
              exact ih (k + 1) _ hf (by omega) (by omega)
      exact LP (lc + 1) (0) b rfl (by omega) (by omega)
      
    · refine g_iconst (v := nI 2) h dX11_led_16 (by decide) ?_
      refine g_goto (tgt := 21) h dX11_led_17 (by decide) ?_
      refine g_putI h pfl_X11_69_10 sh_178 (by decide) rfl dX11_led_21 ?_
      refine g_aload_n h dX11_led_24 rfl rfl ?_
      refine g_getI h fl_X11_69_10 sh_178 (by decide) rfl dX11_led_25 ?_
      refine g_top su_k ?_
      refine g_if_le (tgt := 33) h dX11_led_28 (by decide) (fun q => absurd q (by decide)) (fun _ => ?_)
      refine g_iconst (v := nI 0) h dX11_led_31 (by decide) ?_
      exact g_iretP h hrt dX11_led_32 (by omega) (by first | exact pm_x (Ex := ioob) (by rw [ledR, if_pos n2, if_neg (fun z => z (Int32.not_le.mp c13))]) (by decide) (sim.refl _) | exact pm_x (Ex := iae) (by rw [ledR, if_pos n2, if_neg (fun z => z (Int32.not_le.mp c13))]) (by decide) (sim.refl _))
  · refine g_top (b2_f n2) ?_
    refine g_if_ne (tgt := 12) h dX11_led_5 (by decide) (fun q => absurd q (by decide)) (fun _ => ?_)
    refine g_iconst (v := nI 1) h dX11_led_8 (by decide) ?_
    refine g_goto (tgt := 21) h dX11_led_9 (by decide) ?_
    refine g_putI h pfl_X11_69_10 sh_178 (by decide) rfl dX11_led_21 ?_
    refine g_aload_n h dX11_led_24 rfl rfl ?_
    refine g_getI h fl_X11_69_10 sh_178 (by decide) rfl dX11_led_25 ?_
    refine g_top su_k ?_
    refine g_if_le (tgt := 33) h dX11_led_28 (by decide) (fun q => absurd q (by decide)) (fun _ => ?_)
    refine g_iconst (v := nI 0) h dX11_led_31 (by decide) ?_
    exact g_iretP h hrt dX11_led_32 (by omega) (by first | exact pm_x (Ex := ioob) (by rw [ledR, if_neg n2]) (by decide) (sim.refl _) | exact pm_x (Ex := iae) (by rw [ledR, if_neg n2]) (by decide) (sim.refl _))
set_option maxHeartbeats 1000000 in
theorem c_X11_coinsNow {E : EE} (v : Sto) (T W : Nat) (u : Sto) (hK : LK v u T W) (hI : TI v 3 10 T) : Ct E 2 0 yX11_coinsNow cX11_coinsNow 3 (some .int) [.ref (E.ad 178)] u (.inl (some (.int (smI (v 7) 10)))) (u) := by
  have hT := hK.hT
  refine ct_of (by decide) (Nat.le_of_ble_eq_true rfl) (fun X h hR hrt htab hargs hini => ?_)
  have LP : ∀ j k : Nat, T < k + j → k ≤ T → G E X (QM E X (.inl (some (.int (smI (v 7) 10)))) (u) 0) 3 0 4 [(0, .ref (E.ad 178)), (1, .int (smI (v 7) k)), (2, .int (nI k))] [] (u) := by
    intro j
    induction j with
    | zero => intro k h1 h2; omega
    | succ j ih =>
      intro k h1 h2
      refine g_iload_n h dX11_coinsNow_4 rfl rfl ?_
      refine g_aload_n h dX11_coinsNow_5 rfl rfl ?_
      refine g_getR h fl_X11_7_10 sh_178 (by decide) rfl dX11_coinsNow_6 ?_
      refine g_iconst (v := nI 1) h dX11_coinsNow_9 (by decide) ?_
      refine g_iald h _ _ _ sh_179 (by decide) (by decide) rfl (by omega) dX11_coinsNow_10 ?_
      refine g_top (y := nI T) hK.r.ten ?_
      refine g_icmp_ge (tgt := 29) h dX11_coinsNow_11 (by decide) (fun c11 => ?_) (fun c11 => ?_)
      · have n11 := le_n (by omega) (by omega) (show nI (T) ≤ nI (k) from c11)
        refine g_iload_n h dX11_coinsNow_29 rfl rfl ?_
        exact g_iret h hrt dX11_coinsNow_30 (by omega) (by rw [show k = T by omega, ← smI_z (f := v 7) (n := T) (m := 10 - T) (fun k h1 h2 => hI.zer k h1 (by omega)), show T + (10 - T) = 10 by omega]) rfl
      · have n11 := nle_n (by omega) (by omega) (show ¬ nI (T) ≤ nI (k) from c11)
        refine g_iload_n h dX11_coinsNow_14 rfl rfl ?_
        refine g_aload_n h dX11_coinsNow_15 rfl rfl ?_
        refine g_iload_n h dX11_coinsNow_16 rfl rfl ?_
        refine g_iconst (v := nI 0) h dX11_coinsNow_17 (by decide) ?_
        refine g_V h lv_X11_76_X11 sh_178 (by decide) rfl (c_X11_of k 0 (by omega) (by decide) u) (fitR hR (by first | decide | omega) (by decide) (by omega)) rfl rfl (Nat.le_of_ble_eq_true rfl) dX11_coinsNow_18 ?_
        refine g_top (hK.con (by omega)) ?_
        refine g_iadd h dX11_coinsNow_21 ?_
        refine g_istore_n (ls' := [(0, _), (1, _), (2, _)]) h dX11_coinsNow_22 rfl (by decide) rfl rfl ?_
        refine g_iinc (v := nI (k + 1)) (ls' := [(0, _), (1, _), (2, _)]) h dX11_coinsNow_23 rfl (nI_1 k) (by decide) rfl rfl ?_
        refine g_goto (tgt := 4) h dX11_coinsNow_26 (by decide) ?_
        exact g_cv rfl rfl (ih (k + 1) (by omega) (by omega))
  refine g_iconst (v := nI 0) h dX11_coinsNow_0 (by decide) ?_
  refine g_istore_n (ls' := [(0, _), (1, _)]) h dX11_coinsNow_1 rfl (by decide) rfl rfl ?_
  refine g_iconst (v := nI 0) h dX11_coinsNow_2 (by decide) ?_
  refine g_istore_n (ls' := [(0, _), (1, _), (2, _)]) h dX11_coinsNow_3 rfl (by decide) rfl rfl ?_
  exact LP (T + 1) (0) (by omega) (by omega)
def rnV (v : Sto) (y : Int32) (k : Nat) : Int32 := if y = nI 8 then b2 (v 4 k = -1) else if y = nI 9 then b2 (¬ v 5 k = -1) else if y = nI 10 then v 6 k else if y = nI 14 then v 14 k else 0
theorem ct_sm {p : Nat → Bool} : ∀ n, ctI p n = smI (fun k => b2 (p k = true)) n
  | 0 => rfl
  | n + 1 => by
    show (if p n = true then ctI p n + 1 else ctI p n) = smI _ n + b2 (p n = true)
    rw [ct_sm n]
    by_cases e : p n = true
    · rw [if_pos e, b2_t e]; rfl
    · rw [if_neg e, b2_f e]; exact (Int32.add_zero _).symm
theorem b2_iff' {p q : Prop} [Decidable p] [Decidable q] (h : p ↔ q) : b2 p = b2 q := by
  by_cases e : p
  · rw [b2_t e, b2_t (h.mp e)]
  · rw [b2_f e, b2_f (fun z => e (h.mpr z))]
theorem rn_8 {v : Sto} {r T : Nat} (h : TI v 3 r T) : smI (rnV v (nI 8)) 168 = lvI v (-1) := by
  rw [lvI, ct_sm]
  refine smI_cong (fun k hk => ?_)
  rw [rnV, if_pos rfl]
  exact b2_iff' ⟨fun q => decide_eq_true ((h.lvn hk).mpr q), fun q => (h.lvn hk).mp (of_decide_eq_true q)⟩
theorem rn_9 {v : Sto} : smI (rnV v (nI 9)) 168 = ctI (fun r => decide (¬ v 5 r = -1)) 168 := by
  rw [ct_sm]
  refine smI_cong (fun k hk => ?_)
  rw [rnV, if_neg (by decide), if_pos rfl]
  exact b2_iff' ⟨fun q => decide_eq_true q, fun q => of_decide_eq_true q⟩
theorem rn_10 {v : Sto} : smI (rnV v (nI 10)) 168 = smI (v 6) 168 := smI_cong (fun k hk => by rw [rnV, if_neg (by decide), if_neg (by decide), if_pos rfl])
theorem rn_14 {v : Sto} : smI (rnV v (nI 14)) 168 = smI (v 14) 168 := smI_cong (fun k hk => by rw [rnV, if_neg (by decide), if_neg (by decide), if_neg (by decide), if_pos rfl])
set_option maxHeartbeats 1000000 in
theorem c_X11_roomsNow_8 {E : EE} (v : Sto) (T W : Nat) (u : Sto) (hK : LK v u T W) (hI : TI v 3 10 T) : Ct E 3 0 yX11_roomsNow cX11_roomsNow 4 (some .int) [.ref (E.ad 178), .int (nI 8)] u (.inl (some (.int (smI (rnV v (nI 8)) 168)))) (u) := by
  refine ct_of (by decide) (Nat.le_of_ble_eq_true rfl) (fun X h hR hrt htab hargs hini => ?_)
  have LP : ∀ j k : Nat, 168 < k + j → k ≤ 168 → G E X (QM E X (.inl (some (.int (smI (rnV v (nI 8)) 168)))) (u) 0) 4 0 4 [(0, .ref (E.ad 178)), (1, .int (nI 8)), (2, .int (smI (rnV v (nI 8)) k)), (3, .int (nI k))] [] (u) := by
    intro j
    induction j with
    | zero => intro k h1 h2; omega
    | succ j ih =>
      intro k h1 h2
      refine g_iload_n h dX11_roomsNow_4 rfl rfl ?_
      refine g_sipush (v := nI 168) h dX11_roomsNow_5 (by decide) ?_
      refine g_icmp_ge (tgt := 93) h dX11_roomsNow_8 (by decide) (fun c8 => ?_) (fun c8 => ?_)
      · have n8 := le_n (by omega) (by omega) (show nI (168) ≤ nI (k) from c8)
        refine g_iload_n h dX11_roomsNow_93 rfl rfl ?_
        exact g_iret h hrt dX11_roomsNow_94 (by omega) (by rw [show k = 168 by omega]) rfl
      · have n8 := nle_n (by omega) (by omega) (show ¬ nI (168) ≤ nI (k) from c8)
        refine g_iload_n h dX11_roomsNow_11 rfl rfl ?_
        refine g_bipush (v := nI 8) h dX11_roomsNow_12 (by decide) ?_
        refine g_icmp_ne (tgt := 35) h dX11_roomsNow_14 (by decide) (fun c14 => ?_) (fun c14 => ?_)
        · exact absurd rfl c14
        · refine g_iload_n h dX11_roomsNow_17 rfl rfl ?_
          refine g_aload_n h dX11_roomsNow_18 rfl rfl ?_
          refine g_iload_n h dX11_roomsNow_19 rfl rfl ?_
          refine g_iconst (v := nI 0) h dX11_roomsNow_20 (by decide) ?_
          refine g_V h lv_X11_84_X11 sh_178 (by decide) rfl (c_X11_ofRoom k 0 (by omega) (by decide) u) (fitR hR (by first | decide | omega) (by decide) (by omega)) rfl rfl (Nat.le_of_ble_eq_true rfl) dX11_roomsNow_21 ?_
          refine g_top (hK.own (by omega)) ?_
          refine g_iconst (v := -1) h dX11_roomsNow_24 (by decide) ?_
          refine g_icmp_ne (tgt := 32) h dX11_roomsNow_25 (by decide) (fun c25 => ?_) (fun c25 => ?_)
          · refine g_iconst (v := nI 0) h dX11_roomsNow_32 (by decide) ?_
            refine g_iadd h dX11_roomsNow_33 ?_
            refine g_istore_n (ls' := [(0, _), (1, _), (2, _), (3, _)]) h dX11_roomsNow_34 rfl (by decide) rfl rfl ?_
            refine g_iload_n h dX11_roomsNow_35 rfl rfl ?_
            refine g_bipush (v := nI 9) h dX11_roomsNow_36 (by decide) ?_
            refine g_icmp_ne (tgt := 57) h dX11_roomsNow_38 (by decide) (fun c38 => ?_) (fun c38 => ?_)
            · refine g_iload_n h dX11_roomsNow_57 rfl rfl ?_
              refine g_bipush (v := nI 10) h dX11_roomsNow_58 (by decide) ?_
              refine g_icmp_ne (tgt := 72) h dX11_roomsNow_60 (by decide) (fun c60 => ?_) (fun c60 => ?_)
              · refine g_iload_n h dX11_roomsNow_72 rfl rfl ?_
                refine g_bipush (v := nI 14) h dX11_roomsNow_73 (by decide) ?_
                refine g_icmp_ne (tgt := 87) h dX11_roomsNow_75 (by decide) (fun c75 => ?_) (fun c75 => ?_)
                · refine g_iinc (v := nI (k + 1)) (ls' := [(0, _), (1, _), (2, _), (3, _)]) h dX11_roomsNow_87 rfl (nI_1 k) (by decide) rfl rfl ?_
                  refine g_goto (tgt := 4) h dX11_roomsNow_90 (by decide) ?_
                  exact g_cv (by rw [sm_s, rnV, if_pos rfl, b2_f c25]) rfl (ih (k + 1) (by omega) (by omega))
                · exact absurd c75 (by decide)
              · exact absurd c60 (by decide)
            · exact absurd c38 (by decide)
          · refine g_iconst (v := nI 1) h dX11_roomsNow_28 (by decide) ?_
            refine g_goto (tgt := 33) h dX11_roomsNow_29 (by decide) ?_
            refine g_iadd h dX11_roomsNow_33 ?_
            refine g_istore_n (ls' := [(0, _), (1, _), (2, _), (3, _)]) h dX11_roomsNow_34 rfl (by decide) rfl rfl ?_
            refine g_iload_n h dX11_roomsNow_35 rfl rfl ?_
            refine g_bipush (v := nI 9) h dX11_roomsNow_36 (by decide) ?_
            refine g_icmp_ne (tgt := 57) h dX11_roomsNow_38 (by decide) (fun c38 => ?_) (fun c38 => ?_)
            · refine g_iload_n h dX11_roomsNow_57 rfl rfl ?_
              refine g_bipush (v := nI 10) h dX11_roomsNow_58 (by decide) ?_
              refine g_icmp_ne (tgt := 72) h dX11_roomsNow_60 (by decide) (fun c60 => ?_) (fun c60 => ?_)
              · refine g_iload_n h dX11_roomsNow_72 rfl rfl ?_
                refine g_bipush (v := nI 14) h dX11_roomsNow_73 (by decide) ?_
                refine g_icmp_ne (tgt := 87) h dX11_roomsNow_75 (by decide) (fun c75 => ?_) (fun c75 => ?_)
                · refine g_iinc (v := nI (k + 1)) (ls' := [(0, _), (1, _), (2, _), (3, _)]) h dX11_roomsNow_87 rfl (nI_1 k) (by decide) rfl rfl ?_
                  refine g_goto (tgt := 4) h dX11_roomsNow_90 (by decide) ?_
                  exact g_cv (by rw [sm_s, rnV, if_pos rfl, b2_t c25]) rfl (ih (k + 1) (by omega) (by omega))
                · exact absurd c75 (by decide)
              · exact absurd c60 (by decide)
            · exact absurd c38 (by decide)
  refine g_iconst (v := nI 0) h dX11_roomsNow_0 (by decide) ?_
  refine g_istore_n (ls' := [(0, _), (1, _), (2, _)]) h dX11_roomsNow_1 rfl (by decide) rfl rfl ?_
  refine g_iconst (v := nI 0) h dX11_roomsNow_2 (by decide) ?_
  refine g_istore_n (ls' := [(0, _), (1, _), (2, _), (3, _)]) h dX11_roomsNow_3 rfl (by decide) rfl rfl ?_
  exact LP (168 + 1) (0) (by omega) (by omega)
set_option maxHeartbeats 1000000 in
theorem c_X11_roomsNow_9 {E : EE} (v : Sto) (T W : Nat) (u : Sto) (hK : LK v u T W) (hI : TI v 3 10 T) : Ct E 3 0 yX11_roomsNow cX11_roomsNow 4 (some .int) [.ref (E.ad 178), .int (nI 9)] u (.inl (some (.int (smI (rnV v (nI 9)) 168)))) (u) := by
  refine ct_of (by decide) (Nat.le_of_ble_eq_true rfl) (fun X h hR hrt htab hargs hini => ?_)
  have LP : ∀ j k : Nat, 168 < k + j → k ≤ 168 → G E X (QM E X (.inl (some (.int (smI (rnV v (nI 9)) 168)))) (u) 0) 4 0 4 [(0, .ref (E.ad 178)), (1, .int (nI 9)), (2, .int (smI (rnV v (nI 9)) k)), (3, .int (nI k))] [] (u) := by
    intro j
    induction j with
    | zero => intro k h1 h2; omega
    | succ j ih =>
      intro k h1 h2
      refine g_iload_n h dX11_roomsNow_4 rfl rfl ?_
      refine g_sipush (v := nI 168) h dX11_roomsNow_5 (by decide) ?_
      refine g_icmp_ge (tgt := 93) h dX11_roomsNow_8 (by decide) (fun c8 => ?_) (fun c8 => ?_)
      · have n8 := le_n (by omega) (by omega) (show nI (168) ≤ nI (k) from c8)
        refine g_iload_n h dX11_roomsNow_93 rfl rfl ?_
        exact g_iret h hrt dX11_roomsNow_94 (by omega) (by rw [show k = 168 by omega]) rfl
      · have n8 := nle_n (by omega) (by omega) (show ¬ nI (168) ≤ nI (k) from c8)
        refine g_iload_n h dX11_roomsNow_11 rfl rfl ?_
        refine g_bipush (v := nI 8) h dX11_roomsNow_12 (by decide) ?_
        refine g_icmp_ne (tgt := 35) h dX11_roomsNow_14 (by decide) (fun c14 => ?_) (fun c14 => ?_)
        · refine g_iload_n h dX11_roomsNow_35 rfl rfl ?_
          refine g_bipush (v := nI 9) h dX11_roomsNow_36 (by decide) ?_
          refine g_icmp_ne (tgt := 57) h dX11_roomsNow_38 (by decide) (fun c38 => ?_) (fun c38 => ?_)
          · exact absurd rfl c38
          · refine g_iload_n h dX11_roomsNow_41 rfl rfl ?_
            refine g_aload_n h dX11_roomsNow_42 rfl rfl ?_
            refine g_iload_n h dX11_roomsNow_43 rfl rfl ?_
            refine g_V h lv_X11_311_X11 sh_178 (by decide) rfl (c_X11_isSublet k (by omega) v T W u hK.t) (fitR hR (by first | decide | omega) (by decide) (by omega)) rfl rfl (Nat.le_of_ble_eq_true rfl) dX11_roomsNow_44 ?_
            refine g_if_eq (tgt := 54) h dX11_roomsNow_47 (by decide) (fun c47 => ?_) (fun c47 => ?_)
            · refine g_iconst (v := nI 0) h dX11_roomsNow_54 (by decide) ?_
              refine g_iadd h dX11_roomsNow_55 ?_
              refine g_istore_n (ls' := [(0, _), (1, _), (2, _), (3, _)]) h dX11_roomsNow_56 rfl (by decide) rfl rfl ?_
              refine g_iload_n h dX11_roomsNow_57 rfl rfl ?_
              refine g_bipush (v := nI 10) h dX11_roomsNow_58 (by decide) ?_
              refine g_icmp_ne (tgt := 72) h dX11_roomsNow_60 (by decide) (fun c60 => ?_) (fun c60 => ?_)
              · refine g_iload_n h dX11_roomsNow_72 rfl rfl ?_
                refine g_bipush (v := nI 14) h dX11_roomsNow_73 (by decide) ?_
                refine g_icmp_ne (tgt := 87) h dX11_roomsNow_75 (by decide) (fun c75 => ?_) (fun c75 => ?_)
                · refine g_iinc (v := nI (k + 1)) (ls' := [(0, _), (1, _), (2, _), (3, _)]) h dX11_roomsNow_87 rfl (nI_1 k) (by decide) rfl rfl ?_
                  refine g_goto (tgt := 4) h dX11_roomsNow_90 (by decide) ?_
                  exact g_cv (by rw [sm_s, rnV, if_neg (by decide), if_pos rfl, b2_f (p := ¬ v 5 k = -1) (fun z => z ((hI.sbl (by omega)).mp (Decidable.not_not.mp (b2_0.mp c47))))]) rfl (ih (k + 1) (by omega) (by omega))
                · exact absurd c75 (by decide)
              · exact absurd c60 (by decide)
            · refine g_iconst (v := nI 1) h dX11_roomsNow_50 (by decide) ?_
              refine g_goto (tgt := 55) h dX11_roomsNow_51 (by decide) ?_
              refine g_iadd h dX11_roomsNow_55 ?_
              refine g_istore_n (ls' := [(0, _), (1, _), (2, _), (3, _)]) h dX11_roomsNow_56 rfl (by decide) rfl rfl ?_
              refine g_iload_n h dX11_roomsNow_57 rfl rfl ?_
              refine g_bipush (v := nI 10) h dX11_roomsNow_58 (by decide) ?_
              refine g_icmp_ne (tgt := 72) h dX11_roomsNow_60 (by decide) (fun c60 => ?_) (fun c60 => ?_)
              · refine g_iload_n h dX11_roomsNow_72 rfl rfl ?_
                refine g_bipush (v := nI 14) h dX11_roomsNow_73 (by decide) ?_
                refine g_icmp_ne (tgt := 87) h dX11_roomsNow_75 (by decide) (fun c75 => ?_) (fun c75 => ?_)
                · refine g_iinc (v := nI (k + 1)) (ls' := [(0, _), (1, _), (2, _), (3, _)]) h dX11_roomsNow_87 rfl (nI_1 k) (by decide) rfl rfl ?_
                  refine g_goto (tgt := 4) h dX11_roomsNow_90 (by decide) ?_
                  exact g_cv (by rw [sm_s, rnV, if_neg (by decide), if_pos rfl, b2_t (p := ¬ v 5 k = -1) (fun z => (b2_n0.mp c47) ((hI.sbl (by omega)).mpr z))]) rfl (ih (k + 1) (by omega) (by omega))
                · exact absurd c75 (by decide)
              · exact absurd c60 (by decide)
        · exact absurd c14 (by decide)
  refine g_iconst (v := nI 0) h dX11_roomsNow_0 (by decide) ?_
  refine g_istore_n (ls' := [(0, _), (1, _), (2, _)]) h dX11_roomsNow_1 rfl (by decide) rfl rfl ?_
  refine g_iconst (v := nI 0) h dX11_roomsNow_2 (by decide) ?_
  refine g_istore_n (ls' := [(0, _), (1, _), (2, _), (3, _)]) h dX11_roomsNow_3 rfl (by decide) rfl rfl ?_
  exact LP (168 + 1) (0) (by omega) (by omega)
set_option maxHeartbeats 1000000 in
theorem c_X11_roomsNow_10 {E : EE} (v : Sto) (T W : Nat) (u : Sto) (hK : LK v u T W) (hI : TI v 3 10 T) : Ct E 3 0 yX11_roomsNow cX11_roomsNow 4 (some .int) [.ref (E.ad 178), .int (nI 10)] u (.inl (some (.int (smI (rnV v (nI 10)) 168)))) (u) := by
  refine ct_of (by decide) (Nat.le_of_ble_eq_true rfl) (fun X h hR hrt htab hargs hini => ?_)
  have LP : ∀ j k : Nat, 168 < k + j → k ≤ 168 → G E X (QM E X (.inl (some (.int (smI (rnV v (nI 10)) 168)))) (u) 0) 4 0 4 [(0, .ref (E.ad 178)), (1, .int (nI 10)), (2, .int (smI (rnV v (nI 10)) k)), (3, .int (nI k))] [] (u) := by
    intro j
    induction j with
    | zero => intro k h1 h2; omega
    | succ j ih =>
      intro k h1 h2
      refine g_iload_n h dX11_roomsNow_4 rfl rfl ?_
      refine g_sipush (v := nI 168) h dX11_roomsNow_5 (by decide) ?_
      refine g_icmp_ge (tgt := 93) h dX11_roomsNow_8 (by decide) (fun c8 => ?_) (fun c8 => ?_)
      · have n8 := le_n (by omega) (by omega) (show nI (168) ≤ nI (k) from c8)
        refine g_iload_n h dX11_roomsNow_93 rfl rfl ?_
        exact g_iret h hrt dX11_roomsNow_94 (by omega) (by rw [show k = 168 by omega]) rfl
      · have n8 := nle_n (by omega) (by omega) (show ¬ nI (168) ≤ nI (k) from c8)
        refine g_iload_n h dX11_roomsNow_11 rfl rfl ?_
        refine g_bipush (v := nI 8) h dX11_roomsNow_12 (by decide) ?_
        refine g_icmp_ne (tgt := 35) h dX11_roomsNow_14 (by decide) (fun c14 => ?_) (fun c14 => ?_)
        · refine g_iload_n h dX11_roomsNow_35 rfl rfl ?_
          refine g_bipush (v := nI 9) h dX11_roomsNow_36 (by decide) ?_
          refine g_icmp_ne (tgt := 57) h dX11_roomsNow_38 (by decide) (fun c38 => ?_) (fun c38 => ?_)
          · refine g_iload_n h dX11_roomsNow_57 rfl rfl ?_
            refine g_bipush (v := nI 10) h dX11_roomsNow_58 (by decide) ?_
            refine g_icmp_ne (tgt := 72) h dX11_roomsNow_60 (by decide) (fun c60 => ?_) (fun c60 => ?_)
            · exact absurd rfl c60
            · refine g_iload_n h dX11_roomsNow_63 rfl rfl ?_
              refine g_aload_n h dX11_roomsNow_64 rfl rfl ?_
              refine g_iload_n h dX11_roomsNow_65 rfl rfl ?_
              refine g_iconst (v := nI 2) h dX11_roomsNow_66 (by decide) ?_
              refine g_V h lv_X11_84_X11 sh_178 (by decide) rfl (c_X11_ofRoom k 2 (by omega) (by decide) u) (fitR hR (by first | decide | omega) (by decide) (by omega)) rfl rfl (Nat.le_of_ble_eq_true rfl) dX11_roomsNow_67 ?_
              refine g_top (hK.gds (by omega)) ?_
              refine g_iadd h dX11_roomsNow_70 ?_
              refine g_istore_n (ls' := [(0, _), (1, _), (2, _), (3, _)]) h dX11_roomsNow_71 rfl (by decide) rfl rfl ?_
              refine g_iload_n h dX11_roomsNow_72 rfl rfl ?_
              refine g_bipush (v := nI 14) h dX11_roomsNow_73 (by decide) ?_
              refine g_icmp_ne (tgt := 87) h dX11_roomsNow_75 (by decide) (fun c75 => ?_) (fun c75 => ?_)
              · refine g_iinc (v := nI (k + 1)) (ls' := [(0, _), (1, _), (2, _), (3, _)]) h dX11_roomsNow_87 rfl (nI_1 k) (by decide) rfl rfl ?_
                refine g_goto (tgt := 4) h dX11_roomsNow_90 (by decide) ?_
                exact g_cv (by rw [sm_s, rnV, if_neg (by decide), if_neg (by decide), if_pos rfl]) rfl (ih (k + 1) (by omega) (by omega))
              · exact absurd c75 (by decide)
          · exact absurd c38 (by decide)
        · exact absurd c14 (by decide)
  refine g_iconst (v := nI 0) h dX11_roomsNow_0 (by decide) ?_
  refine g_istore_n (ls' := [(0, _), (1, _), (2, _)]) h dX11_roomsNow_1 rfl (by decide) rfl rfl ?_
  refine g_iconst (v := nI 0) h dX11_roomsNow_2 (by decide) ?_
  refine g_istore_n (ls' := [(0, _), (1, _), (2, _), (3, _)]) h dX11_roomsNow_3 rfl (by decide) rfl rfl ?_
  exact LP (168 + 1) (0) (by omega) (by omega)
set_option maxHeartbeats 1000000 in
theorem c_X11_roomsNow_14 {E : EE} (v : Sto) (T W : Nat) (u : Sto) (hK : LK v u T W) (hI : TI v 3 10 T) : Ct E 3 0 yX11_roomsNow cX11_roomsNow 4 (some .int) [.ref (E.ad 178), .int (nI 14)] u (.inl (some (.int (smI (rnV v (nI 14)) 168)))) (u) := by
  refine ct_of (by decide) (Nat.le_of_ble_eq_true rfl) (fun X h hR hrt htab hargs hini => ?_)
  have LP : ∀ j k : Nat, 168 < k + j → k ≤ 168 → G E X (QM E X (.inl (some (.int (smI (rnV v (nI 14)) 168)))) (u) 0) 4 0 4 [(0, .ref (E.ad 178)), (1, .int (nI 14)), (2, .int (smI (rnV v (nI 14)) k)), (3, .int (nI k))] [] (u) := by
    intro j
    induction j with
    | zero => intro k h1 h2; omega
    | succ j ih =>
      intro k h1 h2
      refine g_iload_n h dX11_roomsNow_4 rfl rfl ?_
      refine g_sipush (v := nI 168) h dX11_roomsNow_5 (by decide) ?_
      refine g_icmp_ge (tgt := 93) h dX11_roomsNow_8 (by decide) (fun c8 => ?_) (fun c8 => ?_)
      · have n8 := le_n (by omega) (by omega) (show nI (168) ≤ nI (k) from c8)
        refine g_iload_n h dX11_roomsNow_93 rfl rfl ?_
        exact g_iret h hrt dX11_roomsNow_94 (by omega) (by rw [show k = 168 by omega]) rfl
      · have n8 := nle_n (by omega) (by omega) (show ¬ nI (168) ≤ nI (k) from c8)
        refine g_iload_n h dX11_roomsNow_11 rfl rfl ?_
        refine g_bipush (v := nI 8) h dX11_roomsNow_12 (by decide) ?_
        refine g_icmp_ne (tgt := 35) h dX11_roomsNow_14 (by decide) (fun c14 => ?_) (fun c14 => ?_)
        · refine g_iload_n h dX11_roomsNow_35 rfl rfl ?_
          refine g_bipush (v := nI 9) h dX11_roomsNow_36 (by decide) ?_
          refine g_icmp_ne (tgt := 57) h dX11_roomsNow_38 (by decide) (fun c38 => ?_) (fun c38 => ?_)
          · refine g_iload_n h dX11_roomsNow_57 rfl rfl ?_
            refine g_bipush (v := nI 10) h dX11_roomsNow_58 (by decide) ?_
            refine g_icmp_ne (tgt := 72) h dX11_roomsNow_60 (by decide) (fun c60 => ?_) (fun c60 => ?_)
            · refine g_iload_n h dX11_roomsNow_72 rfl rfl ?_
              refine g_bipush (v := nI 14) h dX11_roomsNow_73 (by decide) ?_
              refine g_icmp_ne (tgt := 87) h dX11_roomsNow_75 (by decide) (fun c75 => ?_) (fun c75 => ?_)
              · exact absurd rfl c75
              · refine g_iload_n h dX11_roomsNow_78 rfl rfl ?_
                refine g_aload_n h dX11_roomsNow_79 rfl rfl ?_
                refine g_iload_n h dX11_roomsNow_80 rfl rfl ?_
                refine g_iconst (v := nI 3) h dX11_roomsNow_81 (by decide) ?_
                refine g_V h lv_X11_84_X11 sh_178 (by decide) rfl (c_X11_ofRoom k 3 (by omega) (by decide) u) (fitR hR (by first | decide | omega) (by decide) (by omega)) rfl rfl (Nat.le_of_ble_eq_true rfl) dX11_roomsNow_82 ?_
                refine g_top (hK.sht (by omega)) ?_
                refine g_iadd h dX11_roomsNow_85 ?_
                refine g_istore_n (ls' := [(0, _), (1, _), (2, _), (3, _)]) h dX11_roomsNow_86 rfl (by decide) rfl rfl ?_
                refine g_iinc (v := nI (k + 1)) (ls' := [(0, _), (1, _), (2, _), (3, _)]) h dX11_roomsNow_87 rfl (nI_1 k) (by decide) rfl rfl ?_
                refine g_goto (tgt := 4) h dX11_roomsNow_90 (by decide) ?_
                exact g_cv (by rw [sm_s, rnV, if_neg (by decide), if_neg (by decide), if_neg (by decide), if_pos rfl]) rfl (ih (k + 1) (by omega) (by omega))
            · exact absurd c60 (by decide)
          · exact absurd c38 (by decide)
        · exact absurd c14 (by decide)
  refine g_iconst (v := nI 0) h dX11_roomsNow_0 (by decide) ?_
  refine g_istore_n (ls' := [(0, _), (1, _), (2, _)]) h dX11_roomsNow_1 rfl (by decide) rfl rfl ?_
  refine g_iconst (v := nI 0) h dX11_roomsNow_2 (by decide) ?_
  refine g_istore_n (ls' := [(0, _), (1, _), (2, _), (3, _)]) h dX11_roomsNow_3 rfl (by decide) rfl rfl ?_
  exact LP (168 + 1) (0) (by omega) (by omega)
