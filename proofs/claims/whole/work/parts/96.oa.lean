-- after: 95.nz
abbrev thP (v : Sto) (tl k : Nat) : Prop := ¬ tl = 0 ∧ allB (okB v 1) k = true
def nrB (v : Sto) (t j : Nat) : Bool := decide (lvT v 3 (bef (ix (v 1 j))) = nI t ∨ lvT v 3 (ix (v 1 j)) = nI t ∨ lvT v 3 (aft (ix (v 1 j))) = nI t)
abbrev nrP (v : Sto) (t n : Nat) : Prop := v 13 t = -1 ∧ allB (nrB v t) n = true
def thM (v : Sto) (tl : Nat) : Nat → Int32
  | 0 => nI 0
  | k + 1 => if nrP v k tl then thM v tl k ||| one k else thM v tl k
theorem allB_s {p : Nat → Bool} {k : Nat} : allB p (k + 1) = true ↔ allB p k = true ∧ p k = true := by
  rw [allB, Bool.and_eq_true]
theorem thi_x {v : Sto} {T tl : Nat} (h : ¬ thP v tl tl) : (thiR v T tl).1 = .inr iae := by
  unfold thiR
  split
  · rename_i c
    rw [if_neg (fun q => h ⟨q, c⟩)]
  · rfl
theorem thi_k {v : Sto} {T tl : Nat} (h : thP v tl tl) : (thiR v T tl).1 = .inl (some (.int (thF v T tl))) := by rw [thiR, if_pos h.2, if_pos h.1]
theorem gu_bt {v : Sto} {x : Int32} : ∀ n, n ≤ 10 → ∀ i, i < 32 → (btB (guI v x n) i = true ↔ i < n ∧ btB x i = true ∧ v 13 i = -1)
  | 0, _, i, hi => by
    show btB (nI 0) i = true ↔ _
    rw [bt_0]
    exact ⟨fun h => absurd h (by decide), fun h => absurd h.1 (Nat.not_lt_zero _)⟩
  | n + 1, hn, i, hi => by
    have ih := gu_bt (v := v) (x := x) n (by omega) i hi
    unfold guI
    by_cases c : ¬ bitI x n = 0 ∧ v 13 n = -1
    · rw [if_pos c, bt_or, Bool.or_eq_true, ih, bt_one (by omega) hi, decide_eq_true_iff]
      have b := (bt_I (by omega)).mp c.1
      constructor
      · rintro (⟨h, q⟩ | h)
        · exact ⟨by omega, q⟩
        · subst h; exact ⟨by omega, b, c.2⟩
      · rintro ⟨h, q⟩
        by_cases z : i = n
        · exact Or.inr z
        · exact Or.inl ⟨by omega, q⟩
    · rw [if_neg c, ih]
      constructor
      · rintro ⟨h, q⟩; exact ⟨by omega, q⟩
      · rintro ⟨h, q, q2⟩
        by_cases z : i = n
        · subst z; exact absurd ⟨(bt_I (by omega)).mpr q, q2⟩ c
        · exact ⟨by omega, q, q2⟩
theorem bti_bt {v : Sto} {t r T m i : Nat} (hI : TI v t r T) (hT : T ≤ 10) (hm : m < 168) (hi : i < 32) : btB (btI (lvT v t m)) i = true ↔ lvT v t m = nI i := by
  unfold btI
  rcases hI.liv hm with e | ⟨a, ha, e, _⟩
  · rw [if_pos e, bt_0, e]
    exact ⟨fun h => absurd h (by decide), fun h => absurd h.symm (nI_m1 (by omega))⟩
  · rw [if_neg (by rw [e]; exact nI_m1 (by omega)), e, oneJ_n, bt_one (by omega) hi, decide_eq_true_iff]
    exact ⟨fun h => by rw [h], fun h => (eq_n (by omega) (by omega) h).symm⟩
theorem th_bt {v : Sto} {T : Nat} (hI : TI v 3 10 T) (hT : T ≤ 10) : ∀ n, (∀ j, j < n → ix (v 1 j) < 168) → ∀ i, i < 32 → (btB (thF v T n) i = true ↔ i < T ∧ nrP v i n)
  | 0, _, i, hi => by
    show btB (guI v (-1) T) i = true ↔ _
    rw [gu_bt T hT i hi, bt_m1 hi]
    exact ⟨fun h => ⟨h.1, h.2.2, rfl⟩, fun h => ⟨h.1, rfl, h.2.1⟩⟩
  | n + 1, h, i, hi => by
    have ih := th_bt hI hT n (fun j hj => h j (by omega)) i hi
    have hx := h n (by omega)
    show btB (thF v T n &&& nbI v (ix (v 1 n))) i = true ↔ _
    rw [bt_and, Bool.and_eq_true, ih, nbI, bt_or, bt_or, Bool.or_eq_true, Bool.or_eq_true, bti_bt hI hT (bef_lt hx) hi, bti_bt hI hT hx hi, bti_bt hI hT (aft_lt _) hi]
    constructor
    · rintro ⟨⟨a, b, c⟩, d⟩
      exact ⟨a, b, allB_s.mpr ⟨c, decide_eq_true (or_assoc.mp d)⟩⟩
    · rintro ⟨a, b, c⟩
      obtain ⟨c, d⟩ := allB_s.mp c
      exact ⟨⟨a, b, c⟩, or_assoc.mpr (of_decide_eq_true d)⟩
theorem tm_bt {v : Sto} {tl : Nat} : ∀ n, n ≤ 10 → ∀ i, i < 32 → (btB (thM v tl n) i = true ↔ i < n ∧ nrP v i tl)
  | 0, _, i, hi => by
    show btB (nI 0) i = true ↔ _
    rw [bt_0]
    exact ⟨fun h => absurd h (by decide), fun h => absurd h.1 (Nat.not_lt_zero _)⟩
  | n + 1, hn, i, hi => by
    have ih := tm_bt (v := v) (tl := tl) n (by omega) i hi
    unfold thM
    by_cases c : nrP v n tl
    · rw [if_pos c, bt_or, Bool.or_eq_true, ih, bt_one (by omega) hi, decide_eq_true_iff]
      constructor
      · rintro (⟨h, q⟩ | h)
        · exact ⟨by omega, q⟩
        · subst h; exact ⟨by omega, c⟩
      · rintro ⟨h, q⟩
        by_cases z : i = n
        · exact Or.inr z
        · exact Or.inl ⟨by omega, q⟩
    · rw [if_neg c, ih]
      constructor
      · rintro ⟨h, q⟩; exact ⟨by omega, q⟩
      · rintro ⟨h, q⟩
        by_cases z : i = n
        · subst z; exact absurd q c
        · exact ⟨by omega, q⟩
theorem th_eq {v : Sto} {T tl : Nat} (hI : TI v 3 10 T) (hT : T ≤ 10) (h : thP v tl tl) : thF v T tl = thM v tl T :=
  bt_iff (fun i hi => (th_bt hI hT tl (fun j hj => by
    have := of_decide_eq_true (allB_i.mp h.2 j hj)
    rw [Nat.one_mul] at this
    exact (okR_ix this).2) i hi).trans (tm_bt T hT i hi).symm)
theorem thm_1 {v : Sto} {tl k : Nat} (h : nrP v k tl) : thM v tl (k + 1) = thM v tl k ||| one k := by rw [thM, if_pos h]
theorem thm_0 {v : Sto} {tl k : Nat} (h : ¬ nrP v k tl) : thM v tl (k + 1) = thM v tl k := by rw [thM, if_neg h]
set_option maxHeartbeats 1000000 in
theorem c_X11_thieves {E : EE} (v : Sto) (T W tl : Nat) (u : Sto) (hK : LK v u T W) (hI : TI v 3 10 T) (hTl : u 178 8 = nI tl) (ht4 : tl ≤ 400) (hTp : ∀ j, j < tl → u 183 j = v 1 j) : CtP E 35 0 yX11_thieves cX11_thieves 7 (some .int) [.ref (E.ad 178)] u (PMr (cdL [iae]) (thiR v T tl).1 (su u 178 8 (nI 0))) := by
  refine ctp_of (by decide) (Nat.le_of_ble_eq_true rfl) (fun X h hR hrt htab hargs => ?_)
  have LP : ∀ j k : Nat, tl < k + j → k ≤ tl → G E X (QMP E X (PMr (cdL [iae]) (thiR v T tl).1 (su u 178 8 (nI 0))) 0) 7 0 22 [(0, .ref (E.ad 178)), (1, .int (nI tl)), (2, .int (b2 (thP v tl k))), (3, .int (nI k))] [] ((su u 178 8 (nI 0))) := by
    intro j
    induction j with
    | zero => intro k h1 h2; omega
    | succ j ih =>
      intro k h1 h2
      refine g_iload_n h dX11_thieves_22 rfl rfl ?_
      refine g_iload_n h dX11_thieves_23 rfl rfl ?_
      refine g_icmp_ge (tgt := 55) h dX11_thieves_24 (by decide) (fun c24 => ?_) (fun c24 => ?_)
      · have n24 := le_n (by omega) (by omega) (show nI (tl) ≤ nI (k) from c24)
        refine g_aload_n h dX11_thieves_55 rfl rfl ?_
        refine g_iload_n h dX11_thieves_56 rfl rfl ?_
        refine g_if_eq (tgt := 64) h dX11_thieves_57 (by decide) (fun c57 => ?_) (fun c57 => ?_)
        · have hthp : ¬ thP v tl tl := by rw [show thP v tl tl = thP v tl k by rw [show k = tl by omega]]; exact b2_0.mp c57
          refine g_iconst (v := nI 1) h dX11_thieves_64 (by decide) ?_
          refine g_putI h pfl_X11_69_10 sh_178 (by decide) rfl dX11_thieves_65 ?_
          refine g_aload_n h dX11_thieves_68 rfl rfl ?_
          refine g_getI h fl_X11_69_10 sh_178 (by decide) rfl dX11_thieves_69 ?_
          refine g_top su_k ?_
          refine g_if_le (tgt := 77) h dX11_thieves_72 (by decide) (fun q => absurd q (by decide)) (fun _ => ?_)
          refine g_iconst (v := nI 0) h dX11_thieves_75 (by decide) ?_
          exact g_iretP h hrt dX11_thieves_76 (by omega) (pm_x (Ex := iae) (thi_x hthp) (by decide) (sim.refl _))
        · have hthp : thP v tl tl := by rw [show thP v tl tl = thP v tl k by rw [show k = tl by omega]]; exact b2_n0.mp c57
          have hall : ∀ j, j < tl → okR (v 1 j) := fun j hj => by
            have := of_decide_eq_true (allB_i.mp hthp.2 j hj)
            rw [Nat.one_mul] at this
            exact this
          refine g_iconst (v := nI 0) h dX11_thieves_60 (by decide) ?_
          refine g_goto (tgt := 65) h dX11_thieves_61 (by decide) ?_
          refine g_putI h pfl_X11_69_10 sh_178 (by decide) rfl dX11_thieves_65 ?_
          refine g_aload_n h dX11_thieves_68 rfl rfl ?_
          refine g_getI h fl_X11_69_10 sh_178 (by decide) rfl dX11_thieves_69 ?_
          refine g_top su_k ?_
          refine g_if_le (tgt := 77) h dX11_thieves_72 (by decide) (fun _ => ?_) (fun q => absurd q (by decide))
          refine g_iconst (v := nI 0) h dX11_thieves_77 (by decide) ?_
          refine g_istore_n (ls' := [(0, _), (1, _), (2, _), (3, _)]) h dX11_thieves_78 rfl (by decide) rfl rfl ?_
          refine g_iconst (v := nI 0) h dX11_thieves_79 (by decide) ?_
          refine g_istore (ls' := [(0, _), (1, _), (2, _), (3, _), (4, _)]) h dX11_thieves_80 (by decide) rfl rfl ?_
          have LP2 : ∀ j2 t : Nat, T < t + j2 → t ≤ T → G E X (QMP E X (PMr (cdL [iae]) (thiR v T tl).1 (su u 178 8 (nI 0))) 0) 7 0 82 [(0, .ref (E.ad 178)), (1, .int (nI tl)), (2, .int (b2 (thP v tl k))), (3, .int (thM v tl t)), (4, .int (nI t))] [] ((su (su u 178 8 (nI 0)) 178 0 (nI 0))) := by
            intro j2
            induction j2 with
            | zero => intro t h1 h2; omega
            | succ j2 ih2 =>
              intro t h1 h2
              have LP3 : ∀ j3 n : Nat, t < T → tl < n + j3 → n ≤ tl → G E X (QMP E X (PMr (cdL [iae]) (thiR v T tl).1 (su u 178 8 (nI 0))) 0) 7 0 112 [(0, .ref (E.ad 178)), (1, .int (nI tl)), (2, .int (b2 (thP v tl k))), (3, .int (thM v tl t)), (4, .int (nI t)), (5, .int (b2 (nrP v t n))), (6, .int (nI n))] [] ((su (su u 178 8 (nI 0)) 178 0 (nI 0))) := by
                intro j3
                induction j3 with
                | zero => intro n htT h1 h2; omega
                | succ j3 ih3 =>
                  intro n htT h1 h2
                  refine g_iload h dX11_thieves_112 rfl ?_
                  refine g_iload_n h dX11_thieves_114 rfl rfl ?_
                  refine g_icmp_ge (tgt := 188) h dX11_thieves_115 (by decide) (fun c115 => ?_) (fun c115 => ?_)
                  · have n115 := le_n (by omega) (by omega) (show nI (tl) ≤ nI (n) from c115)
                    refine g_iload h dX11_thieves_188 rfl ?_
                    refine g_if_eq (tgt := 202) h dX11_thieves_190 (by decide) (fun c190 => ?_) (fun c190 => ?_)
                    · refine g_iload_n h dX11_thieves_202 rfl rfl ?_
                      refine g_istore_n (ls' := [(0, _), (1, _), (2, _), (3, _), (4, _), (5, _), (6, _)]) h dX11_thieves_203 rfl (by decide) rfl rfl ?_
                      refine g_iinc (v := nI (t + 1)) (ls' := [(0, _), (1, _), (2, _), (3, _), (4, _), (5, _), (6, _)]) h dX11_thieves_204 rfl (nI_1 t) (by decide) rfl rfl ?_
                      refine g_goto (tgt := 82) h dX11_thieves_207 (by decide) ?_
                      refine g_del 5 (ls' := [(0, _), (1, _), (2, _), (3, _), (4, _), (6, _)]) rfl ?_
                      refine g_del 6 (ls' := [(0, _), (1, _), (2, _), (3, _), (4, _)]) rfl ?_
                      exact g_cv (by rw [thm_0 (show ¬ nrP v t tl by rw [← (show n = tl by omega)]; exact b2_0.mp c190)]) rfl (ih2 (t + 1) (by omega) (by omega))
                    · refine g_iload_n h dX11_thieves_193 rfl rfl ?_
                      refine g_iconst (v := nI 1) h dX11_thieves_194 (by decide) ?_
                      refine g_iload h dX11_thieves_195 rfl ?_
                      refine g_ishl h dX11_thieves_197 ?_
                      refine g_ior h dX11_thieves_198 ?_
                      refine g_goto (tgt := 203) h dX11_thieves_199 (by decide) ?_
                      refine g_istore_n (ls' := [(0, _), (1, _), (2, _), (3, _), (4, _), (5, _), (6, _)]) h dX11_thieves_203 rfl (by decide) rfl rfl ?_
                      refine g_iinc (v := nI (t + 1)) (ls' := [(0, _), (1, _), (2, _), (3, _), (4, _), (5, _), (6, _)]) h dX11_thieves_204 rfl (nI_1 t) (by decide) rfl rfl ?_
                      refine g_goto (tgt := 82) h dX11_thieves_207 (by decide) ?_
                      refine g_del 5 (ls' := [(0, _), (1, _), (2, _), (3, _), (4, _), (6, _)]) rfl ?_
                      refine g_del 6 (ls' := [(0, _), (1, _), (2, _), (3, _), (4, _)]) rfl ?_
                      exact g_cv (by rw [thm_1 (show nrP v t tl by rw [← (show n = tl by omega)]; exact b2_n0.mp c190)]; rfl) rfl (ih2 (t + 1) (by omega) (by omega))
                  · have n115 := nle_n (by omega) (by omega) (show ¬ nI (tl) ≤ nI (n) from c115)
                    have hx := okR_ix (hall n (by omega))
                    refine g_iload h dX11_thieves_118 rfl ?_
                    refine g_if_eq (tgt := 179) h dX11_thieves_120 (by decide) (fun c120 => ?_) (fun c120 => ?_)
                    · refine g_iconst (v := nI 0) h dX11_thieves_179 (by decide) ?_
                      refine g_istore (ls' := [(0, _), (1, _), (2, _), (3, _), (4, _), (5, _), (6, _)]) h dX11_thieves_180 (by decide) rfl rfl ?_
                      refine g_iinc (v := nI (n + 1)) (ls' := [(0, _), (1, _), (2, _), (3, _), (4, _), (5, _), (6, _)]) h dX11_thieves_182 rfl (nI_1 n) (by decide) rfl rfl ?_
                      refine g_goto (tgt := 112) h dX11_thieves_185 (by decide) ?_
                      exact g_cv (by rw [b2_f (p := nrP v t (n + 1)) (fun q => b2_0.mp c120 ⟨q.1, (allB_s.mp q.2).1⟩)]) rfl (ih3 (n + 1) htT (by omega) (by omega))
                    · refine g_aload_n h dX11_thieves_123 rfl rfl ?_
                      refine g_aload_n h dX11_thieves_124 rfl rfl ?_
                      refine g_getR h fl_X11_22_10 sh_178 (by decide) rfl dX11_thieves_125 ?_
                      refine g_iload h dX11_thieves_128 rfl ?_
                      refine g_iald h _ _ _ sh_183 (by decide) (by decide) rfl (by omega) dX11_thieves_130 ?_
                      refine g_top ((congrFun (su_cell _ _ (by decide)) _).trans ((congrFun (su_cell _ _ (by decide)) _).trans ((hTp n (by omega)).trans hx.1))) ?_
                      refine g_iconst (v := nI 1) h dX11_thieves_131 (by decide) ?_
                      refine g_isub h dX11_thieves_132 ?_
                      refine g_V h lv_X11_264_X11 sh_178 (by decide) rfl (c_X11_livesIn (nI (ix (v 1 n)) - nI 1) (ix (v 1 n) + 167) (lwx hx.2) (by have := hx.2; omega) v T W _ ((hK.th (j := 8) (x := nI 0)).th (j := 0) (x := nI 0)).t) (fitR hR (by first | decide | omega) (by decide) (by omega)) rfl rfl (Nat.le_of_ble_eq_true rfl) dX11_thieves_133 ?_
                      refine g_top (congrArg (lvT v 3) (bef_k hx.2)) ?_
                      refine g_iload h dX11_thieves_136 rfl ?_
                      refine g_icmp_eq (tgt := 175) h dX11_thieves_138 (by decide) (fun c138 => ?_) (fun c138 => ?_)
                      · refine g_iconst (v := nI 1) h dX11_thieves_175 (by decide) ?_
                        refine g_goto (tgt := 180) h dX11_thieves_176 (by decide) ?_
                        refine g_istore (ls' := [(0, _), (1, _), (2, _), (3, _), (4, _), (5, _), (6, _)]) h dX11_thieves_180 (by decide) rfl rfl ?_
                        refine g_iinc (v := nI (n + 1)) (ls' := [(0, _), (1, _), (2, _), (3, _), (4, _), (5, _), (6, _)]) h dX11_thieves_182 rfl (nI_1 n) (by decide) rfl rfl ?_
                        refine g_goto (tgt := 112) h dX11_thieves_185 (by decide) ?_
                        exact g_cv (by rw [b2_t (p := nrP v t (n + 1)) ⟨(b2_n0.mp c120).1, allB_s.mpr ⟨(b2_n0.mp c120).2, decide_eq_true (Or.inl c138)⟩⟩]) rfl (ih3 (n + 1) htT (by omega) (by omega))
                      · refine g_aload_n h dX11_thieves_141 rfl rfl ?_
                        refine g_aload_n h dX11_thieves_142 rfl rfl ?_
                        refine g_getR h fl_X11_22_10 sh_178 (by decide) rfl dX11_thieves_143 ?_
                        refine g_iload h dX11_thieves_146 rfl ?_
                        refine g_iald h _ _ _ sh_183 (by decide) (by decide) rfl (by omega) dX11_thieves_148 ?_
                        refine g_top ((congrFun (su_cell _ _ (by decide)) _).trans ((congrFun (su_cell _ _ (by decide)) _).trans ((hTp n (by omega)).trans hx.1))) ?_
                        refine g_V h lv_X11_264_X11 sh_178 (by decide) rfl (c_X11_livesIn (nI (ix (v 1 n))) (ix (v 1 n) + 168) (nI_add _ _) (by have := hx.2; omega) v T W _ ((hK.th (j := 8) (x := nI 0)).th (j := 0) (x := nI 0)).t) (fitR hR (by first | decide | omega) (by decide) (by omega)) rfl rfl (Nat.le_of_ble_eq_true rfl) dX11_thieves_149 ?_
                        refine g_top (congrArg (lvT v 3) (m168 hx.2)) ?_
                        refine g_iload h dX11_thieves_152 rfl ?_
                        refine g_icmp_eq (tgt := 175) h dX11_thieves_154 (by decide) (fun c154 => ?_) (fun c154 => ?_)
                        · refine g_iconst (v := nI 1) h dX11_thieves_175 (by decide) ?_
                          refine g_goto (tgt := 180) h dX11_thieves_176 (by decide) ?_
                          refine g_istore (ls' := [(0, _), (1, _), (2, _), (3, _), (4, _), (5, _), (6, _)]) h dX11_thieves_180 (by decide) rfl rfl ?_
                          refine g_iinc (v := nI (n + 1)) (ls' := [(0, _), (1, _), (2, _), (3, _), (4, _), (5, _), (6, _)]) h dX11_thieves_182 rfl (nI_1 n) (by decide) rfl rfl ?_
                          refine g_goto (tgt := 112) h dX11_thieves_185 (by decide) ?_
                          exact g_cv (by rw [b2_t (p := nrP v t (n + 1)) ⟨(b2_n0.mp c120).1, allB_s.mpr ⟨(b2_n0.mp c120).2, decide_eq_true (Or.inr (Or.inl c154))⟩⟩]) rfl (ih3 (n + 1) htT (by omega) (by omega))
                        · refine g_aload_n h dX11_thieves_157 rfl rfl ?_
                          refine g_aload_n h dX11_thieves_158 rfl rfl ?_
                          refine g_getR h fl_X11_22_10 sh_178 (by decide) rfl dX11_thieves_159 ?_
                          refine g_iload h dX11_thieves_162 rfl ?_
                          refine g_iald h _ _ _ sh_183 (by decide) (by decide) rfl (by omega) dX11_thieves_164 ?_
                          refine g_top ((congrFun (su_cell _ _ (by decide)) _).trans ((congrFun (su_cell _ _ (by decide)) _).trans ((hTp n (by omega)).trans hx.1))) ?_
                          refine g_iconst (v := nI 1) h dX11_thieves_165 (by decide) ?_
                          refine g_iadd h dX11_thieves_166 ?_
                          refine g_V h lv_X11_264_X11 sh_178 (by decide) rfl (c_X11_livesIn (nI (ix (v 1 n)) + nI 1) (ix (v 1 n) + 169) (lwy hx.2) (by have := hx.2; omega) v T W _ ((hK.th (j := 8) (x := nI 0)).th (j := 0) (x := nI 0)).t) (fitR hR (by first | decide | omega) (by decide) (by omega)) rfl rfl (Nat.le_of_ble_eq_true rfl) dX11_thieves_167 ?_
                          refine g_top (congrArg (lvT v 3) (aft_k hx.2)) ?_
                          refine g_iload h dX11_thieves_170 rfl ?_
                          refine g_icmp_ne (tgt := 179) h dX11_thieves_172 (by decide) (fun c172 => ?_) (fun c172 => ?_)
                          · refine g_iconst (v := nI 0) h dX11_thieves_179 (by decide) ?_
                            refine g_istore (ls' := [(0, _), (1, _), (2, _), (3, _), (4, _), (5, _), (6, _)]) h dX11_thieves_180 (by decide) rfl rfl ?_
                            refine g_iinc (v := nI (n + 1)) (ls' := [(0, _), (1, _), (2, _), (3, _), (4, _), (5, _), (6, _)]) h dX11_thieves_182 rfl (nI_1 n) (by decide) rfl rfl ?_
                            refine g_goto (tgt := 112) h dX11_thieves_185 (by decide) ?_
                            exact g_cv (by rw [b2_f (p := nrP v t (n + 1)) (fun q => (of_decide_eq_true (allB_s.mp q.2).2).elim c138 (fun q => q.elim c154 c172))]) rfl (ih3 (n + 1) htT (by omega) (by omega))
                          · refine g_iconst (v := nI 1) h dX11_thieves_175 (by decide) ?_
                            refine g_goto (tgt := 180) h dX11_thieves_176 (by decide) ?_
                            refine g_istore (ls' := [(0, _), (1, _), (2, _), (3, _), (4, _), (5, _), (6, _)]) h dX11_thieves_180 (by decide) rfl rfl ?_
                            refine g_iinc (v := nI (n + 1)) (ls' := [(0, _), (1, _), (2, _), (3, _), (4, _), (5, _), (6, _)]) h dX11_thieves_182 rfl (nI_1 n) (by decide) rfl rfl ?_
                            refine g_goto (tgt := 112) h dX11_thieves_185 (by decide) ?_
                            exact g_cv (by rw [b2_t (p := nrP v t (n + 1)) ⟨(b2_n0.mp c120).1, allB_s.mpr ⟨(b2_n0.mp c120).2, decide_eq_true (Or.inr (Or.inr c172))⟩⟩]) rfl (ih3 (n + 1) htT (by omega) (by omega))
              refine g_iload h dX11_thieves_82 rfl ?_
              refine g_aload_n h dX11_thieves_84 rfl rfl ?_
              refine g_getR h fl_X11_7_10 sh_178 (by decide) rfl dX11_thieves_85 ?_
              refine g_iconst (v := nI 1) h dX11_thieves_88 (by decide) ?_
              refine g_iald h _ _ _ sh_179 (by decide) (by decide) rfl (by omega) dX11_thieves_89 ?_
              refine g_top (y := nI T) ((congrFun (su_cell _ _ (by decide)) _).trans ((congrFun (su_cell _ _ (by decide)) _).trans hK.r.ten)) ?_
              refine g_icmp_ge (tgt := 210) h dX11_thieves_90 (by decide) (fun c90 => ?_) (fun c90 => ?_)
              · have n90 := le_n (by omega) (by omega) (show nI (T) ≤ nI (t) from c90)
                refine g_iload_n h dX11_thieves_210 rfl rfl ?_
                exact g_iretP h hrt dX11_thieves_211 (by omega) (pm_v (thi_k hthp) (by rw [th_eq hI hK.hT hthp, show t = T by omega]) (sim.refl _))
              · have n90 := nle_n (by omega) (by omega) (show ¬ nI (T) ≤ nI (t) from c90)
                refine g_aload_n h dX11_thieves_93 rfl rfl ?_
                refine g_iload h dX11_thieves_94 rfl ?_
                refine g_V h lv_X11_80_X11 sh_178 (by decide) rfl (c_X11_isChild t v T W (by omega) _ ((hK.th (j := 8) (x := nI 0)).th (j := 0) (x := nI 0)).r) (fitR hR (by first | decide | omega) (by decide) (by omega)) rfl rfl (Nat.le_of_ble_eq_true rfl) dX11_thieves_96 ?_
                by_cases n96 : v 13 t = -1
                · refine g_top (b2_f (fun q => q n96)) ?_
                  refine g_if_ne (tgt := 106) h dX11_thieves_99 (by decide) (fun q => absurd q (by decide)) (fun _ => ?_)
                  refine g_iconst (v := nI 1) h dX11_thieves_102 (by decide) ?_
                  refine g_goto (tgt := 107) h dX11_thieves_103 (by decide) ?_
                  refine g_istore (ls' := [(0, _), (1, _), (2, _), (3, _), (4, _), (5, _)]) h dX11_thieves_107 (by decide) rfl rfl ?_
                  refine g_iconst (v := nI 0) h dX11_thieves_109 (by decide) ?_
                  refine g_istore (ls' := [(0, _), (1, _), (2, _), (3, _), (4, _), (5, _), (6, _)]) h dX11_thieves_110 (by decide) rfl rfl ?_
                  exact g_cv (by rw [b2_t (p := nrP v t 0) ⟨n96, rfl⟩]) rfl (LP3 (tl + 1) 0 (by omega) (by omega) (by omega))
                · refine g_top (b2_t n96) ?_
                  refine g_if_ne (tgt := 106) h dX11_thieves_99 (by decide) (fun _ => ?_) (fun q => absurd q (by decide))
                  refine g_iconst (v := nI 0) h dX11_thieves_106 (by decide) ?_
                  refine g_istore (ls' := [(0, _), (1, _), (2, _), (3, _), (4, _), (5, _)]) h dX11_thieves_107 (by decide) rfl rfl ?_
                  refine g_iconst (v := nI 0) h dX11_thieves_109 (by decide) ?_
                  refine g_istore (ls' := [(0, _), (1, _), (2, _), (3, _), (4, _), (5, _), (6, _)]) h dX11_thieves_110 (by decide) rfl rfl ?_
                  exact g_cv (by rw [b2_f (p := nrP v t 0) (fun q => n96 q.1)]) rfl (LP3 (tl + 1) 0 (by omega) (by omega) (by omega))
          exact LP2 (T + 1) (0) (by omega) (by omega)
          
      · have n24 := nle_n (by omega) (by omega) (show ¬ nI (tl) ≤ nI (k) from c24)
        refine g_iload_n h dX11_thieves_27 rfl rfl ?_
        refine g_if_eq (tgt := 47) h dX11_thieves_28 (by decide) (fun c28 => ?_) (fun c28 => ?_)
        · refine g_iconst (v := nI 0) h dX11_thieves_47 (by decide) ?_
          refine g_istore_n (ls' := [(0, _), (1, _), (2, _), (3, _)]) h dX11_thieves_48 rfl (by decide) rfl rfl ?_
          refine g_iinc (v := nI (k + 1)) (ls' := [(0, _), (1, _), (2, _), (3, _)]) h dX11_thieves_49 rfl (nI_1 k) (by decide) rfl rfl ?_
          refine g_goto (tgt := 22) h dX11_thieves_52 (by decide) ?_
          exact g_cv (by rw [b2_f (p := thP v tl (k + 1)) (fun q => b2_0.mp c28 ⟨q.1, (allB_s.mp q.2).1⟩)]) rfl (ih (k + 1) (by omega) (by omega))
        · refine g_aload_n h dX11_thieves_31 rfl rfl ?_
          refine g_getR h fl_X11_22_10 sh_178 (by decide) rfl dX11_thieves_32 ?_
          refine g_iload_n h dX11_thieves_35 rfl rfl ?_
          refine g_iald h _ _ _ sh_183 (by decide) (by decide) rfl (by omega) dX11_thieves_36 ?_
          refine g_top (y := v 1 k) ((congrFun (su_cell _ _ (by decide)) _).trans (hTp k (by omega))) ?_
          refine g_S h ls_X11_289 (c_X11_isRoom (v 1 k) _) (fitR hR (by first | decide | omega) (by decide) (by omega)) rfl rfl (Nat.le_of_ble_eq_true rfl) dX11_thieves_37 ?_
          refine g_if_eq (tgt := 47) h dX11_thieves_40 (by decide) (fun c40 => ?_) (fun c40 => ?_)
          · refine g_iconst (v := nI 0) h dX11_thieves_47 (by decide) ?_
            refine g_istore_n (ls' := [(0, _), (1, _), (2, _), (3, _)]) h dX11_thieves_48 rfl (by decide) rfl rfl ?_
            refine g_iinc (v := nI (k + 1)) (ls' := [(0, _), (1, _), (2, _), (3, _)]) h dX11_thieves_49 rfl (nI_1 k) (by decide) rfl rfl ?_
            refine g_goto (tgt := 22) h dX11_thieves_52 (by decide) ?_
            exact g_cv (by rw [b2_f (p := thP v tl (k + 1)) (fun q => b2_0.mp c40 ((show okB v 1 k = true ↔ okR (v 1 k) by rw [okB, Nat.one_mul]; exact decide_eq_true_iff).mp (allB_s.mp q.2).2))]) rfl (ih (k + 1) (by omega) (by omega))
          · refine g_iconst (v := nI 1) h dX11_thieves_43 (by decide) ?_
            refine g_goto (tgt := 48) h dX11_thieves_44 (by decide) ?_
            refine g_istore_n (ls' := [(0, _), (1, _), (2, _), (3, _)]) h dX11_thieves_48 rfl (by decide) rfl rfl ?_
            refine g_iinc (v := nI (k + 1)) (ls' := [(0, _), (1, _), (2, _), (3, _)]) h dX11_thieves_49 rfl (nI_1 k) (by decide) rfl rfl ?_
            refine g_goto (tgt := 22) h dX11_thieves_52 (by decide) ?_
            exact g_cv (by rw [b2_t (p := thP v tl (k + 1)) ⟨(b2_n0.mp c28).1, allB_s.mpr ⟨(b2_n0.mp c28).2, (show okB v 1 k = true ↔ okR (v 1 k) by rw [okB, Nat.one_mul]; exact decide_eq_true_iff).mpr (b2_n0.mp c40)⟩⟩]) rfl (ih (k + 1) (by omega) (by omega))
  refine g_aload_n h dX11_thieves_0 rfl rfl ?_
  refine g_getI h fl_X11_91_10 sh_178 (by decide) rfl dX11_thieves_1 ?_
  refine g_top hTl ?_
  refine g_istore_n (ls' := [(0, _), (1, _)]) h dX11_thieves_4 rfl (by decide) rfl rfl ?_
  refine g_aload_n h dX11_thieves_5 rfl rfl ?_
  refine g_iconst (v := nI 0) h dX11_thieves_6 (by decide) ?_
  refine g_putI h pfl_X11_91_10 sh_178 (by decide) rfl dX11_thieves_7 ?_
  refine g_iload_n h dX11_thieves_10 rfl rfl ?_
  refine g_if_le (tgt := 18) h dX11_thieves_11 (by decide) (fun c11 => ?_) (fun c11 => ?_)
  · have ht0 : tl = 0 := by
      have := le_n (by omega) (by omega) (show nI tl ≤ nI 0 from c11)
      omega
    refine g_iconst (v := nI 0) h dX11_thieves_18 (by decide) ?_
    refine g_istore_n (ls' := [(0, _), (1, _), (2, _)]) h dX11_thieves_19 rfl (by decide) rfl rfl ?_
    refine g_iconst (v := nI 0) h dX11_thieves_20 (by decide) ?_
    refine g_istore_n (ls' := [(0, _), (1, _), (2, _), (3, _)]) h dX11_thieves_21 rfl (by decide) rfl rfl ?_
    exact g_cv (by rw [b2_f (p := thP v tl 0) (fun q => q.1 ht0)]) rfl (LP (tl + 1) 0 (by omega) (by omega))
  · have ht0 : ¬ tl = 0 := fun q => c11 (by rw [q]; decide)
    refine g_iconst (v := nI 1) h dX11_thieves_14 (by decide) ?_
    refine g_goto (tgt := 19) h dX11_thieves_15 (by decide) ?_
    refine g_istore_n (ls' := [(0, _), (1, _), (2, _)]) h dX11_thieves_19 rfl (by decide) rfl rfl ?_
    refine g_iconst (v := nI 0) h dX11_thieves_20 (by decide) ?_
    refine g_istore_n (ls' := [(0, _), (1, _), (2, _), (3, _)]) h dX11_thieves_21 rfl (by decide) rfl rfl ?_
    exact g_cv (by rw [b2_t (p := thP v tl 0) ⟨ht0, rfl⟩]) rfl (LP (tl + 1) 0 (by omega) (by omega))
