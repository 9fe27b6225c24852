-- after: 94.ny
theorem scr_m {c j : Nat} (h : 184 ≤ c ∧ c ≤ 196) : scrB c j = true := by simp [scrB]; omega
theorem cr_k {f : Nat → Int32} {b N n : Nat} {s : Int32} (h : n < N) (hf : ¬ f ((b + n) % 168) = -1) : crF f b (N - n) n s = crF f b (N - (n + 1)) (n + 1) (s + f ((b + n) % 168)) := by
  rw [show N - n = (N - (n + 1)) + 1 by omega, crF, if_neg hf]
theorem cr_m {f : Nat → Int32} {b N n : Nat} {s : Int32} (h : n < N) (hf : f ((b + n) % 168) = -1) : crF f b (N - n) n s = -1 := by
  rw [show N - n = (N - (n + 1)) + 1 by omega, crF, if_pos hf]
theorem fe_1 {f : Nat → Int32} {k : Nat} {y : Int32} (h : f k = y) (hy : ¬ y = -1) (h2 : (feF f k).1 = -1 ∨ y < (feF f k).1) : feF f (k + 1) = (y, nI k) := by
  rw [feF, h, if_pos ⟨hy, h2⟩]
theorem fe_0 {f : Nat → Int32} {k : Nat} {y : Int32} (h : f k = y) (h2 : ¬ (¬ y = -1 ∧ ((feF f k).1 = -1 ∨ y < (feF f k).1))) : feF f (k + 1) = feF f k := by
  rw [feF, h, if_neg h2]
theorem fe_n {f : Nat → Int32} : ∀ {k : Nat}, k < 2 ^ 31 → ((feF f k).1 = -1 ↔ (feF f k).2 = -1)
  | 0, _ => ⟨fun _ => rfl, fun _ => rfl⟩
  | k + 1, hk => by
    have ih := fe_n (f := f) (k := k) (by omega)
    unfold feF
    split
    · rename_i c
      exact ⟨fun q => absurd q c.1, fun q => absurd q (nI_m1 (by omega))⟩
    · exact ih
def rfF (v : Sto) (a j : Nat) : Int32 := if v 13 a = -1 then coI v a j else -1
theorem rf01 {v : Sto} {a j : Nat} (h : ¬ rfF v a j = -1) : rfF v a j = nI 0 ∨ rfF v a j = nI 1 := by
  unfold rfF at *
  split at h
  · rename_i c
    rw [if_pos c]
    unfold coI at *
    split at h
    · exact absurd rfl h
    · rename_i c2
      rw [if_neg c2]
      split
      · exact Or.inl rfl
      · exact Or.inr rfl
  · exact absurd rfl h
theorem fe_all {f : Nat → Int32} : ∀ {k : Nat}, (∀ r, r < k → f r = -1) → feF f k = (-1, -1)
  | 0, _ => rfl
  | k + 1, h => by rw [fe_0 rfl (fun q => q.1 (h k (by omega)))]; exact fe_all (fun r hr => h r (by omega))
theorem fe_cong {f g : Nat → Int32} : ∀ {k : Nat}, (∀ r, r < k → f r = g r) → feF f k = feF g k
  | 0, _ => rfl
  | k + 1, h => by rw [feF, feF, fe_cong (fun r hr => h r (by omega)), h k (by omega)]
theorem rfr_eq {v : Sto} {a N : Nat} {z : Int32} (hN : 1 ≤ N) : fevV v a N z = if z = 0 then (feF (fun r => crF (rfF v a) r N 0 (nI 0)) 168).1 else (feF (fun r => crF (rfF v a) r N 0 (nI 0)) 168).2 := by
  unfold fevV
  by_cases c : v 13 a = -1
  · rw [if_neg (fun q => q c), fevF, show coI v a = rfF v a by funext j; rw [rfF, if_pos c]]
  · rw [if_pos c, fe_all (fun r hr => by rw [show N = N - 0 by omega]; exact cr_m (by omega) (if_neg c))]
    split <;> rfl
set_option maxHeartbeats 1000000 in
theorem c_X11_roomsFor {E : EE} (v : Sto) (T W : Nat) (x n z : Int32) (u : Sto) (hK : LK v u T W) : CtP E 35 0 yX11_roomsFor cX11_roomsFor 10 (some .int) [.ref (E.ad 178), .int x, .int n, .int z] u (PMr (cdL [ioob, iae]) (rfrR v x n z).1 u) := by
  refine ctp_of (by decide) (Nat.le_of_ble_eq_true rfl) (fun X h hR hrt htab hargs => ?_)
  refine g_aload_n h dX11_roomsFor_0 rfl rfl ?_
  refine g_aload_n h dX11_roomsFor_1 rfl rfl ?_
  refine g_iload_n h dX11_roomsFor_2 rfl rfl ?_
  refine g_V h lv_X11_277_X11 sh_178 (by decide) rfl (c_X11_isTenant x v T W u hK.r) (fitR hR (by first | decide | omega) (by decide) (by omega)) rfl rfl (Nat.le_of_ble_eq_true rfl) dX11_roomsFor_3 ?_
  by_cases n3 : okT v x
  · refine g_top (b2_t n3) ?_
    obtain ⟨a, ha, ha9, ia, rfl⟩ := okT_n hK.hT hK.r.vt n3
    refine g_if_ne (tgt := 13) h dX11_roomsFor_6 (by decide) (fun _ => ?_) (fun q => absurd q (by decide))
    refine g_iload_n h dX11_roomsFor_13 rfl rfl ?_
    refine g_iconst (v := nI 1) h dX11_roomsFor_14 (by decide) ?_
    refine g_bipush (v := nI 24) h dX11_roomsFor_15 (by decide) ?_
    refine g_S h ls_X11_72 (c_X11_isIn n (nI 1) (nI 24) u) (fitR hR (by first | decide | omega) (by decide) (by omega)) rfl rfl (Nat.le_of_ble_eq_true rfl) dX11_roomsFor_17 ?_
    by_cases n17 : okN n (nI 1) (nI 24)
    · refine g_top (b2_t n17) ?_
      obtain ⟨N, hN0, hN1, iN, rfl⟩ := okN_k (by decide) n17
      refine g_if_ne (tgt := 27) h dX11_roomsFor_20 (by decide) (fun _ => ?_) (fun q => absurd q (by decide))
      refine g_iconst (v := nI 0) h dX11_roomsFor_27 (by decide) ?_
      refine g_putI h pfl_X11_69_10 sh_178 (by decide) rfl dX11_roomsFor_28 ?_
      refine g_aload_n h dX11_roomsFor_31 rfl rfl ?_
      refine g_getI h fl_X11_69_10 sh_178 (by decide) rfl dX11_roomsFor_32 ?_
      refine g_top su_k ?_
      refine g_if_le (tgt := 40) h dX11_roomsFor_35 (by decide) (fun _ => ?_) (fun q => absurd q (by decide))
      refine g_iconst (v := nI 0) h dX11_roomsFor_40 (by decide) ?_
      refine g_istore (ls' := [(0, _), (1, _), (2, _), (3, _), (4, _)]) h dX11_roomsFor_41 (by decide) rfl rfl ?_
      have LP : ∀ (j k : Nat) (w : Sto), 168 < k + j → k ≤ 168 → (sim w (su u 178 0 (nI 0)) ∧ ∀ j, j < k → w 185 j = rfF v a j) → G E X (QMP E X (PMr (cdL [ioob, iae]) (rfrR v (nI a) (nI N) z).1 u) 0) 10 0 43 [(0, .ref (E.ad 178)), (1, .int (nI a)), (2, .int (nI N)), (3, .int z), (4, .int (nI k))] [] w := by
        intro j
        induction j with
        | zero => intro k w h1 h2 hw; omega
        | succ j ih =>
          intro k w h1 h2 hw
          refine g_iload h dX11_roomsFor_43 rfl ?_
          refine g_sipush (v := nI 168) h dX11_roomsFor_45 (by decide) ?_
          refine g_icmp_ge (tgt := 135) h dX11_roomsFor_48 (by decide) (fun c48 => ?_) (fun c48 => ?_)
          · have n48 := le_n (by omega) (by omega) (show nI (168) ≤ nI (k) from c48)
            have hrow : ∀ j, j < 168 → w 185 j = rfF v a j := fun j hj => hw.2 j (by omega)
            refine g_iconst (v := -1) h dX11_roomsFor_135 (by decide) ?_
            refine g_istore (ls' := [(0, _), (1, _), (2, _), (3, _), (4, _)]) h dX11_roomsFor_136 (by decide) rfl rfl ?_
            refine g_iconst (v := -1) h dX11_roomsFor_138 (by decide) ?_
            refine g_istore (ls' := [(0, _), (1, _), (2, _), (3, _), (4, _), (5, _)]) h dX11_roomsFor_139 (by decide) rfl rfl ?_
            refine g_iconst (v := nI 0) h dX11_roomsFor_141 (by decide) ?_
            refine g_istore (ls' := [(0, _), (1, _), (2, _), (3, _), (4, _), (5, _), (6, _)]) h dX11_roomsFor_142 (by decide) rfl rfl ?_
            have LP2 : ∀ j2 r : Nat, 168 < r + j2 → r ≤ 168 → G E X (QMP E X (PMr (cdL [ioob, iae]) (rfrR v (nI a) (nI N) z).1 u) 0) 10 0 144 [(0, .ref (E.ad 178)), (1, .int (nI a)), (2, .int (nI N)), (3, .int z), (4, .int (feF (fun r => crF (rfF v a) r N 0 (nI 0)) r).1), (5, .int (feF (fun r => crF (rfF v a) r N 0 (nI 0)) r).2), (6, .int (nI r))] [] (w) := by
              intro j2
              induction j2 with
              | zero => intro r h1 h2; omega
              | succ j2 ih2 =>
                intro r h1 h2
                refine g_iload h dX11_roomsFor_144 rfl ?_
                refine g_sipush (v := nI 168) h dX11_roomsFor_146 (by decide) ?_
                refine g_icmp_ge (tgt := 257) h dX11_roomsFor_149 (by decide) (fun c149 => ?_) (fun c149 => ?_)
                · have n149 := le_n (by omega) (by omega) (show nI (168) ≤ nI (r) from c149)
                  refine g_iload_n h dX11_roomsFor_257 rfl rfl ?_
                  refine g_if_eq (tgt := 266) h dX11_roomsFor_258 (by decide) (fun c258 => ?_) (fun c258 => ?_)
                  · refine g_iload h dX11_roomsFor_266 rfl ?_
                    exact g_iretP h hrt dX11_roomsFor_268 (by omega) (pm_v (by rw [rfrR, if_pos n3, if_pos n17]) (by rw [ia, iN, rfr_eq hN0, if_pos c258, show r = 168 by omega]) hw.1)
                  · refine g_iload h dX11_roomsFor_261 rfl ?_
                    refine g_goto (tgt := 268) h dX11_roomsFor_263 (by decide) ?_
                    exact g_iretP h hrt dX11_roomsFor_268 (by omega) (pm_v (by rw [rfrR, if_pos n3, if_pos n17]) (by rw [ia, iN, rfr_eq hN0, if_neg c258, show r = 168 by omega]) hw.1)
                · have n149 := nle_n (by omega) (by omega) (show ¬ nI (168) ≤ nI (r) from c149)
                  refine g_iconst (v := nI 0) h dX11_roomsFor_152 (by decide) ?_
                  refine g_istore (ls' := [(0, _), (1, _), (2, _), (3, _), (4, _), (5, _), (6, _), (7, _)]) h dX11_roomsFor_153 (by decide) rfl rfl ?_
                  refine g_iconst (v := nI 1) h dX11_roomsFor_155 (by decide) ?_
                  refine g_istore (ls' := [(0, _), (1, _), (2, _), (3, _), (4, _), (5, _), (6, _), (7, _), (8, _)]) h dX11_roomsFor_156 (by decide) rfl rfl ?_
                  refine g_iconst (v := nI 0) h dX11_roomsFor_158 (by decide) ?_
                  refine g_istore (ls' := [(0, _), (1, _), (2, _), (3, _), (4, _), (5, _), (6, _), (7, _), (8, _), (9, _)]) h dX11_roomsFor_159 (by decide) rfl rfl ?_
                  have LP3 : ∀ j3 n : Nat, ∀ l c : Int32, ((c = nI 1 ∧ crF (rfF v a) r N 0 (nI 0) = crF (rfF v a) r (N - n) n l ∧ ∃ s, s ≤ n ∧ l = nI s) ∨ (c = nI 0 ∧ crF (rfF v a) r N 0 (nI 0) = -1)) → N < n + j3 → n ≤ N → G E X (QMP E X (PMr (cdL [ioob, iae]) (rfrR v (nI a) (nI N) z).1 u) 0) 10 0 161 [(0, .ref (E.ad 178)), (1, .int (nI a)), (2, .int (nI N)), (3, .int z), (4, .int (feF (fun r => crF (rfF v a) r N 0 (nI 0)) r).1), (5, .int (feF (fun r => crF (rfF v a) r N 0 (nI 0)) r).2), (6, .int (nI r)), (7, .int l), (8, .int c), (9, .int (nI n))] [] (w) := by
                    intro j3
                    induction j3 with
                    | zero => intro n l c hc h1 h2; omega
                    | succ j3 ih3 =>
                      intro n l c hc h1 h2
                      refine g_iload h dX11_roomsFor_161 rfl ?_
                      refine g_iload_n h dX11_roomsFor_163 rfl rfl ?_
                      refine g_icmp_ge (tgt := 222) h dX11_roomsFor_164 (by decide) (fun c164 => ?_) (fun c164 => ?_)
                      · have n164 := le_n (by omega) (by omega) (show nI (N) ≤ nI (n) from c164)
                        rw [show N - n = 0 by omega] at hc
                        refine g_iload h dX11_roomsFor_222 rfl ?_
                        refine g_if_eq (tgt := 251) h dX11_roomsFor_224 (by decide) (fun c224 => ?_) (fun c224 => ?_)
                        · have hz := hc.resolve_left (fun q => absurd (q.1.symm.trans c224) (by decide))
                          refine g_iinc (v := nI (r + 1)) (ls' := [(0, _), (1, _), (2, _), (3, _), (4, _), (5, _), (6, _), (7, _), (8, _), (9, _)]) h dX11_roomsFor_251 rfl (nI_1 r) (by decide) rfl rfl ?_
                          refine g_goto (tgt := 144) h dX11_roomsFor_254 (by decide) ?_
                          refine g_del 7 (ls' := [(0, _), (1, _), (2, _), (3, _), (4, _), (5, _), (6, _), (8, _), (9, _)]) rfl ?_
                          refine g_del 8 (ls' := [(0, _), (1, _), (2, _), (3, _), (4, _), (5, _), (6, _), (9, _)]) rfl ?_
                          refine g_del 9 (ls' := [(0, _), (1, _), (2, _), (3, _), (4, _), (5, _), (6, _)]) rfl ?_
                          exact g_cv (by rw [fe_0 (f := (fun r => crF (rfF v a) r N 0 (nI 0))) hz.2 (fun q => q.1 rfl)]) rfl (ih2 (r + 1) (by omega) (by omega))
                        · have ho := hc.resolve_right (fun q => c224 q.1)
                          obtain ⟨s9, hs9, el⟩ := ho.2.2
                          refine g_iload h dX11_roomsFor_227 rfl ?_
                          refine g_iconst (v := -1) h dX11_roomsFor_229 (by decide) ?_
                          refine g_icmp_eq (tgt := 243) h dX11_roomsFor_230 (by decide) (fun c230 => ?_) (fun c230 => ?_)
                          · refine g_iload h dX11_roomsFor_243 rfl ?_
                            refine g_istore (ls' := [(0, _), (1, _), (2, _), (3, _), (4, _), (5, _), (6, _), (7, _), (8, _), (9, _)]) h dX11_roomsFor_245 (by decide) rfl rfl ?_
                            refine g_iload h dX11_roomsFor_247 rfl ?_
                            refine g_istore (ls' := [(0, _), (1, _), (2, _), (3, _), (4, _), (5, _), (6, _), (7, _), (8, _), (9, _)]) h dX11_roomsFor_249 (by decide) rfl rfl ?_
                            refine g_iinc (v := nI (r + 1)) (ls' := [(0, _), (1, _), (2, _), (3, _), (4, _), (5, _), (6, _), (7, _), (8, _), (9, _)]) h dX11_roomsFor_251 rfl (nI_1 r) (by decide) rfl rfl ?_
                            refine g_goto (tgt := 144) h dX11_roomsFor_254 (by decide) ?_
                            refine g_del 7 (ls' := [(0, _), (1, _), (2, _), (3, _), (4, _), (5, _), (6, _), (8, _), (9, _)]) rfl ?_
                            refine g_del 8 (ls' := [(0, _), (1, _), (2, _), (3, _), (4, _), (5, _), (6, _), (9, _)]) rfl ?_
                            refine g_del 9 (ls' := [(0, _), (1, _), (2, _), (3, _), (4, _), (5, _), (6, _)]) rfl ?_
                            exact g_cv (by rw [fe_1 (f := (fun r => crF (rfF v a) r N 0 (nI 0))) (show (fun r => crF (rfF v a) r N 0 (nI 0)) r = l from ho.2.1) (by rw [el]; exact nI_m1 (by omega)) (Or.inl ((fe_n (by omega)).mpr c230))]) rfl (ih2 (r + 1) (by omega) (by omega))
                          · refine g_iload h dX11_roomsFor_233 rfl ?_
                            refine g_iload h dX11_roomsFor_235 rfl ?_
                            refine g_icmp_lt (tgt := 243) h dX11_roomsFor_237 (by decide) (fun c237 => ?_) (fun c237 => ?_)
                            · refine g_iload h dX11_roomsFor_243 rfl ?_
                              refine g_istore (ls' := [(0, _), (1, _), (2, _), (3, _), (4, _), (5, _), (6, _), (7, _), (8, _), (9, _)]) h dX11_roomsFor_245 (by decide) rfl rfl ?_
                              refine g_iload h dX11_roomsFor_247 rfl ?_
                              refine g_istore (ls' := [(0, _), (1, _), (2, _), (3, _), (4, _), (5, _), (6, _), (7, _), (8, _), (9, _)]) h dX11_roomsFor_249 (by decide) rfl rfl ?_
                              refine g_iinc (v := nI (r + 1)) (ls' := [(0, _), (1, _), (2, _), (3, _), (4, _), (5, _), (6, _), (7, _), (8, _), (9, _)]) h dX11_roomsFor_251 rfl (nI_1 r) (by decide) rfl rfl ?_
                              refine g_goto (tgt := 144) h dX11_roomsFor_254 (by decide) ?_
                              refine g_del 7 (ls' := [(0, _), (1, _), (2, _), (3, _), (4, _), (5, _), (6, _), (8, _), (9, _)]) rfl ?_
                              refine g_del 8 (ls' := [(0, _), (1, _), (2, _), (3, _), (4, _), (5, _), (6, _), (9, _)]) rfl ?_
                              refine g_del 9 (ls' := [(0, _), (1, _), (2, _), (3, _), (4, _), (5, _), (6, _)]) rfl ?_
                              exact g_cv (by rw [fe_1 (f := (fun r => crF (rfF v a) r N 0 (nI 0))) (show (fun r => crF (rfF v a) r N 0 (nI 0)) r = l from ho.2.1) (by rw [el]; exact nI_m1 (by omega)) (Or.inr c237)]) rfl (ih2 (r + 1) (by omega) (by omega))
                            · refine g_goto (tgt := 251) h dX11_roomsFor_240 (by decide) ?_
                              refine g_iinc (v := nI (r + 1)) (ls' := [(0, _), (1, _), (2, _), (3, _), (4, _), (5, _), (6, _), (7, _), (8, _), (9, _)]) h dX11_roomsFor_251 rfl (nI_1 r) (by decide) rfl rfl ?_
                              refine g_goto (tgt := 144) h dX11_roomsFor_254 (by decide) ?_
                              refine g_del 7 (ls' := [(0, _), (1, _), (2, _), (3, _), (4, _), (5, _), (6, _), (8, _), (9, _)]) rfl ?_
                              refine g_del 8 (ls' := [(0, _), (1, _), (2, _), (3, _), (4, _), (5, _), (6, _), (9, _)]) rfl ?_
                              refine g_del 9 (ls' := [(0, _), (1, _), (2, _), (3, _), (4, _), (5, _), (6, _)]) rfl ?_
                              exact g_cv (by rw [fe_0 (f := (fun r => crF (rfF v a) r N 0 (nI 0))) (show (fun r => crF (rfF v a) r N 0 (nI 0)) r = l from ho.2.1) (fun q => q.2.elim (fun q => c230 ((fe_n (by omega)).mp q)) (fun q => by first | exact c237 q | exact absurd q (Int32.not_lt.mpr c237)))]) rfl (ih2 (r + 1) (by omega) (by omega))
                      · have n164 := nle_n (by omega) (by omega) (show ¬ nI (N) ≤ nI (n) from c164)
                        have hrm := rt_mod r n
                        refine g_iload h dX11_roomsFor_167 rfl ?_
                        refine g_if_eq (tgt := 194) h dX11_roomsFor_169 (by decide) (fun c169 => ?_) (fun c169 => ?_)
                        · have hz := hc.resolve_left (fun q => absurd (q.1.symm.trans c169) (by decide))
                          refine g_iconst (v := nI 0) h dX11_roomsFor_194 (by decide) ?_
                          refine g_istore (ls' := [(0, _), (1, _), (2, _), (3, _), (4, _), (5, _), (6, _), (7, _), (8, _), (9, _)]) h dX11_roomsFor_195 (by decide) rfl rfl ?_
                          refine g_iload h dX11_roomsFor_197 rfl ?_
                          refine g_aload_n h dX11_roomsFor_199 rfl rfl ?_
                          refine g_getR h fl_X11_32_10 sh_178 (by decide) rfl dX11_roomsFor_200 ?_
                          refine g_iload h dX11_roomsFor_203 rfl ?_
                          refine g_iload h dX11_roomsFor_205 rfl ?_
                          refine g_iadd h dX11_roomsFor_207 ?_
                          refine g_top (nI_add _ _) ?_
                          refine g_sipush (v := nI 168) h dX11_roomsFor_208 (by decide) ?_
                          refine g_irem h dX11_roomsFor_211 (by decide) ?_
                          refine g_top (y := nI ((r + n) % 168)) (pk_rem (by omega) (by omega) (by omega)) ?_
                          refine g_iald h _ _ _ sh_185 (by decide) (by decide) rfl (by omega) dX11_roomsFor_212 ?_
                          refine g_top (hrow _ hrm) ?_
                          refine g_iadd h dX11_roomsFor_213 ?_
                          refine g_istore (ls' := [(0, _), (1, _), (2, _), (3, _), (4, _), (5, _), (6, _), (7, _), (8, _), (9, _)]) h dX11_roomsFor_214 (by decide) rfl rfl ?_
                          refine g_iinc (v := nI (n + 1)) (ls' := [(0, _), (1, _), (2, _), (3, _), (4, _), (5, _), (6, _), (7, _), (8, _), (9, _)]) h dX11_roomsFor_216 rfl (nI_1 n) (by decide) rfl rfl ?_
                          refine g_goto (tgt := 161) h dX11_roomsFor_219 (by decide) ?_
                          exact ih3 (n + 1) _ _ (Or.inr ⟨rfl, hz.2⟩) (by omega) (by omega)
                        · have ho := hc.resolve_right (fun q => c169 q.1)
                          refine g_aload_n h dX11_roomsFor_172 rfl rfl ?_
                          refine g_getR h fl_X11_32_10 sh_178 (by decide) rfl dX11_roomsFor_173 ?_
                          refine g_iload h dX11_roomsFor_176 rfl ?_
                          refine g_iload h dX11_roomsFor_178 rfl ?_
                          refine g_iadd h dX11_roomsFor_180 ?_
                          refine g_top (nI_add _ _) ?_
                          refine g_sipush (v := nI 168) h dX11_roomsFor_181 (by decide) ?_
                          refine g_irem h dX11_roomsFor_184 (by decide) ?_
                          refine g_top (y := nI ((r + n) % 168)) (pk_rem (by omega) (by omega) (by omega)) ?_
                          refine g_iald h _ _ _ sh_185 (by decide) (by decide) rfl (by omega) dX11_roomsFor_185 ?_
                          refine g_top (hrow _ hrm) ?_
                          refine g_iconst (v := -1) h dX11_roomsFor_186 (by decide) ?_
                          refine g_icmp_eq (tgt := 194) h dX11_roomsFor_187 (by decide) (fun c187 => ?_) (fun c187 => ?_)
                          · refine g_iconst (v := nI 0) h dX11_roomsFor_194 (by decide) ?_
                            refine g_istore (ls' := [(0, _), (1, _), (2, _), (3, _), (4, _), (5, _), (6, _), (7, _), (8, _), (9, _)]) h dX11_roomsFor_195 (by decide) rfl rfl ?_
                            refine g_iload h dX11_roomsFor_197 rfl ?_
                            refine g_aload_n h dX11_roomsFor_199 rfl rfl ?_
                            refine g_getR h fl_X11_32_10 sh_178 (by decide) rfl dX11_roomsFor_200 ?_
                            refine g_iload h dX11_roomsFor_203 rfl ?_
                            refine g_iload h dX11_roomsFor_205 rfl ?_
                            refine g_iadd h dX11_roomsFor_207 ?_
                            refine g_top (nI_add _ _) ?_
                            refine g_sipush (v := nI 168) h dX11_roomsFor_208 (by decide) ?_
                            refine g_irem h dX11_roomsFor_211 (by decide) ?_
                            refine g_top (y := nI ((r + n) % 168)) (pk_rem (by omega) (by omega) (by omega)) ?_
                            refine g_iald h _ _ _ sh_185 (by decide) (by decide) rfl (by omega) dX11_roomsFor_212 ?_
                            refine g_top (hrow _ hrm) ?_
                            refine g_iadd h dX11_roomsFor_213 ?_
                            refine g_istore (ls' := [(0, _), (1, _), (2, _), (3, _), (4, _), (5, _), (6, _), (7, _), (8, _), (9, _)]) h dX11_roomsFor_214 (by decide) rfl rfl ?_
                            refine g_iinc (v := nI (n + 1)) (ls' := [(0, _), (1, _), (2, _), (3, _), (4, _), (5, _), (6, _), (7, _), (8, _), (9, _)]) h dX11_roomsFor_216 rfl (nI_1 n) (by decide) rfl rfl ?_
                            refine g_goto (tgt := 161) h dX11_roomsFor_219 (by decide) ?_
                            exact ih3 (n + 1) _ _ (Or.inr ⟨rfl, ho.2.1.trans (cr_m (by omega) c187)⟩) (by omega) (by omega)
                          · refine g_iconst (v := nI 1) h dX11_roomsFor_190 (by decide) ?_
                            refine g_goto (tgt := 195) h dX11_roomsFor_191 (by decide) ?_
                            refine g_istore (ls' := [(0, _), (1, _), (2, _), (3, _), (4, _), (5, _), (6, _), (7, _), (8, _), (9, _)]) h dX11_roomsFor_195 (by decide) rfl rfl ?_
                            refine g_iload h dX11_roomsFor_197 rfl ?_
                            refine g_aload_n h dX11_roomsFor_199 rfl rfl ?_
                            refine g_getR h fl_X11_32_10 sh_178 (by decide) rfl dX11_roomsFor_200 ?_
                            refine g_iload h dX11_roomsFor_203 rfl ?_
                            refine g_iload h dX11_roomsFor_205 rfl ?_
                            refine g_iadd h dX11_roomsFor_207 ?_
                            refine g_top (nI_add _ _) ?_
                            refine g_sipush (v := nI 168) h dX11_roomsFor_208 (by decide) ?_
                            refine g_irem h dX11_roomsFor_211 (by decide) ?_
                            refine g_top (y := nI ((r + n) % 168)) (pk_rem (by omega) (by omega) (by omega)) ?_
                            refine g_iald h _ _ _ sh_185 (by decide) (by decide) rfl (by omega) dX11_roomsFor_212 ?_
                            refine g_top (hrow _ hrm) ?_
                            refine g_iadd h dX11_roomsFor_213 ?_
                            refine g_istore (ls' := [(0, _), (1, _), (2, _), (3, _), (4, _), (5, _), (6, _), (7, _), (8, _), (9, _)]) h dX11_roomsFor_214 (by decide) rfl rfl ?_
                            refine g_iinc (v := nI (n + 1)) (ls' := [(0, _), (1, _), (2, _), (3, _), (4, _), (5, _), (6, _), (7, _), (8, _), (9, _)]) h dX11_roomsFor_216 rfl (nI_1 n) (by decide) rfl rfl ?_
                            refine g_goto (tgt := 161) h dX11_roomsFor_219 (by decide) ?_
                            obtain ⟨s9, hs9, el⟩ := ho.2.2
                            refine ih3 (n + 1) _ _ (Or.inl ⟨rfl, ho.2.1.trans (cr_k (by omega) c187), ?_⟩) (by omega) (by omega)
                            rcases rf01 c187 with e9 | e9
                            · exact ⟨s9, by omega, by rw [e9, el]; exact nI_add _ _⟩
                            · exact ⟨s9 + 1, by omega, by rw [e9, el]; exact nI_add _ _⟩
                  exact LP3 (N + 1) (0) _ _ (Or.inl ⟨rfl, rfl, 0, Nat.le_refl _, rfl⟩) (by omega) (by omega)
                  
            exact LP2 (168 + 1) (0) (by omega) (by omega)
            
          · have n48 := nle_n (by omega) (by omega) (show ¬ nI (168) ≤ nI (k) from c48)
            refine g_aload_n h dX11_roomsFor_51 rfl rfl ?_
            refine g_iload_n h dX11_roomsFor_52 rfl rfl ?_
            refine g_V h lv_X11_80_X11 sh_178 (by decide) rfl (c_X11_isChild a v T W ha w (hK.th.sim hw.1).r) (fitR hR (by first | decide | omega) (by decide) (by omega)) rfl rfl (Nat.le_of_ble_eq_true rfl) dX11_roomsFor_53 ?_
            by_cases n53 : v 13 a = -1
            · refine g_top (b2_f (fun q => q n53)) ?_
              refine g_if_ne (tgt := 83) h dX11_roomsFor_56 (by decide) (fun q => absurd q (by decide)) (fun _ => ?_)
              refine g_aload_n h dX11_roomsFor_59 rfl rfl ?_
              refine g_iload h dX11_roomsFor_60 rfl ?_
              refine g_iconst (v := nI 3) h dX11_roomsFor_62 (by decide) ?_
              refine g_V h lv_X11_84_X11 sh_178 (by decide) rfl (c_X11_ofRoom k 3 (by omega) (by decide) w) (fitR hR (by first | decide | omega) (by decide) (by omega)) rfl rfl (Nat.le_of_ble_eq_true rfl) dX11_roomsFor_63 ?_
              refine g_top ((hK.th.sim hw.1).sht (by omega)) ?_
              refine g_if_ne (tgt := 83) h dX11_roomsFor_66 (by decide) (fun c66 => ?_) (fun c66 => ?_)
              · refine g_iconst (v := nI 0) h dX11_roomsFor_83 (by decide) ?_
                refine g_istore (ls' := [(0, _), (1, _), (2, _), (3, _), (4, _), (5, _)]) h dX11_roomsFor_84 (by decide) rfl rfl ?_
                refine g_aload_n h dX11_roomsFor_86 rfl rfl ?_
                refine g_getR h fl_X11_32_10 sh_178 (by decide) rfl dX11_roomsFor_87 ?_
                refine g_iload h dX11_roomsFor_90 rfl ?_
                refine g_iload h dX11_roomsFor_92 rfl ?_
                refine g_if_ne (tgt := 101) h dX11_roomsFor_94 (by decide) (fun q => absurd q (by decide)) (fun _ => ?_)
                refine g_iconst (v := -1) h dX11_roomsFor_97 (by decide) ?_
                refine g_goto (tgt := 128) h dX11_roomsFor_98 (by decide) ?_
                refine g_top (y := rfF v a k) (show _ = rfF v a k by rw [rfF, if_pos n53, coI, if_pos (Or.inl c66)]) ?_
                refine g_iast h _ _ _ sh_185 (by decide) (by decide) rfl (by omega) dX11_roomsFor_128 ?_
                refine g_iinc (v := nI (k + 1)) (ls' := [(0, _), (1, _), (2, _), (3, _), (4, _), (5, _)]) h dX11_roomsFor_129 rfl (nI_1 k) (by decide) rfl rfl ?_
                refine g_goto (tgt := 43) h dX11_roomsFor_132 (by decide) ?_
                refine g_del 5 (ls' := [(0, _), (1, _), (2, _), (3, _), (4, _)]) rfl ?_
                exact ih (k + 1) _ (by omega) (by omega) ⟨sim_scr hw.1 _ (scr_m (by decide)), fun j hj => by
                  by_cases q : j = k
                  · subst q; exact su_k
                  · rw [su_i q]; exact hw.2 j (by omega)⟩
              · refine g_aload_n h dX11_roomsFor_69 rfl rfl ?_
                refine g_iload_n h dX11_roomsFor_70 rfl rfl ?_
                refine g_iload h dX11_roomsFor_71 rfl ?_
                refine g_VP h lv_X11_314_X11 sh_178 (by decide) rfl (c_X11_isBarredA v T W a k ha (by omega) w (hK.th.sim hw.1)) pa_nx (fitR hR (by first | decide | omega) (by decide) (by omega)) rfl rfl (Nat.le_of_ble_eq_true rfl) dX11_roomsFor_73 (fun v73 u73 hs73 => ?_)
                obtain ⟨hv73, hs73⟩ := hs73
                cases hv73
                refine g_if_ne (tgt := 83) h dX11_roomsFor_76 (by decide) (fun c76 => ?_) (fun c76 => ?_)
                · refine g_iconst (v := nI 0) h dX11_roomsFor_83 (by decide) ?_
                  refine g_istore (ls' := [(0, _), (1, _), (2, _), (3, _), (4, _), (5, _)]) h dX11_roomsFor_84 (by decide) rfl rfl ?_
                  refine g_aload_n h dX11_roomsFor_86 rfl rfl ?_
                  refine g_getR h fl_X11_32_10 sh_178 (by decide) rfl dX11_roomsFor_87 ?_
                  refine g_iload h dX11_roomsFor_90 rfl ?_
                  refine g_iload h dX11_roomsFor_92 rfl ?_
                  refine g_if_ne (tgt := 101) h dX11_roomsFor_94 (by decide) (fun q => absurd q (by decide)) (fun _ => ?_)
                  refine g_iconst (v := -1) h dX11_roomsFor_97 (by decide) ?_
                  refine g_goto (tgt := 128) h dX11_roomsFor_98 (by decide) ?_
                  refine g_top (y := rfF v a k) (show _ = rfF v a k by rw [rfF, if_pos n53, coI, if_pos (Or.inr (b2_n0.mp c76))]) ?_
                  refine g_iast h _ _ _ sh_185 (by decide) (by decide) rfl (by omega) dX11_roomsFor_128 ?_
                  refine g_iinc (v := nI (k + 1)) (ls' := [(0, _), (1, _), (2, _), (3, _), (4, _), (5, _)]) h dX11_roomsFor_129 rfl (nI_1 k) (by decide) rfl rfl ?_
                  refine g_goto (tgt := 43) h dX11_roomsFor_132 (by decide) ?_
                  refine g_del 5 (ls' := [(0, _), (1, _), (2, _), (3, _), (4, _)]) rfl ?_
                  exact ih (k + 1) _ (by omega) (by omega) ⟨sim_scr (hs73.2.trans hw.1) _ (scr_m (by decide)), fun j hj => by
                    by_cases q : j = k
                    · subst q; exact su_k
                    · rw [su_i q]; rw [hs73.1 185 (by decide) (by decide)]; exact hw.2 j (by omega)⟩
                · refine g_iconst (v := nI 1) h dX11_roomsFor_79 (by decide) ?_
                  refine g_goto (tgt := 84) h dX11_roomsFor_80 (by decide) ?_
                  refine g_istore (ls' := [(0, _), (1, _), (2, _), (3, _), (4, _), (5, _)]) h dX11_roomsFor_84 (by decide) rfl rfl ?_
                  refine g_aload_n h dX11_roomsFor_86 rfl rfl ?_
                  refine g_getR h fl_X11_32_10 sh_178 (by decide) rfl dX11_roomsFor_87 ?_
                  refine g_iload h dX11_roomsFor_90 rfl ?_
                  refine g_iload h dX11_roomsFor_92 rfl ?_
                  refine g_if_ne (tgt := 101) h dX11_roomsFor_94 (by decide) (fun _ => ?_) (fun q => absurd q (by decide))
                  refine g_aload_n h dX11_roomsFor_101 rfl rfl ?_
                  refine g_iload h dX11_roomsFor_102 rfl ?_
                  refine g_iconst (v := nI 0) h dX11_roomsFor_104 (by decide) ?_
                  refine g_V h lv_X11_84_X11 sh_178 (by decide) rfl (c_X11_ofRoom k 0 (by omega) (by decide) u73) (fitR hR (by first | decide | omega) (by decide) (by omega)) rfl rfl (Nat.le_of_ble_eq_true rfl) dX11_roomsFor_105 ?_
                  refine g_top ((hK.th.sim (hs73.2.trans hw.1)).own (by omega)) ?_
                  refine g_iconst (v := -1) h dX11_roomsFor_108 (by decide) ?_
                  refine g_icmp_eq (tgt := 123) h dX11_roomsFor_109 (by decide) (fun c109 => ?_) (fun c109 => ?_)
                  · refine g_iconst (v := nI 0) h dX11_roomsFor_123 (by decide) ?_
                    refine g_goto (tgt := 128) h dX11_roomsFor_124 (by decide) ?_
                    refine g_top (y := rfF v a k) (show _ = rfF v a k by rw [rfF, if_pos n53, coI, if_neg (show ¬ coP v a k from fun q => q.elim (fun q => q c66) (fun q => b2_0.mp c76 q)), if_pos (Or.inl c109)]) ?_
                    refine g_iast h _ _ _ sh_185 (by decide) (by decide) rfl (by omega) dX11_roomsFor_128 ?_
                    refine g_iinc (v := nI (k + 1)) (ls' := [(0, _), (1, _), (2, _), (3, _), (4, _), (5, _)]) h dX11_roomsFor_129 rfl (nI_1 k) (by decide) rfl rfl ?_
                    refine g_goto (tgt := 43) h dX11_roomsFor_132 (by decide) ?_
                    refine g_del 5 (ls' := [(0, _), (1, _), (2, _), (3, _), (4, _)]) rfl ?_
                    exact ih (k + 1) _ (by omega) (by omega) ⟨sim_scr (hs73.2.trans hw.1) _ (scr_m (by decide)), fun j hj => by
                      by_cases q : j = k
                      · subst q; exact su_k
                      · rw [su_i q]; rw [hs73.1 185 (by decide) (by decide)]; exact hw.2 j (by omega)⟩
                  · refine g_aload_n h dX11_roomsFor_112 rfl rfl ?_
                    refine g_iload h dX11_roomsFor_113 rfl ?_
                    refine g_iconst (v := nI 0) h dX11_roomsFor_115 (by decide) ?_
                    refine g_V h lv_X11_84_X11 sh_178 (by decide) rfl (c_X11_ofRoom k 0 (by omega) (by decide) u73) (fitR hR (by first | decide | omega) (by decide) (by omega)) rfl rfl (Nat.le_of_ble_eq_true rfl) dX11_roomsFor_116 ?_
                    refine g_top ((hK.th.sim (hs73.2.trans hw.1)).own (by omega)) ?_
                    refine g_iload_n h dX11_roomsFor_119 rfl rfl ?_
                    refine g_icmp_ne (tgt := 127) h dX11_roomsFor_120 (by decide) (fun c120 => ?_) (fun c120 => ?_)
                    · refine g_iconst (v := nI 1) h dX11_roomsFor_127 (by decide) ?_
                      refine g_top (y := rfF v a k) (show _ = rfF v a k by rw [rfF, if_pos n53, coI, if_neg (show ¬ coP v a k from fun q => q.elim (fun q => q c66) (fun q => b2_0.mp c76 q)), if_neg (show ¬ coQ v a k from fun q => q.elim c109 c120)]) ?_
                      refine g_iast h _ _ _ sh_185 (by decide) (by decide) rfl (by omega) dX11_roomsFor_128 ?_
                      refine g_iinc (v := nI (k + 1)) (ls' := [(0, _), (1, _), (2, _), (3, _), (4, _), (5, _)]) h dX11_roomsFor_129 rfl (nI_1 k) (by decide) rfl rfl ?_
                      refine g_goto (tgt := 43) h dX11_roomsFor_132 (by decide) ?_
                      refine g_del 5 (ls' := [(0, _), (1, _), (2, _), (3, _), (4, _)]) rfl ?_
                      exact ih (k + 1) _ (by omega) (by omega) ⟨sim_scr (hs73.2.trans hw.1) _ (scr_m (by decide)), fun j hj => by
                        by_cases q : j = k
                        · subst q; exact su_k
                        · rw [su_i q]; rw [hs73.1 185 (by decide) (by decide)]; exact hw.2 j (by omega)⟩
                    · refine g_iconst (v := nI 0) h dX11_roomsFor_123 (by decide) ?_
                      refine g_goto (tgt := 128) h dX11_roomsFor_124 (by decide) ?_
                      refine g_top (y := rfF v a k) (show _ = rfF v a k by rw [rfF, if_pos n53, coI, if_neg (show ¬ coP v a k from fun q => q.elim (fun q => q c66) (fun q => b2_0.mp c76 q)), if_pos (Or.inr c120)]) ?_
                      refine g_iast h _ _ _ sh_185 (by decide) (by decide) rfl (by omega) dX11_roomsFor_128 ?_
                      refine g_iinc (v := nI (k + 1)) (ls' := [(0, _), (1, _), (2, _), (3, _), (4, _), (5, _)]) h dX11_roomsFor_129 rfl (nI_1 k) (by decide) rfl rfl ?_
                      refine g_goto (tgt := 43) h dX11_roomsFor_132 (by decide) ?_
                      refine g_del 5 (ls' := [(0, _), (1, _), (2, _), (3, _), (4, _)]) rfl ?_
                      exact ih (k + 1) _ (by omega) (by omega) ⟨sim_scr (hs73.2.trans hw.1) _ (scr_m (by decide)), fun j hj => by
                        by_cases q : j = k
                        · subst q; exact su_k
                        · rw [su_i q]; rw [hs73.1 185 (by decide) (by decide)]; exact hw.2 j (by omega)⟩
            · refine g_top (b2_t n53) ?_
              refine g_if_ne (tgt := 83) h dX11_roomsFor_56 (by decide) (fun _ => ?_) (fun q => absurd q (by decide))
              refine g_iconst (v := nI 0) h dX11_roomsFor_83 (by decide) ?_
              refine g_istore (ls' := [(0, _), (1, _), (2, _), (3, _), (4, _), (5, _)]) h dX11_roomsFor_84 (by decide) rfl rfl ?_
              refine g_aload_n h dX11_roomsFor_86 rfl rfl ?_
              refine g_getR h fl_X11_32_10 sh_178 (by decide) rfl dX11_roomsFor_87 ?_
              refine g_iload h dX11_roomsFor_90 rfl ?_
              refine g_iload h dX11_roomsFor_92 rfl ?_
              refine g_if_ne (tgt := 101) h dX11_roomsFor_94 (by decide) (fun q => absurd q (by decide)) (fun _ => ?_)
              refine g_iconst (v := -1) h dX11_roomsFor_97 (by decide) ?_
              refine g_goto (tgt := 128) h dX11_roomsFor_98 (by decide) ?_
              refine g_top (y := rfF v a k) ((if_neg n53).symm) ?_
              refine g_iast h _ _ _ sh_185 (by decide) (by decide) rfl (by omega) dX11_roomsFor_128 ?_
              refine g_iinc (v := nI (k + 1)) (ls' := [(0, _), (1, _), (2, _), (3, _), (4, _), (5, _)]) h dX11_roomsFor_129 rfl (nI_1 k) (by decide) rfl rfl ?_
              refine g_goto (tgt := 43) h dX11_roomsFor_132 (by decide) ?_
              refine g_del 5 (ls' := [(0, _), (1, _), (2, _), (3, _), (4, _)]) rfl ?_
              exact ih (k + 1) _ (by omega) (by omega) ⟨sim_scr hw.1 _ (scr_m (by decide)), fun j hj => by
                by_cases q : j = k
                · subst q; exact su_k
                · rw [su_i q]; exact hw.2 j (by omega)⟩
      exact LP (168 + 1) 0 _ (by omega) (by omega) ⟨sim.refl _, fun j hj => absurd hj (Nat.not_lt_zero _)⟩
      
    · refine g_top (b2_f n17) ?_
      refine g_if_ne (tgt := 27) h dX11_roomsFor_20 (by decide) (fun q => absurd q (by decide)) (fun _ => ?_)
      refine g_iconst (v := nI 2) h dX11_roomsFor_23 (by decide) ?_
      refine g_goto (tgt := 28) h dX11_roomsFor_24 (by decide) ?_
      refine g_putI h pfl_X11_69_10 sh_178 (by decide) rfl dX11_roomsFor_28 ?_
      refine g_aload_n h dX11_roomsFor_31 rfl rfl ?_
      refine g_getI h fl_X11_69_10 sh_178 (by decide) rfl dX11_roomsFor_32 ?_
      refine g_top su_k ?_
      refine g_if_le (tgt := 40) h dX11_roomsFor_35 (by decide) (fun q => absurd q (by decide)) (fun _ => ?_)
      refine g_iconst (v := nI 0) h dX11_roomsFor_38 (by decide) ?_
      exact g_iretP h hrt dX11_roomsFor_39 (by omega) (by first | exact pm_x (Ex := ioob) (by rw [rfrR, if_pos n3, if_neg n17]) (by decide) (sim.refl _) | exact pm_x (Ex := iae) (by rw [rfrR, if_pos n3, if_neg n17]) (by decide) (sim.refl _))
  · refine g_top (b2_f n3) ?_
    refine g_if_ne (tgt := 13) h dX11_roomsFor_6 (by decide) (fun q => absurd q (by decide)) (fun _ => ?_)
    refine g_iconst (v := nI 1) h dX11_roomsFor_9 (by decide) ?_
    refine g_goto (tgt := 28) h dX11_roomsFor_10 (by decide) ?_
    refine g_putI h pfl_X11_69_10 sh_178 (by decide) rfl dX11_roomsFor_28 ?_
    refine g_aload_n h dX11_roomsFor_31 rfl rfl ?_
    refine g_getI h fl_X11_69_10 sh_178 (by decide) rfl dX11_roomsFor_32 ?_
    refine g_top su_k ?_
    refine g_if_le (tgt := 40) h dX11_roomsFor_35 (by decide) (fun q => absurd q (by decide)) (fun _ => ?_)
    refine g_iconst (v := nI 0) h dX11_roomsFor_38 (by decide) ?_
    exact g_iretP h hrt dX11_roomsFor_39 (by omega) (by first | exact pm_x (Ex := ioob) (by rw [rfrR, if_neg n3]) (by decide) (sim.refl _) | exact pm_x (Ex := iae) (by rw [rfrR, if_neg n3]) (by decide) (sim.refl _))
