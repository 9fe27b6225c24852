-- after: 90.nu
theorem nI_d {k : Nat} (h : 0 < k) : nI k + Int32.ofInt (-1) = nI (k - 1) := by
  rw [← pk_sub (a := k) (b := 1) h, Int32.sub_eq_add_neg]
  rfl
def mvF (f g : Nat → Int32) (n : Nat) : Nat → Int32 := fun j => if j < n then g j else f j
theorem mv_s {f g : Nat → Int32} {n : Nat} : upd (mvF f g n) n (g n) = mvF f g (n + 1) := by
  funext j
  unfold upd mvF
  by_cases e : j = n
  · subst e; rw [if_pos rfl, if_pos (Nat.lt_succ_self _)]
  · rw [if_neg e]
    by_cases q : j < n
    · rw [if_pos q, if_pos (by omega)]
    · rw [if_neg q, if_neg (by omega)]
theorem mv_0 {f g : Nat → Int32} : mvF f g 0 = f := by funext j; unfold mvF; rw [if_neg (by omega)]
theorem mv_lo {f g : Nat → Int32} {n j : Nat} (h : j < n) : mvF f g n j = g j := if_pos h
theorem mv_hi {f g : Nat → Int32} {n j : Nat} (h : n ≤ j) : mvF f g n j = f j := if_neg (by omega)
def mvO (f g : Nat → Int32) (o n : Nat) : Nat → Int32 := fun j => if o ≤ j ∧ j < o + n then g (j - o) else f j
theorem mo_s {f g : Nat → Int32} {o n : Nat} : upd (mvO f g o n) (o + n) (g n) = mvO f g o (n + 1) := by
  funext j
  unfold upd mvO
  by_cases e : j = o + n
  · subst e; rw [if_pos rfl, if_pos (by omega), show o + n - o = n by omega]
  · rw [if_neg e]
    by_cases q : o ≤ j ∧ j < o + n
    · rw [if_pos q, if_pos (by omega)]
    · rw [if_neg q, if_neg (by omega)]
theorem mo_0 {f g : Nat → Int32} {o : Nat} : mvO f g o 0 = f := by funext j; unfold mvO; rw [if_neg (by omega)]
theorem mo_in {f g : Nat → Int32} {o n j : Nat} (h : j < n) : mvO f g o n (o + j) = g j := by unfold mvO; rw [if_pos (by omega), show o + j - o = j by omega]
theorem mo_lo {f g : Nat → Int32} {o n j : Nat} (h : j < o) : mvO f g o n j = f j := by unfold mvO; rw [if_neg (by omega)]
theorem sc_k {u : Sto} {k : Nat} : sc u k (u k) = u := sc_self u k
theorem sc_i {u : Sto} {c : Nat} {f : Nat → Int32} (h : f = u c) : sc u c f = u := by rw [h]; exact sc_self u c
def u0 (u : Sto) : Sto := su u 178 0 (nI 0)
theorem u0_c {u : Sto} {k : Nat} (h : k ≠ 178) : u0 u k = u k := su_cell _ _ h
theorem u0_j {u : Sto} {j : Nat} (h : j ≠ 0) : u0 u 178 j = u 178 j := su_i h
theorem cn_0 {v : Sto} : cntV v (nI 0) = v 10 8 := by rw [cntV, if_pos rfl]
theorem cn_1 {v : Sto} : cntV v (nI 1) = v 10 11 := by rw [cntV, if_neg (by decide), if_pos rfl]
theorem cn_2 {v : Sto} : cntV v (nI 2) = v 19 5 := by rw [cntV, if_neg (by decide), if_neg (by decide), if_pos rfl]
theorem cn_3 {v : Sto} : cntV v (nI 3) = v 3 9 := by rw [cntV, if_neg (by decide), if_neg (by decide), if_neg (by decide), if_pos rfl]
theorem cn_4 {v : Sto} : cntV v (nI 4) = v 3 10 := by rw [cntV, if_neg (by decide), if_neg (by decide), if_neg (by decide), if_neg (by decide), if_pos rfl]
theorem cn_5 {v : Sto} : cntV v (nI 5) = v 3 8 := by rw [cntV, if_neg (by decide), if_neg (by decide), if_neg (by decide), if_neg (by decide), if_neg (by decide), if_pos rfl]
theorem cn_6 {v : Sto} : cntV v (nI 6) = smI (v 7) 10 := by rw [cntV, if_neg (by decide), if_neg (by decide), if_neg (by decide), if_neg (by decide), if_neg (by decide), if_neg (by decide), if_pos rfl]
theorem cn_7 {v : Sto} : cntV v (nI 7) = v 10 12 := by rw [cntV, if_neg (by decide), if_neg (by decide), if_neg (by decide), if_neg (by decide), if_neg (by decide), if_neg (by decide), if_neg (by decide), if_pos rfl]
theorem cn_8 {v : Sto} : cntV v (nI 8) = lvI v (-1) := by rw [cntV, if_neg (by decide), if_neg (by decide), if_neg (by decide), if_neg (by decide), if_neg (by decide), if_neg (by decide), if_neg (by decide), if_neg (by decide), if_pos rfl]
theorem cn_9 {v : Sto} : cntV v (nI 9) = ctI (fun r => decide (¬ v 5 r = -1)) 168 := by rw [cntV, if_neg (by decide), if_neg (by decide), if_neg (by decide), if_neg (by decide), if_neg (by decide), if_neg (by decide), if_neg (by decide), if_neg (by decide), if_neg (by decide), if_pos rfl]
theorem cn_10 {v : Sto} : cntV v (nI 10) = smI (v 6) 168 := by rw [cntV, if_neg (by decide), if_neg (by decide), if_neg (by decide), if_neg (by decide), if_neg (by decide), if_neg (by decide), if_neg (by decide), if_neg (by decide), if_neg (by decide), if_neg (by decide), if_pos rfl]
theorem cn_11 {v : Sto} : cntV v (nI 11) = v 10 9 := by rw [cntV, if_neg (by decide), if_neg (by decide), if_neg (by decide), if_neg (by decide), if_neg (by decide), if_neg (by decide), if_neg (by decide), if_neg (by decide), if_neg (by decide), if_neg (by decide), if_neg (by decide), if_pos rfl]
theorem cn_12 {v : Sto} : cntV v (nI 12) = v 10 10 := by rw [cntV, if_neg (by decide), if_neg (by decide), if_neg (by decide), if_neg (by decide), if_neg (by decide), if_neg (by decide), if_neg (by decide), if_neg (by decide), if_neg (by decide), if_neg (by decide), if_neg (by decide), if_neg (by decide), if_pos rfl]
theorem cn_13 {v : Sto} : cntV v (nI 13) = v 3 7 := by rw [cntV, if_neg (by decide), if_neg (by decide), if_neg (by decide), if_neg (by decide), if_neg (by decide), if_neg (by decide), if_neg (by decide), if_neg (by decide), if_neg (by decide), if_neg (by decide), if_neg (by decide), if_neg (by decide), if_neg (by decide), if_pos rfl]
theorem cn_14 {v : Sto} : cntV v (nI 14) = smI (v 14) 168 := by rw [cntV, if_neg (by decide), if_neg (by decide), if_neg (by decide), if_neg (by decide), if_neg (by decide), if_neg (by decide), if_neg (by decide), if_neg (by decide), if_neg (by decide), if_neg (by decide), if_neg (by decide), if_neg (by decide), if_neg (by decide), if_neg (by decide), if_pos rfl]
theorem cn_15 {v : Sto} : cntV v (nI 15) = v 0 9 := by rw [cntV, if_neg (by decide), if_neg (by decide), if_neg (by decide), if_neg (by decide), if_neg (by decide), if_neg (by decide), if_neg (by decide), if_neg (by decide), if_neg (by decide), if_neg (by decide), if_neg (by decide), if_neg (by decide), if_neg (by decide), if_neg (by decide), if_neg (by decide), if_pos rfl]
theorem LK.lin {v u : Sto} {T W : Nat} (h : LK v u T W) : u 179 2 = v 19 5 := by
  rcases h.l with ⟨a, b⟩ | ⟨t, L, _, a, b, _⟩
  · rw [a, b]
  · rw [a, b]
set_option maxHeartbeats 1000000 in
theorem c_X11_count {E : EE} (v : Sto) (T W : Nat) (x : Int32) (u : Sto) (hK : LK v u T W) (hI : TI v 3 10 T) (hA : u 178 6 = v 0 9) : CtP E 4 0 yX11_count cX11_count 2 (some .int) [.ref (E.ad 178), .int x] u (PMr (cdL []) (.inl (some (.int (cntV v x)))) u) := by
  refine ctp_of (by decide) (Nat.le_of_ble_eq_true rfl) (fun X h hR hrt htab hargs => ?_)
  refine g_aload_n h dX11_count_0 rfl rfl ?_
  refine g_iconst (v := nI 0) h dX11_count_1 (by decide) ?_
  refine g_putI h pfl_X11_69_10 sh_178 (by decide) rfl dX11_count_2 ?_
  refine g_iload_n h dX11_count_5 rfl rfl ?_
  refine g_bipush (v := nI 8) h dX11_count_6 (by decide) ?_
  refine g_icmp_eq (tgt := 29) h dX11_count_8 (by decide) (fun c8 => ?_) (fun c8 => ?_)
  · subst c8
    refine g_aload_n h dX11_count_29 rfl rfl ?_
    refine g_iload_n h dX11_count_30 rfl rfl ?_
    refine g_V h lv_X11_385_X11 sh_178 (by decide) rfl (c_X11_roomsNow_8 v T W _ hK.th hI) (fitR hR (by first | decide | omega) (by decide) (by omega)) rfl rfl (Nat.le_of_ble_eq_true rfl) dX11_count_31 ?_
    refine g_top (y := lvI v (-1)) (rn_8 hI) ?_
    exact g_iretP h hrt dX11_count_34 (by omega) (pm_k (by rw [cn_8]) (sim.refl _))
  · refine g_iload_n h dX11_count_11 rfl rfl ?_
    refine g_bipush (v := nI 9) h dX11_count_12 (by decide) ?_
    refine g_icmp_eq (tgt := 29) h dX11_count_14 (by decide) (fun c14 => ?_) (fun c14 => ?_)
    · subst c14
      refine g_aload_n h dX11_count_29 rfl rfl ?_
      refine g_iload_n h dX11_count_30 rfl rfl ?_
      refine g_V h lv_X11_385_X11 sh_178 (by decide) rfl (c_X11_roomsNow_9 v T W _ hK.th hI) (fitR hR (by first | decide | omega) (by decide) (by omega)) rfl rfl (Nat.le_of_ble_eq_true rfl) dX11_count_31 ?_
      refine g_top (y := ctI (fun r => decide (¬ v 5 r = -1)) 168) rn_9 ?_
      exact g_iretP h hrt dX11_count_34 (by omega) (pm_k (by rw [cn_9]) (sim.refl _))
    · refine g_iload_n h dX11_count_17 rfl rfl ?_
      refine g_bipush (v := nI 10) h dX11_count_18 (by decide) ?_
      refine g_icmp_eq (tgt := 29) h dX11_count_20 (by decide) (fun c20 => ?_) (fun c20 => ?_)
      · subst c20
        refine g_aload_n h dX11_count_29 rfl rfl ?_
        refine g_iload_n h dX11_count_30 rfl rfl ?_
        refine g_V h lv_X11_385_X11 sh_178 (by decide) rfl (c_X11_roomsNow_10 v T W _ hK.th hI) (fitR hR (by first | decide | omega) (by decide) (by omega)) rfl rfl (Nat.le_of_ble_eq_true rfl) dX11_count_31 ?_
        refine g_top (y := smI (v 6) 168) rn_10 ?_
        exact g_iretP h hrt dX11_count_34 (by omega) (pm_k (by rw [cn_10]) (sim.refl _))
      · refine g_iload_n h dX11_count_23 rfl rfl ?_
        refine g_bipush (v := nI 14) h dX11_count_24 (by decide) ?_
        refine g_icmp_ne (tgt := 35) h dX11_count_26 (by decide) (fun c26 => ?_) (fun c26 => ?_)
        · refine g_iload_n h dX11_count_35 rfl rfl ?_
          refine g_if_ne (tgt := 48) h dX11_count_36 (by decide) (fun c36 => ?_) (fun c36 => ?_)
          · refine g_iload_n h dX11_count_48 rfl rfl ?_
            refine g_iconst (v := nI 1) h dX11_count_49 (by decide) ?_
            refine g_icmp_ne (tgt := 62) h dX11_count_50 (by decide) (fun c50 => ?_) (fun c50 => ?_)
            · refine g_iload_n h dX11_count_62 rfl rfl ?_
              refine g_iconst (v := nI 2) h dX11_count_63 (by decide) ?_
              refine g_icmp_ne (tgt := 76) h dX11_count_64 (by decide) (fun c64 => ?_) (fun c64 => ?_)
              · refine g_iload_n h dX11_count_76 rfl rfl ?_
                refine g_iconst (v := nI 3) h dX11_count_77 (by decide) ?_
                refine g_icmp_ne (tgt := 90) h dX11_count_78 (by decide) (fun c78 => ?_) (fun c78 => ?_)
                · refine g_iload_n h dX11_count_90 rfl rfl ?_
                  refine g_iconst (v := nI 4) h dX11_count_91 (by decide) ?_
                  refine g_icmp_ne (tgt := 104) h dX11_count_92 (by decide) (fun c92 => ?_) (fun c92 => ?_)
                  · refine g_iload_n h dX11_count_104 rfl rfl ?_
                    refine g_iconst (v := nI 5) h dX11_count_105 (by decide) ?_
                    refine g_icmp_ne (tgt := 119) h dX11_count_106 (by decide) (fun c106 => ?_) (fun c106 => ?_)
                    · refine g_iload_n h dX11_count_119 rfl rfl ?_
                      refine g_bipush (v := nI 6) h dX11_count_120 (by decide) ?_
                      refine g_icmp_ne (tgt := 132) h dX11_count_122 (by decide) (fun c122 => ?_) (fun c122 => ?_)
                      · refine g_iload_n h dX11_count_132 rfl rfl ?_
                        refine g_bipush (v := nI 7) h dX11_count_133 (by decide) ?_
                        refine g_icmp_ne (tgt := 148) h dX11_count_135 (by decide) (fun c135 => ?_) (fun c135 => ?_)
                        · refine g_iload_n h dX11_count_148 rfl rfl ?_
                          refine g_bipush (v := nI 11) h dX11_count_149 (by decide) ?_
                          refine g_icmp_ne (tgt := 164) h dX11_count_151 (by decide) (fun c151 => ?_) (fun c151 => ?_)
                          · refine g_iload_n h dX11_count_164 rfl rfl ?_
                            refine g_bipush (v := nI 12) h dX11_count_165 (by decide) ?_
                            refine g_icmp_ne (tgt := 180) h dX11_count_167 (by decide) (fun c167 => ?_) (fun c167 => ?_)
                            · refine g_iload_n h dX11_count_180 rfl rfl ?_
                              refine g_bipush (v := nI 13) h dX11_count_181 (by decide) ?_
                              refine g_icmp_ne (tgt := 196) h dX11_count_183 (by decide) (fun c183 => ?_) (fun c183 => ?_)
                              · refine g_iload_n h dX11_count_196 rfl rfl ?_
                                refine g_bipush (v := nI 15) h dX11_count_197 (by decide) ?_
                                refine g_icmp_ne (tgt := 209) h dX11_count_199 (by decide) (fun c199 => ?_) (fun c199 => ?_)
                                · refine g_iconst (v := -1) h dX11_count_209 (by decide) ?_
                                  exact g_iretP h hrt dX11_count_210 (by omega) (pm_k (by rw [cntV, if_neg (show ¬ x = nI 0 from c36), if_neg c50, if_neg c64, if_neg c78, if_neg c92, if_neg c106, if_neg c122, if_neg c135, if_neg c8, if_neg c14, if_neg c20, if_neg c151, if_neg c167, if_neg c183, if_neg c26, if_neg c199]) (sim.refl _))
                                · obtain rfl : x = nI 15 := c199
                                  refine g_aload_n h dX11_count_202 rfl rfl ?_
                                  refine g_getI h fl_X11_202_10 sh_178 (by decide) rfl dX11_count_203 ?_
                                  refine g_goto (tgt := 210) h dX11_count_206 (by decide) ?_
                                  exact g_iretP h hrt dX11_count_210 (by omega) (pm_v rfl (cn_15.trans ((su_i (by decide)).trans hA).symm) (sim.refl _))
                              · obtain rfl : x = nI 13 := c183
                                refine g_aload_n h dX11_count_186 rfl rfl ?_
                                refine g_getR h fl_X11_7_10 sh_178 (by decide) rfl dX11_count_187 ?_
                                refine g_bipush (v := nI 10) h dX11_count_190 (by decide) ?_
                                refine g_iald h _ _ _ sh_179 (by decide) (by decide) rfl (by omega) dX11_count_192 ?_
                                refine g_goto (tgt := 210) h dX11_count_193 (by decide) ?_
                                exact g_iretP h hrt dX11_count_210 (by omega) (pm_v rfl (cn_13.trans ((congrFun (su_cell _ _ (by decide)) _).trans hK.t.lgs).symm) (sim.refl _))
                            · obtain rfl : x = nI 12 := c167
                              refine g_aload_n h dX11_count_170 rfl rfl ?_
                              refine g_getR h fl_X11_7_10 sh_178 (by decide) rfl dX11_count_171 ?_
                              refine g_bipush (v := nI 8) h dX11_count_174 (by decide) ?_
                              refine g_iald h _ _ _ sh_179 (by decide) (by decide) rfl (by omega) dX11_count_176 ?_
                              refine g_goto (tgt := 210) h dX11_count_177 (by decide) ?_
                              exact g_iretP h hrt dX11_count_210 (by omega) (pm_v rfl (cn_12.trans ((congrFun (su_cell _ _ (by decide)) _).trans hK.r.cha).symm) (sim.refl _))
                          · obtain rfl : x = nI 11 := c151
                            refine g_aload_n h dX11_count_154 rfl rfl ?_
                            refine g_getR h fl_X11_7_10 sh_178 (by decide) rfl dX11_count_155 ?_
                            refine g_bipush (v := nI 9) h dX11_count_158 (by decide) ?_
                            refine g_iald h _ _ _ sh_179 (by decide) (by decide) rfl (by omega) dX11_count_160 ?_
                            refine g_goto (tgt := 210) h dX11_count_161 (by decide) ?_
                            exact g_iretP h hrt dX11_count_210 (by omega) (pm_v rfl (cn_11.trans ((congrFun (su_cell _ _ (by decide)) _).trans (hK.r.wan.trans hK.r.vw.symm)).symm) (sim.refl _))
                        · obtain rfl : x = nI 7 := c135
                          refine g_aload_n h dX11_count_138 rfl rfl ?_
                          refine g_getR h fl_X11_7_10 sh_178 (by decide) rfl dX11_count_139 ?_
                          refine g_bipush (v := nI 7) h dX11_count_142 (by decide) ?_
                          refine g_iald h _ _ _ sh_179 (by decide) (by decide) rfl (by omega) dX11_count_144 ?_
                          refine g_goto (tgt := 210) h dX11_count_145 (by decide) ?_
                          exact g_iretP h hrt dX11_count_210 (by omega) (pm_v rfl (cn_7.trans ((congrFun (su_cell _ _ (by decide)) _).trans hK.r.told).symm) (sim.refl _))
                      · obtain rfl : x = nI 6 := c122
                        refine g_aload_n h dX11_count_125 rfl rfl ?_
                        refine g_V h lv_X11_388_X11 sh_178 (by decide) rfl (c_X11_coinsNow v T W _ hK.th hI) (fitR hR (by first | decide | omega) (by decide) (by omega)) rfl rfl (Nat.le_of_ble_eq_true rfl) dX11_count_126 ?_
                        refine g_goto (tgt := 210) h dX11_count_129 (by decide) ?_
                        exact g_iretP h hrt dX11_count_210 (by omega) (pm_v rfl (cn_6.trans (rfl).symm) (sim.refl _))
                    · obtain rfl : x = nI 5 := c106
                      refine g_aload_n h dX11_count_109 rfl rfl ?_
                      refine g_getR h fl_X11_7_10 sh_178 (by decide) rfl dX11_count_110 ?_
                      refine g_bipush (v := nI 6) h dX11_count_113 (by decide) ?_
                      refine g_iald h _ _ _ sh_179 (by decide) (by decide) rfl (by omega) dX11_count_115 ?_
                      refine g_goto (tgt := 210) h dX11_count_116 (by decide) ?_
                      exact g_iretP h hrt dX11_count_210 (by omega) (pm_v rfl (cn_5.trans ((congrFun (su_cell _ _ (by decide)) _).trans hK.t.tl).symm) (sim.refl _))
                  · obtain rfl : x = nI 4 := c92
                    refine g_aload_n h dX11_count_95 rfl rfl ?_
                    refine g_getR h fl_X11_7_10 sh_178 (by decide) rfl dX11_count_96 ?_
                    refine g_iconst (v := nI 5) h dX11_count_99 (by decide) ?_
                    refine g_iald h _ _ _ sh_179 (by decide) (by decide) rfl (by omega) dX11_count_100 ?_
                    refine g_goto (tgt := 210) h dX11_count_101 (by decide) ?_
                    exact g_iretP h hrt dX11_count_210 (by omega) (pm_v rfl (cn_4.trans ((congrFun (su_cell _ _ (by decide)) _).trans hK.t.nw).symm) (sim.refl _))
                · obtain rfl : x = nI 3 := c78
                  refine g_aload_n h dX11_count_81 rfl rfl ?_
                  refine g_getR h fl_X11_7_10 sh_178 (by decide) rfl dX11_count_82 ?_
                  refine g_iconst (v := nI 4) h dX11_count_85 (by decide) ?_
                  refine g_iald h _ _ _ sh_179 (by decide) (by decide) rfl (by omega) dX11_count_86 ?_
                  refine g_goto (tgt := 210) h dX11_count_87 (by decide) ?_
                  exact g_iretP h hrt dX11_count_210 (by omega) (pm_v rfl (cn_3.trans ((congrFun (su_cell _ _ (by decide)) _).trans hK.t.wk).symm) (sim.refl _))
              · obtain rfl : x = nI 2 := c64
                refine g_aload_n h dX11_count_67 rfl rfl ?_
                refine g_getR h fl_X11_7_10 sh_178 (by decide) rfl dX11_count_68 ?_
                refine g_iconst (v := nI 2) h dX11_count_71 (by decide) ?_
                refine g_iald h _ _ _ sh_179 (by decide) (by decide) rfl (by omega) dX11_count_72 ?_
                refine g_goto (tgt := 210) h dX11_count_73 (by decide) ?_
                exact g_iretP h hrt dX11_count_210 (by omega) (pm_v rfl (cn_2.trans ((congrFun (su_cell _ _ (by decide)) _).trans hK.lin).symm) (sim.refl _))
            · obtain rfl : x = nI 1 := c50
              refine g_aload_n h dX11_count_53 rfl rfl ?_
              refine g_getR h fl_X11_7_10 sh_178 (by decide) rfl dX11_count_54 ?_
              refine g_iconst (v := nI 0) h dX11_count_57 (by decide) ?_
              refine g_iald h _ _ _ sh_179 (by decide) (by decide) rfl (by omega) dX11_count_58 ?_
              refine g_goto (tgt := 210) h dX11_count_59 (by decide) ?_
              exact g_iretP h hrt dX11_count_210 (by omega) (pm_v rfl (cn_1.trans ((congrFun (su_cell _ _ (by decide)) _).trans hK.r.tx).symm) (sim.refl _))
          · obtain rfl : x = nI 0 := c36
            refine g_aload_n h dX11_count_39 rfl rfl ?_
            refine g_getR h fl_X11_7_10 sh_178 (by decide) rfl dX11_count_40 ?_
            refine g_iconst (v := nI 1) h dX11_count_43 (by decide) ?_
            refine g_iald h _ _ _ sh_179 (by decide) (by decide) rfl (by omega) dX11_count_44 ?_
            refine g_goto (tgt := 210) h dX11_count_45 (by decide) ?_
            exact g_iretP h hrt dX11_count_210 (by omega) (pm_v rfl (cn_0.trans ((congrFun (su_cell _ _ (by decide)) _).trans (hK.r.ten.trans hK.r.vt.symm)).symm) (sim.refl _))
        · subst c26
          refine g_aload_n h dX11_count_29 rfl rfl ?_
          refine g_iload_n h dX11_count_30 rfl rfl ?_
          refine g_V h lv_X11_385_X11 sh_178 (by decide) rfl (c_X11_roomsNow_14 v T W _ hK.th hI) (fitR hR (by first | decide | omega) (by decide) (by omega)) rfl rfl (Nat.le_of_ble_eq_true rfl) dX11_count_31 ?_
          refine g_top (y := smI (v 14) 168) rn_14 ?_
          exact g_iretP h hrt dX11_count_34 (by omega) (pm_k (by rw [cn_14]) (sim.refl _))
set_option maxHeartbeats 1000000 in
theorem c_X11_fault {E : EE}  (u : Sto) : Ct E 1 0 yX11_fault cX11_fault 1 (some .int) [.ref (E.ad 178)] u (.inl (some (.int (u 178 12)))) (u0 u) := by
  refine ct_of (by decide) (Nat.le_of_ble_eq_true rfl) (fun X h hR hrt htab hargs hini => ?_)
  refine g_aload_n h dX11_fault_0 rfl rfl ?_
  refine g_iconst (v := nI 0) h dX11_fault_1 (by decide) ?_
  refine g_putI h pfl_X11_69_10 sh_178 (by decide) rfl dX11_fault_2 ?_
  refine g_aload_n h dX11_fault_5 rfl rfl ?_
  refine g_getI h fl_X11_25_10 sh_178 (by decide) rfl dX11_fault_6 ?_
  exact g_iret h hrt dX11_fault_9 (by omega) (by rw [su_i (by decide)]) rfl
set_option maxHeartbeats 1000000 in
theorem c_X11_seed {E : EE} (x : Int32) (u : Sto) : Ct E 1 0 yX11_seed cX11_seed 3 (some .int) [.ref (E.ad 178), .int x] u (.inl (some (.int (u 179 11)))) (su (u0 u) 179 11 x) := by
  refine ct_of (by decide) (Nat.le_of_ble_eq_true rfl) (fun X h hR hrt htab hargs hini => ?_)
  refine g_aload_n h dX11_seed_0 rfl rfl ?_
  refine g_iconst (v := nI 0) h dX11_seed_1 (by decide) ?_
  refine g_putI h pfl_X11_69_10 sh_178 (by decide) rfl dX11_seed_2 ?_
  refine g_aload_n h dX11_seed_5 rfl rfl ?_
  refine g_getR h fl_X11_7_10 sh_178 (by decide) rfl dX11_seed_6 ?_
  refine g_bipush (v := nI 11) h dX11_seed_9 (by decide) ?_
  refine g_iald h _ _ _ sh_179 (by decide) (by decide) rfl (by omega) dX11_seed_11 ?_
  refine g_istore_n (ls' := [(0, _), (1, _), (2, _)]) h dX11_seed_12 rfl (by decide) rfl rfl ?_
  refine g_aload_n h dX11_seed_13 rfl rfl ?_
  refine g_getR h fl_X11_7_10 sh_178 (by decide) rfl dX11_seed_14 ?_
  refine g_bipush (v := nI 11) h dX11_seed_17 (by decide) ?_
  refine g_iload_n h dX11_seed_19 rfl rfl ?_
  refine g_iast h _ _ _ sh_179 (by decide) (by decide) rfl (by omega) dX11_seed_20 ?_
  refine g_iload_n h dX11_seed_21 rfl rfl ?_
  exact g_iret h hrt dX11_seed_22 (by omega) (by rw [su_cell _ _ (by decide)]) rfl
set_option maxHeartbeats 1000000 in
theorem c_X11_end {E : EE} (tl : Nat) (ht : tl ≤ 400) (x : Int32) (u : Sto) (hx : u 178 8 = nI tl) : Ct E 2 0 yX11_end cX11_end 2 (some .boolean) [.ref (E.ad 178), .int x] u (.inl (some (.int (b2 (okN x (nI 0) (nI tl)))))) ((if okN x (nI 0) (nI tl) then su (u0 u) 178 8 x else u0 u)) := by
  refine ct_of (by decide) (Nat.le_of_ble_eq_true rfl) (fun X h hR hrt htab hargs hini => ?_)
  refine g_aload_n h dX11_end_0 rfl rfl ?_
  refine g_iconst (v := nI 0) h dX11_end_1 (by decide) ?_
  refine g_putI h pfl_X11_69_10 sh_178 (by decide) rfl dX11_end_2 ?_
  refine g_iload_n h dX11_end_5 rfl rfl ?_
  refine g_iconst (v := nI 0) h dX11_end_6 (by decide) ?_
  refine g_aload_n h dX11_end_7 rfl rfl ?_
  refine g_getI h fl_X11_91_10 sh_178 (by decide) rfl dX11_end_8 ?_
  refine g_top (y := nI tl) ((su_i (by decide)).trans hx) ?_
  refine g_S h ls_X11_72 (c_X11_isIn x (nI 0) (nI tl) _) (fitR hR (by first | decide | omega) (by decide) (by omega)) rfl rfl (Nat.le_of_ble_eq_true rfl) dX11_end_11 ?_
  refine g_if_ne (tgt := 19) h dX11_end_14 (by decide) (fun c14 => ?_) (fun c14 => ?_)
  · refine g_aload_n h dX11_end_19 rfl rfl ?_
    refine g_iload_n h dX11_end_20 rfl rfl ?_
    refine g_putI h pfl_X11_91_10 sh_178 (by decide) rfl dX11_end_21 ?_
    refine g_iconst (v := nI 1) h dX11_end_24 (by decide) ?_
    exact g_zret h hrt dX11_end_25 (by omega) (by first | exact Or.inl rfl | exact Or.inr rfl | exact b2_01 _ | exact hF.2.2.2.1 | exact hF.2.2.2.2 | exact hy | exact hv | simp) (by rw [b2_t (b2_n0.mp c14)]) (if_pos (b2_n0.mp c14))
  · refine g_iconst (v := nI 0) h dX11_end_17 (by decide) ?_
    exact g_zret h hrt dX11_end_18 (by omega) (by first | exact Or.inl rfl | exact Or.inr rfl | exact b2_01 _ | exact hF.2.2.2.1 | exact hF.2.2.2.2 | exact hy | exact hv | simp) (by rw [b2_f (b2_0.mp c14)]) (if_neg (b2_0.mp c14))
set_option maxHeartbeats 1000000 in
theorem c_X11_undo_s {E : EE} (a : Nat) (ha : a < 12) (u : Sto) (hx : u 178 6 = nI (a + 1)) : Ct E 1 0 yX11_undo cX11_undo 2 (some .boolean) [.ref (E.ad 178)] u (.inl (some (.int (nI 1)))) (sc (su (u0 u) 178 6 (nI a)) 179 (mvF (u 179) (fun j => u 182 (1080 * a + j)) 1080)) := by
  refine ct_of (by decide) (Nat.le_of_ble_eq_true rfl) (fun X h hR hrt htab hargs hini => ?_)
  have LP : ∀ j k : Nat, 1080 < k + j → k ≤ 1080 → G E X (QM E X (.inl (some (.int (nI 1)))) (sc (su (u0 u) 178 6 (nI a)) 179 (mvF (u 179) (fun j => u 182 (1080 * a + j)) 1080)) 0) 2 0 26 [(0, .ref (E.ad 178)), (1, .int (nI k))] [] (sc (su (u0 u) 178 6 (nI a)) 179 (mvF (u 179) (fun j => u 182 (1080 * a + j)) k)) := by
    intro j
    induction j with
    | zero => intro k h1 h2; omega
    | succ j ih =>
      intro k h1 h2
      refine g_iload_n h dX11_undo_26 rfl rfl ?_
      refine g_sipush (v := nI 1080) h dX11_undo_27 (by decide) ?_
      refine g_icmp_ge (tgt := 60) h dX11_undo_30 (by decide) (fun c30 => ?_) (fun c30 => ?_)
      · have n30 := le_n (by omega) (by omega) (show nI (1080) ≤ nI (k) from c30)
        refine g_iconst (v := nI 1) h dX11_undo_60 (by decide) ?_
        exact g_zret h hrt dX11_undo_61 (by omega) (by first | exact Or.inl rfl | exact Or.inr rfl | exact b2_01 _ | exact hF.2.2.2.1 | exact hF.2.2.2.2 | exact hy | exact hv | simp) (by rfl) (by rw [show k = 1080 by omega])
      · have n30 := nle_n (by omega) (by omega) (show ¬ nI (1080) ≤ nI (k) from c30)
        refine g_aload_n h dX11_undo_33 rfl rfl ?_
        refine g_getR h fl_X11_7_10 sh_178 (by decide) rfl dX11_undo_34 ?_
        refine g_iload_n h dX11_undo_37 rfl rfl ?_
        refine g_aload_n h dX11_undo_38 rfl rfl ?_
        refine g_getR h fl_X11_19_10 sh_178 (by decide) rfl dX11_undo_39 ?_
        refine g_sipush (v := nI 1080) h dX11_undo_42 (by decide) ?_
        refine g_aload_n h dX11_undo_45 rfl rfl ?_
        refine g_getI h fl_X11_202_10 sh_178 (by decide) rfl dX11_undo_46 ?_
        refine g_top (y := nI a) ((congrFun (sc_ne _ _ (by decide)) _).trans su_k) ?_
        refine g_imul h dX11_undo_49 ?_
        refine g_iload_n h dX11_undo_50 rfl rfl ?_
        refine g_iadd h dX11_undo_51 ?_
        refine g_top (y := nI (1080 * a + k)) (by rw [nI_mul, nI_add]) ?_
        refine g_iald h _ _ _ sh_182 (by decide) (by decide) rfl (by omega) dX11_undo_52 ?_
        refine g_top (y := u 182 (1080 * a + k)) ((congrFun (sc_ne _ _ (by decide)) _).trans ((congrFun (su_cell _ _ (by decide)) _).trans (congrFun (su_cell _ _ (by decide)) _))) ?_
        refine g_iast h _ _ _ sh_179 (by decide) (by decide) rfl (by omega) dX11_undo_53 ?_
        refine g_iinc (v := nI (k + 1)) (ls' := [(0, _), (1, _)]) h dX11_undo_54 rfl (nI_1 k) (by decide) rfl rfl ?_
        refine g_goto (tgt := 26) h dX11_undo_57 (by decide) ?_
        exact g_cv rfl (by rw [su_sc]; exact congrArg _ (mv_s (g := fun j => u 182 (1080 * a + j)))) (ih (k + 1) (by omega) (by omega))
  refine g_aload_n h dX11_undo_0 rfl rfl ?_
  refine g_iconst (v := nI 0) h dX11_undo_1 (by decide) ?_
  refine g_putI h pfl_X11_69_10 sh_178 (by decide) rfl dX11_undo_2 ?_
  refine g_aload_n h dX11_undo_5 rfl rfl ?_
  refine g_getI h fl_X11_202_10 sh_178 (by decide) rfl dX11_undo_6 ?_
  refine g_top (y := nI (a + 1)) ((su_i (by decide)).trans hx) ?_
  refine g_if_ne (tgt := 14) h dX11_undo_9 (by decide) (fun c9 => ?_) (fun c9 => ?_)
  · refine g_aload_n h dX11_undo_14 rfl rfl ?_
    refine g_dup h dX11_undo_15 rfl ?_
    refine g_getI h fl_X11_202_10 sh_178 (by decide) rfl dX11_undo_16 ?_
    refine g_iconst (v := nI 1) h dX11_undo_19 (by decide) ?_
    refine g_isub h dX11_undo_20 ?_
    refine g_top (y := nI a) ((congrArg (fun z => z - nI 1) ((su_i (by decide)).trans hx)).trans (pk_sub (by omega))) ?_
    refine g_putI h pfl_X11_202_10 sh_178 (by decide) rfl dX11_undo_21 ?_
    refine g_iconst (v := nI 0) h dX11_undo_24 (by decide) ?_
    refine g_istore_n (ls' := [(0, _), (1, _)]) h dX11_undo_25 rfl (by decide) rfl rfl ?_
    refine g_cv rfl (show _ = sc (su (u0 u) 178 6 (nI a)) 179 (mvF (u 179) (fun j => u 182 (1080 * a + j)) 0) by rw [mv_0]; exact (sc_i (by rw [su_cell _ _ (by decide)]; exact (su_cell _ _ (by decide)).symm)).symm) ?_
    exact LP (1080 + 1) 0 (by omega) (by omega)
  · exact absurd c9 (by rw [i0]; exact fun q => absurd (eq_n (by omega) (by omega) q) (by omega))
set_option maxHeartbeats 1000000 in
theorem c_X11_undo_0 {E : EE}  (u : Sto) (hx : u 178 6 = nI 0) : Ct E 1 0 yX11_undo cX11_undo 2 (some .boolean) [.ref (E.ad 178)] u (.inl (some (.int (nI 0)))) (u0 u) := by
  refine ct_of (by decide) (Nat.le_of_ble_eq_true rfl) (fun X h hR hrt htab hargs hini => ?_)
  refine g_aload_n h dX11_undo_0 rfl rfl ?_
  refine g_iconst (v := nI 0) h dX11_undo_1 (by decide) ?_
  refine g_putI h pfl_X11_69_10 sh_178 (by decide) rfl dX11_undo_2 ?_
  refine g_aload_n h dX11_undo_5 rfl rfl ?_
  refine g_getI h fl_X11_202_10 sh_178 (by decide) rfl dX11_undo_6 ?_
  refine g_if_ne (tgt := 14) h dX11_undo_9 (by decide) (fun c9 => ?_) (fun c9 => ?_)
  · exact absurd ((su_i (by decide)).trans hx) c9
  · refine g_iconst (v := nI 0) h dX11_undo_12 (by decide) ?_
    exact g_zret h hrt dX11_undo_13 (by omega) (by first | exact Or.inl rfl | exact Or.inr rfl | exact b2_01 _ | exact hF.2.2.2.1 | exact hF.2.2.2.2 | exact hy | exact hv | simp) (by rfl) rfl
set_option maxHeartbeats 1000000 in
theorem c_X11_image {E : EE}  (u : Sto) : Ct E 1 0 yX11_image cX11_image 2 none [.ref (E.ad 178)] u (.inl none) (su (sc (u0 u) 180 (mvF (u 180) (u 179) 1480)) 178 3 (nI 1)) := by
  refine ct_of (by decide) (Nat.le_of_ble_eq_true rfl) (fun X h hR hrt htab hargs hini => ?_)
  have LP : ∀ j k : Nat, 1480 < k + j → k ≤ 1480 → G E X (QM E X (.inl none) (su (sc (u0 u) 180 (mvF (u 180) (u 179) 1480)) 178 3 (nI 1)) 0) 2 0 7 [(0, .ref (E.ad 178)), (1, .int (nI k))] [] (sc (u0 u) 180 (mvF (u 180) (u 179) k)) := by
    intro j
    induction j with
    | zero => intro k h1 h2; omega
    | succ j ih =>
      intro k h1 h2
      refine g_iload_n h dX11_image_7 rfl rfl ?_
      refine g_sipush (v := nI 1480) h dX11_image_8 (by decide) ?_
      refine g_icmp_ge (tgt := 32) h dX11_image_11 (by decide) (fun c11 => ?_) (fun c11 => ?_)
      · have n11 := le_n (by omega) (by omega) (show nI (1480) ≤ nI (k) from c11)
        refine g_aload_n h dX11_image_32 rfl rfl ?_
        refine g_iconst (v := nI 1) h dX11_image_33 (by decide) ?_
        refine g_putZ h pfl_X11_382_10 sh_178 (by decide) rfl (Or.inr rfl) dX11_image_34 ?_
        exact g_vret h hrt dX11_image_37 (by omega) rfl (by rw [show k = 1480 by omega])
      · have n11 := nle_n (by omega) (by omega) (show ¬ nI (1480) ≤ nI (k) from c11)
        refine g_aload_n h dX11_image_14 rfl rfl ?_
        refine g_getR h fl_X11_13_10 sh_178 (by decide) rfl dX11_image_15 ?_
        refine g_iload_n h dX11_image_18 rfl rfl ?_
        refine g_aload_n h dX11_image_19 rfl rfl ?_
        refine g_getR h fl_X11_7_10 sh_178 (by decide) rfl dX11_image_20 ?_
        refine g_iload_n h dX11_image_23 rfl rfl ?_
        refine g_iald h _ _ _ sh_179 (by decide) (by decide) rfl (by omega) dX11_image_24 ?_
        refine g_top (y := u 179 k) ((congrFun (sc_ne _ _ (by decide)) _).trans (congrFun (u0_c (by decide)) _)) ?_
        refine g_iast h _ _ _ sh_180 (by decide) (by decide) rfl (by omega) dX11_image_25 ?_
        refine g_iinc (v := nI (k + 1)) (ls' := [(0, _), (1, _)]) h dX11_image_26 rfl (nI_1 k) (by decide) rfl rfl ?_
        refine g_goto (tgt := 7) h dX11_image_29 (by decide) ?_
        exact g_cv rfl (by rw [su_sc]; exact congrArg _ mv_s) (ih (k + 1) (by omega) (by omega))
  refine g_aload_n h dX11_image_0 rfl rfl ?_
  refine g_iconst (v := nI 0) h dX11_image_1 (by decide) ?_
  refine g_putI h pfl_X11_69_10 sh_178 (by decide) rfl dX11_image_2 ?_
  refine g_iconst (v := nI 0) h dX11_image_5 (by decide) ?_
  refine g_istore_n (ls' := [(0, _), (1, _)]) h dX11_image_6 rfl (by decide) rfl rfl ?_
  refine g_cv rfl (show _ = sc (u0 u) 180 (mvF (u 180) (u 179) 0) by rw [mv_0]; exact (sc_i (u0_c (by decide)).symm).symm) ?_
  exact LP (1480 + 1) 0 (by omega) (by omega)
set_option maxHeartbeats 1000000 in
theorem c_X11_back_1 {E : EE}  (u : Sto) (hx : ¬ u 178 3 = 0) : Ct E 1 0 yX11_back cX11_back 2 (some .boolean) [.ref (E.ad 178)] u (.inl (some (.int (nI 1)))) (su (sc (u0 u) 179 (mvF (u 179) (u 180) 1480)) 178 6 (nI 0)) := by
  refine ct_of (by decide) (Nat.le_of_ble_eq_true rfl) (fun X h hR hrt htab hargs hini => ?_)
  have LP : ∀ j k : Nat, 1480 < k + j → k ≤ 1480 → G E X (QM E X (.inl (some (.int (nI 1)))) (su (sc (u0 u) 179 (mvF (u 179) (u 180) 1480)) 178 6 (nI 0)) 0) 2 0 16 [(0, .ref (E.ad 178)), (1, .int (nI k))] [] (sc (u0 u) 179 (mvF (u 179) (u 180) k)) := by
    intro j
    induction j with
    | zero => intro k h1 h2; omega
    | succ j ih =>
      intro k h1 h2
      refine g_iload_n h dX11_back_16 rfl rfl ?_
      refine g_sipush (v := nI 1480) h dX11_back_17 (by decide) ?_
      refine g_icmp_ge (tgt := 41) h dX11_back_20 (by decide) (fun c20 => ?_) (fun c20 => ?_)
      · have n20 := le_n (by omega) (by omega) (show nI (1480) ≤ nI (k) from c20)
        refine g_aload_n h dX11_back_41 rfl rfl ?_
        refine g_iconst (v := nI 0) h dX11_back_42 (by decide) ?_
        refine g_putI h pfl_X11_202_10 sh_178 (by decide) rfl dX11_back_43 ?_
        refine g_iconst (v := nI 1) h dX11_back_46 (by decide) ?_
        exact g_zret h hrt dX11_back_47 (by omega) (by first | exact Or.inl rfl | exact Or.inr rfl | exact b2_01 _ | exact hF.2.2.2.1 | exact hF.2.2.2.2 | exact hy | exact hv | simp) (by rfl) (by rw [show k = 1480 by omega])
      · have n20 := nle_n (by omega) (by omega) (show ¬ nI (1480) ≤ nI (k) from c20)
        refine g_aload_n h dX11_back_23 rfl rfl ?_
        refine g_getR h fl_X11_7_10 sh_178 (by decide) rfl dX11_back_24 ?_
        refine g_iload_n h dX11_back_27 rfl rfl ?_
        refine g_aload_n h dX11_back_28 rfl rfl ?_
        refine g_getR h fl_X11_13_10 sh_178 (by decide) rfl dX11_back_29 ?_
        refine g_iload_n h dX11_back_32 rfl rfl ?_
        refine g_iald h _ _ _ sh_180 (by decide) (by decide) rfl (by omega) dX11_back_33 ?_
        refine g_top (y := u 180 k) ((congrFun (sc_ne _ _ (by decide)) _).trans (congrFun (u0_c (by decide)) _)) ?_
        refine g_iast h _ _ _ sh_179 (by decide) (by decide) rfl (by omega) dX11_back_34 ?_
        refine g_iinc (v := nI (k + 1)) (ls' := [(0, _), (1, _)]) h dX11_back_35 rfl (nI_1 k) (by decide) rfl rfl ?_
        refine g_goto (tgt := 16) h dX11_back_38 (by decide) ?_
        exact g_cv rfl (by rw [su_sc]; exact congrArg _ mv_s) (ih (k + 1) (by omega) (by omega))
  refine g_aload_n h dX11_back_0 rfl rfl ?_
  refine g_iconst (v := nI 0) h dX11_back_1 (by decide) ?_
  refine g_putI h pfl_X11_69_10 sh_178 (by decide) rfl dX11_back_2 ?_
  refine g_aload_n h dX11_back_5 rfl rfl ?_
  refine g_getI h fl_X11_382_10 sh_178 (by decide) rfl dX11_back_6 ?_
  refine g_if_ne (tgt := 14) h dX11_back_9 (by decide) (fun c9 => ?_) (fun c9 => ?_)
  · refine g_iconst (v := nI 0) h dX11_back_14 (by decide) ?_
    refine g_istore_n (ls' := [(0, _), (1, _)]) h dX11_back_15 rfl (by decide) rfl rfl ?_
    refine g_cv rfl (show _ = sc (u0 u) 179 (mvF (u 179) (u 180) 0) by rw [mv_0]; exact (sc_i (u0_c (by decide)).symm).symm) ?_
    exact LP (1480 + 1) 0 (by omega) (by omega)
  · exact absurd ((su_i (by decide)).symm.trans c9) hx
set_option maxHeartbeats 1000000 in
theorem c_X11_back_0 {E : EE}  (u : Sto) (hx : u 178 3 = 0) : Ct E 1 0 yX11_back cX11_back 2 (some .boolean) [.ref (E.ad 178)] u (.inl (some (.int (nI 0)))) (u0 u) := by
  refine ct_of (by decide) (Nat.le_of_ble_eq_true rfl) (fun X h hR hrt htab hargs hini => ?_)
  refine g_aload_n h dX11_back_0 rfl rfl ?_
  refine g_iconst (v := nI 0) h dX11_back_1 (by decide) ?_
  refine g_putI h pfl_X11_69_10 sh_178 (by decide) rfl dX11_back_2 ?_
  refine g_aload_n h dX11_back_5 rfl rfl ?_
  refine g_getI h fl_X11_382_10 sh_178 (by decide) rfl dX11_back_6 ?_
  refine g_if_ne (tgt := 14) h dX11_back_9 (by decide) (fun c9 => ?_) (fun c9 => ?_)
  · exact absurd ((su_i (by decide)).trans hx) c9
  · refine g_iconst (v := nI 0) h dX11_back_12 (by decide) ?_
    exact g_zret h hrt dX11_back_13 (by omega) (by first | exact Or.inl rfl | exact Or.inr rfl | exact b2_01 _ | exact hF.2.2.2.1 | exact hF.2.2.2.2 | exact hy | exact hv | simp) (by rfl) rfl
def shA (u : Sto) : Nat → Int32 := mvF (u 182) (fun j => u 182 (j + 1080)) 11880
def rmA (u : Sto) (a : Nat) : Nat → Int32 := if a = 12 then mvO (shA u) (u 179) 11880 1080 else mvO (u 182) (u 179) (1080 * a) 1080
def rmM (u : Sto) (a : Nat) : Sto := su (sc u 182 (rmA u a)) 178 6 (nI (if a = 12 then 12 else a + 1))
theorem rm_nrm {u : Sto} {F G : Nat → Int32} {x y : Int32} : su (sc (su (sc u 182 F) 178 6 x) 182 G) 178 6 y = su (sc u 182 G) 178 6 y := by
  funext a b
  unfold su sc
  by_cases h : a = 178
  · subst h
    by_cases h2 : b = 6
    · subst h2; simp
    · simp [h2]
  · by_cases h2 : a = 182
    · subst h2; simp
    · simp [h, h2]
theorem sc_su {u : Sto} {c d j : Nat} {f : Nat → Int32} {x : Int32} (h : c ≠ d) : sc (su u d j x) c f = su (sc u c f) d j x := by
  funext a b
  unfold su sc
  by_cases e : a = c
  · subst e; simp [h]
  · simp [e]
set_option maxHeartbeats 1000000 in
theorem c_X11_remembers_n {E : EE} (a : Nat) (ha : a < 12) (u : Sto) (hx : u 178 6 = nI a) : Ct E 1 0 yX11_remembers cX11_remembers 2 none [.ref (E.ad 178)] u (.inl none) (rmM u a) := by
  refine ct_of (by decide) (Nat.le_of_ble_eq_true rfl) (fun X h hR hrt htab hargs hini => ?_)
  have LP : ∀ j k : Nat, 1080 < k + j → k ≤ 1080 → G E X (QM E X (.inl none) (rmM u a) 0) 2 0 52 [(0, .ref (E.ad 178)), (1, .int (nI k))] [] (sc u 182 (mvO (u 182) (u 179) (1080 * (a)) k)) := by
    intro j
    induction j with
    | zero => intro k h1 h2; omega
    | succ j ih =>
      intro k h1 h2
      refine g_iload_n h dX11_remembers_52 rfl rfl ?_
      refine g_sipush (v := nI 1080) h dX11_remembers_53 (by decide) ?_
      refine g_icmp_ge (tgt := 86) h dX11_remembers_56 (by decide) (fun c56 => ?_) (fun c56 => ?_)
      · have n56 := le_n (by omega) (by omega) (show nI (1080) ≤ nI (k) from c56)
        refine g_aload_n h dX11_remembers_86 rfl rfl ?_
        refine g_dup h dX11_remembers_87 rfl ?_
        refine g_getI h fl_X11_202_10 sh_178 (by decide) rfl dX11_remembers_88 ?_
        refine g_iconst (v := nI 1) h dX11_remembers_91 (by decide) ?_
        refine g_iadd h dX11_remembers_92 ?_
        refine g_top (y := nI (a + 1)) ((congrArg (fun z => z + nI 1) (show (_ : Int32) = nI (a) from (congrFun (sc_ne _ _ (by decide)) _).trans hx)).trans (nI_1 _)) ?_
        refine g_putI h pfl_X11_202_10 sh_178 (by decide) rfl dX11_remembers_93 ?_
        exact g_vret h hrt dX11_remembers_96 (by omega) rfl (by rw [rmM, rmA, if_neg (by omega), if_neg (by omega), show k = 1080 by omega])
      · have n56 := nle_n (by omega) (by omega) (show ¬ nI (1080) ≤ nI (k) from c56)
        refine g_aload_n h dX11_remembers_59 rfl rfl ?_
        refine g_getR h fl_X11_19_10 sh_178 (by decide) rfl dX11_remembers_60 ?_
        refine g_sipush (v := nI 1080) h dX11_remembers_63 (by decide) ?_
        refine g_aload_n h dX11_remembers_66 rfl rfl ?_
        refine g_getI h fl_X11_202_10 sh_178 (by decide) rfl dX11_remembers_67 ?_
        refine g_top (y := nI (a)) ((congrFun (sc_ne _ _ (by decide)) _).trans hx) ?_
        refine g_imul h dX11_remembers_70 ?_
        refine g_iload_n h dX11_remembers_71 rfl rfl ?_
        refine g_iadd h dX11_remembers_72 ?_
        refine g_top (y := nI (1080 * (a) + k)) (by rw [nI_mul, nI_add]) ?_
        refine g_aload_n h dX11_remembers_73 rfl rfl ?_
        refine g_getR h fl_X11_7_10 sh_178 (by decide) rfl dX11_remembers_74 ?_
        refine g_iload_n h dX11_remembers_77 rfl rfl ?_
        refine g_iald h _ _ _ sh_179 (by decide) (by decide) rfl (by omega) dX11_remembers_78 ?_
        refine g_top (y := u 179 k) ((congrFun (sc_ne _ _ (by decide)) _).trans rfl) ?_
        refine g_iast h _ _ _ sh_182 (by decide) (by decide) rfl (by omega) dX11_remembers_79 ?_
        refine g_iinc (v := nI (k + 1)) (ls' := [(0, _), (1, _)]) h dX11_remembers_80 rfl (nI_1 k) (by decide) rfl rfl ?_
        refine g_goto (tgt := 52) h dX11_remembers_83 (by decide) ?_
        exact g_cv rfl (by rw [su_sc]; exact congrArg _ mo_s) (ih (k + 1) (by omega) (by omega))
  refine g_aload_n h dX11_remembers_0 rfl rfl ?_
  refine g_getI h fl_X11_202_10 sh_178 (by decide) rfl dX11_remembers_1 ?_
  refine g_bipush (v := nI 12) h dX11_remembers_4 (by decide) ?_
  refine g_icmp_ne (tgt := 50) h dX11_remembers_6 (by decide) (fun c6 => ?_) (fun c6 => ?_)
  · refine g_iconst (v := nI 0) h dX11_remembers_50 (by decide) ?_
    refine g_istore_n (ls' := [(0, _), (1, _)]) h dX11_remembers_51 rfl (by decide) rfl rfl ?_
    refine g_cv rfl (show _ = sc u 182 (mvO (u 182) (u 179) (1080 * (a)) 0) by rw [mo_0]; exact (sc_i rfl).symm) ?_
    exact LP (1080 + 1) 0 (by omega) (by omega)
  · exact absurd (eq_n (by omega) (by omega) (hx.symm.trans c6)) (by omega)
set_option maxHeartbeats 1000000 in
theorem c_X11_remembers_f {E : EE}  (u : Sto) (hx : u 178 6 = nI 12) : Ct E 1 0 yX11_remembers cX11_remembers 2 none [.ref (E.ad 178)] u (.inl none) (rmM u 12) := by
  refine ct_of (by decide) (Nat.le_of_ble_eq_true rfl) (fun X h hR hrt htab hargs hini => ?_)
  have L2 : ∀ j k : Nat, 1080 < k + j → k ≤ 1080 → G E X (QM E X (.inl none) (rmM u 12) 0) 2 0 52 [(0, .ref (E.ad 178)), (1, .int (nI k))] [] (sc (su (sc u 182 (shA u)) 178 6 (nI 11)) 182 (mvO (shA u) (u 179) (1080 * (11)) k)) := by
    intro j
    induction j with
    | zero => intro k h1 h2; omega
    | succ j ih =>
      intro k h1 h2
      refine g_iload_n h dX11_remembers_52 rfl rfl ?_
      refine g_sipush (v := nI 1080) h dX11_remembers_53 (by decide) ?_
      refine g_icmp_ge (tgt := 86) h dX11_remembers_56 (by decide) (fun c56 => ?_) (fun c56 => ?_)
      · have n56 := le_n (by omega) (by omega) (show nI (1080) ≤ nI (k) from c56)
        refine g_aload_n h dX11_remembers_86 rfl rfl ?_
        refine g_dup h dX11_remembers_87 rfl ?_
        refine g_getI h fl_X11_202_10 sh_178 (by decide) rfl dX11_remembers_88 ?_
        refine g_iconst (v := nI 1) h dX11_remembers_91 (by decide) ?_
        refine g_iadd h dX11_remembers_92 ?_
        refine g_top (y := nI (11 + 1)) ((congrArg (fun z => z + nI 1) (show (_ : Int32) = nI (11) from (congrFun (sc_ne _ _ (by decide)) _).trans su_k)).trans (nI_1 _)) ?_
        refine g_putI h pfl_X11_202_10 sh_178 (by decide) rfl dX11_remembers_93 ?_
        exact g_vret h hrt dX11_remembers_96 (by omega) rfl (by rw [show k = 1080 by omega, rm_nrm]; rfl)
      · have n56 := nle_n (by omega) (by omega) (show ¬ nI (1080) ≤ nI (k) from c56)
        refine g_aload_n h dX11_remembers_59 rfl rfl ?_
        refine g_getR h fl_X11_19_10 sh_178 (by decide) rfl dX11_remembers_60 ?_
        refine g_sipush (v := nI 1080) h dX11_remembers_63 (by decide) ?_
        refine g_aload_n h dX11_remembers_66 rfl rfl ?_
        refine g_getI h fl_X11_202_10 sh_178 (by decide) rfl dX11_remembers_67 ?_
        refine g_top (y := nI (11)) ((congrFun (sc_ne _ _ (by decide)) _).trans su_k) ?_
        refine g_imul h dX11_remembers_70 ?_
        refine g_iload_n h dX11_remembers_71 rfl rfl ?_
        refine g_iadd h dX11_remembers_72 ?_
        refine g_top (y := nI (1080 * (11) + k)) (by rw [nI_mul, nI_add]) ?_
        refine g_aload_n h dX11_remembers_73 rfl rfl ?_
        refine g_getR h fl_X11_7_10 sh_178 (by decide) rfl dX11_remembers_74 ?_
        refine g_iload_n h dX11_remembers_77 rfl rfl ?_
        refine g_iald h _ _ _ sh_179 (by decide) (by decide) rfl (by omega) dX11_remembers_78 ?_
        refine g_top (y := u 179 k) ((congrFun (sc_ne _ _ (by decide)) _).trans ((congrFun (su_cell _ _ (by decide)) _).trans (congrFun (sc_ne _ _ (by decide)) _))) ?_
        refine g_iast h _ _ _ sh_182 (by decide) (by decide) rfl (by omega) dX11_remembers_79 ?_
        refine g_iinc (v := nI (k + 1)) (ls' := [(0, _), (1, _)]) h dX11_remembers_80 rfl (nI_1 k) (by decide) rfl rfl ?_
        refine g_goto (tgt := 52) h dX11_remembers_83 (by decide) ?_
        exact g_cv rfl (by rw [su_sc]; exact congrArg _ mo_s) (ih (k + 1) (by omega) (by omega))
  have LP : ∀ j k : Nat, 11880 < k + j → k ≤ 11880 → G E X (QM E X (.inl none) (rmM u 12) 0) 2 0 11 [(0, .ref (E.ad 178)), (1, .int (nI k))] [] (sc u 182 (mvF (u 182) (fun j => u 182 (j + 1080)) k)) := by
    intro j
    induction j with
    | zero => intro k h1 h2; omega
    | succ j ih =>
      intro k h1 h2
      refine g_iload_n h dX11_remembers_11 rfl rfl ?_
      refine g_sipush (v := nI 11880) h dX11_remembers_12 (by decide) ?_
      refine g_icmp_ge (tgt := 40) h dX11_remembers_15 (by decide) (fun c15 => ?_) (fun c15 => ?_)
      · have n15 := le_n (by omega) (by omega) (show nI (11880) ≤ nI (k) from c15)
        obtain rfl : k = 11880 := by omega
        refine g_aload_n h dX11_remembers_40 rfl rfl ?_
        refine g_dup h dX11_remembers_41 rfl ?_
        refine g_getI h fl_X11_202_10 sh_178 (by decide) rfl dX11_remembers_42 ?_
        refine g_iconst (v := nI 1) h dX11_remembers_45 (by decide) ?_
        refine g_isub h dX11_remembers_46 ?_
        refine g_top (y := nI 11) ((congrArg (fun z => z - nI 1) (show (_ : Int32) = nI 12 from (congrFun (sc_ne _ _ (by decide)) _).trans hx)).trans (pk_sub (by omega))) ?_
        refine g_putI h pfl_X11_202_10 sh_178 (by decide) rfl dX11_remembers_47 ?_
        refine g_iconst (v := nI 0) h dX11_remembers_50 (by decide) ?_
        refine g_istore_n (ls' := [(0, _), (1, _)]) h dX11_remembers_51 rfl (by decide) rfl rfl ?_
        refine g_cv rfl (show _ = sc (su (sc u 182 (shA u)) 178 6 (nI 11)) 182 (mvO (shA u) (u 179) (1080 * (11)) 0) by rw [mo_0]; exact (sc_i (by rw [su_cell _ _ (by decide), sc_at]; rfl)).symm) ?_
        exact L2 (1080 + 1) 0 (by omega) (by omega)
      · have n15 := nle_n (by omega) (by omega) (show ¬ nI (11880) ≤ nI (k) from c15)
        refine g_aload_n h dX11_remembers_18 rfl rfl ?_
        refine g_getR h fl_X11_19_10 sh_178 (by decide) rfl dX11_remembers_19 ?_
        refine g_iload_n h dX11_remembers_22 rfl rfl ?_
        refine g_aload_n h dX11_remembers_23 rfl rfl ?_
        refine g_getR h fl_X11_19_10 sh_178 (by decide) rfl dX11_remembers_24 ?_
        refine g_iload_n h dX11_remembers_27 rfl rfl ?_
        refine g_sipush (v := nI 1080) h dX11_remembers_28 (by decide) ?_
        refine g_iadd h dX11_remembers_31 ?_
        refine g_top (y := nI (k + 1080)) (nI_add _ _) ?_
        refine g_iald h _ _ _ sh_182 (by decide) (by decide) rfl (by omega) dX11_remembers_32 ?_
        refine g_top (y := u 182 (k + 1080)) (by rw [sc_at]; exact mv_hi (by omega)) ?_
        refine g_iast h _ _ _ sh_182 (by decide) (by decide) rfl (by omega) dX11_remembers_33 ?_
        refine g_iinc (v := nI (k + 1)) (ls' := [(0, _), (1, _)]) h dX11_remembers_34 rfl (nI_1 k) (by decide) rfl rfl ?_
        refine g_goto (tgt := 11) h dX11_remembers_37 (by decide) ?_
        exact g_cv rfl (by rw [su_sc]; exact congrArg _ (mv_s (g := fun j => u 182 (j + 1080)))) (ih (k + 1) (by omega) (by omega))
  refine g_aload_n h dX11_remembers_0 rfl rfl ?_
  refine g_getI h fl_X11_202_10 sh_178 (by decide) rfl dX11_remembers_1 ?_
  refine g_bipush (v := nI 12) h dX11_remembers_4 (by decide) ?_
  refine g_icmp_ne (tgt := 50) h dX11_remembers_6 (by decide) (fun c6 => ?_) (fun c6 => ?_)
  · exact absurd hx c6
  · refine g_iconst (v := nI 0) h dX11_remembers_9 (by decide) ?_
    refine g_istore_n (ls' := [(0, _), (1, _)]) h dX11_remembers_10 rfl (by decide) rfl rfl ?_
    refine g_cv rfl (show _ = sc u 182 (mvF (u 182) (fun j => u 182 (j + 1080)) 0) by rw [mv_0]; exact (sc_i rfl).symm) ?_
    exact LP (11880 + 1) 0 (by omega) (by omega)
theorem c_X11_remembers {E : EE} (a : Nat) (ha : a ≤ 12) (u : Sto) (hx : u 178 6 = nI a) : Ct E 1 0 yX11_remembers cX11_remembers 2 none [.ref (E.ad 178)] u (.inl none) (rmM u a) := by
  by_cases e : a = 12
  · subst e; exact c_X11_remembers_f u hx
  · exact c_X11_remembers_n a (by omega) u hx
def shF (g : Nat → Int32) (i : Nat) : Nat → Int32 := fun j => if 1079 - i < j ∧ j ≤ 1079 then g (j - 4) else g j
theorem sh_s {g : Nat → Int32} {i : Nat} (h : i < 316) : upd (shF g i) (1079 - i) (g (1079 - i - 4)) = shF g (i + 1) := by
  funext j
  unfold upd shF
  by_cases e : j = 1079 - i
  · subst e; rw [if_pos rfl, if_pos (by omega)]
  · rw [if_neg e]
    by_cases q : 1079 - i < j ∧ j ≤ 1079
    · rw [if_pos q, if_pos (by omega)]
    · rw [if_neg q, if_neg (by omega)]
def wrF (g : Nat → Int32) (r w h : Int32) : Nat → Int32 := upd (upd (upd (upd (upd (shF g 316) 760 (g 4)) 761 r) 762 w) 763 h) 10 (mnI (nI 80) (g 10 + nI 1))
theorem sh_lo {g : Nat → Int32} {j : Nat} (h : j < 764) : shF g 316 j = g j := by unfold shF; rw [if_neg (by omega)]
set_option maxHeartbeats 1000000 in
theorem c_X11_writes {E : EE} (r a w : Int32) (u : Sto) : Ct E 2 0 yX11_writes cX11_writes 5 none [.ref (E.ad 178), .int r, .int a, .int w] u (.inl none) (sc u 179 (wrF (u 179) r a w)) := by
  refine ct_of (by decide) (Nat.le_of_ble_eq_true rfl) (fun X h hR hrt htab hargs hini => ?_)
  have LP : ∀ j k : Nat, 316 < k + j → k ≤ 316 → G E X (QM E X (.inl none) (sc u 179 (wrF (u 179) r a w)) 0) 5 0 5 [(0, .ref (E.ad 178)), (1, .int r), (2, .int a), (3, .int w), (4, .int (nI (319 - k)))] [] (sc u 179 (shF (u 179) k)) := by
    intro j
    induction j with
    | zero => intro k h1 h2; omega
    | succ j ih =>
      intro k h1 h2
      refine g_iload h dX11_writes_5 rfl ?_
      refine g_iconst (v := nI 4) h dX11_writes_7 (by decide) ?_
      refine g_icmp_lt (tgt := 41) h dX11_writes_8 (by decide) (fun c8 => ?_) (fun c8 => ?_)
      · have n8 := lt_n (by omega) (by omega) (show nI (319 - k) < nI (4) from c8)
        obtain rfl : k = 316 := by omega
        refine g_aload_n h dX11_writes_41 rfl rfl ?_
        refine g_getR h fl_X11_7_10 sh_178 (by decide) rfl dX11_writes_42 ?_
        refine g_sipush (v := nI 760) h dX11_writes_45 (by decide) ?_
        refine g_aload_n h dX11_writes_48 rfl rfl ?_
        refine g_getR h fl_X11_7_10 sh_178 (by decide) rfl dX11_writes_49 ?_
        refine g_iconst (v := nI 4) h dX11_writes_52 (by decide) ?_
        refine g_iald h _ _ _ sh_179 (by decide) (by decide) rfl (by omega) dX11_writes_53 ?_
        refine g_top (y := u 179 4) (by rw [sc_at]; exact sh_lo (by decide)) ?_
        refine g_iast h _ _ _ sh_179 (by decide) (by decide) rfl (by omega) dX11_writes_54 ?_
        refine g_aload_n h dX11_writes_55 rfl rfl ?_
        refine g_getR h fl_X11_7_10 sh_178 (by decide) rfl dX11_writes_56 ?_
        refine g_sipush (v := nI 761) h dX11_writes_59 (by decide) ?_
        refine g_iload_n h dX11_writes_62 rfl rfl ?_
        refine g_iast h _ _ _ sh_179 (by decide) (by decide) rfl (by omega) dX11_writes_63 ?_
        refine g_aload_n h dX11_writes_64 rfl rfl ?_
        refine g_getR h fl_X11_7_10 sh_178 (by decide) rfl dX11_writes_65 ?_
        refine g_sipush (v := nI 762) h dX11_writes_68 (by decide) ?_
        refine g_iload_n h dX11_writes_71 rfl rfl ?_
        refine g_iast h _ _ _ sh_179 (by decide) (by decide) rfl (by omega) dX11_writes_72 ?_
        refine g_aload_n h dX11_writes_73 rfl rfl ?_
        refine g_getR h fl_X11_7_10 sh_178 (by decide) rfl dX11_writes_74 ?_
        refine g_sipush (v := nI 763) h dX11_writes_77 (by decide) ?_
        refine g_iload_n h dX11_writes_80 rfl rfl ?_
        refine g_iast h _ _ _ sh_179 (by decide) (by decide) rfl (by omega) dX11_writes_81 ?_
        refine g_aload_n h dX11_writes_82 rfl rfl ?_
        refine g_getR h fl_X11_7_10 sh_178 (by decide) rfl dX11_writes_83 ?_
        refine g_bipush (v := nI 10) h dX11_writes_86 (by decide) ?_
        refine g_bipush (v := nI 80) h dX11_writes_88 (by decide) ?_
        refine g_aload_n h dX11_writes_90 rfl rfl ?_
        refine g_getR h fl_X11_7_10 sh_178 (by decide) rfl dX11_writes_91 ?_
        refine g_bipush (v := nI 10) h dX11_writes_94 (by decide) ?_
        refine g_iald h _ _ _ sh_179 (by decide) (by decide) rfl (by omega) dX11_writes_96 ?_
        refine g_top (y := u 179 10) (by rw [su_sc, su_sc, su_sc, su_sc, sc_at, pk_un (by decide), pk_un (by decide), pk_un (by decide), pk_un (by decide)]; exact sh_lo (by decide)) ?_
        refine g_iconst (v := nI 1) h dX11_writes_97 (by decide) ?_
        refine g_iadd h dX11_writes_98 ?_
        refine g_S h ls_X11_292 (c_X11_lesser (nI 80) (u 179 10 + nI 1) _) (fitR hR (by first | decide | omega) (by decide) (by omega)) rfl rfl (Nat.le_of_ble_eq_true rfl) dX11_writes_99 ?_
        refine g_iast h _ _ _ sh_179 (by decide) (by decide) rfl (by omega) dX11_writes_102 ?_
        exact g_vret h hrt dX11_writes_103 (by omega) rfl (by rw [su_sc, su_sc, su_sc, su_sc, su_sc]; rfl)
      · have n8 := nlt_n (by omega) (by omega) (show ¬ nI (319 - k) < nI (4) from c8)
        refine g_aload_n h dX11_writes_11 rfl rfl ?_
        refine g_getR h fl_X11_7_10 sh_178 (by decide) rfl dX11_writes_12 ?_
        refine g_sipush (v := nI 760) h dX11_writes_15 (by decide) ?_
        refine g_iload h dX11_writes_18 rfl ?_
        refine g_iadd h dX11_writes_20 ?_
        refine g_top (y := nI (1079 - k)) ((nI_add _ _).trans (congrArg nI (by omega))) ?_
        refine g_aload_n h dX11_writes_21 rfl rfl ?_
        refine g_getR h fl_X11_7_10 sh_178 (by decide) rfl dX11_writes_22 ?_
        refine g_sipush (v := nI 760) h dX11_writes_25 (by decide) ?_
        refine g_iload h dX11_writes_28 rfl ?_
        refine g_iadd h dX11_writes_30 ?_
        refine g_iconst (v := nI 4) h dX11_writes_31 (by decide) ?_
        refine g_isub h dX11_writes_32 ?_
        refine g_top (y := nI (1079 - k - 4)) ((congrArg (fun z => z - nI 4) (nI_add 760 (319 - k))).trans ((pk_sub (by omega)).trans (congrArg nI (by omega)))) ?_
        refine g_iald h _ _ _ sh_179 (by decide) (by decide) rfl (by omega) dX11_writes_33 ?_
        refine g_top (y := u 179 (1079 - k - 4)) (by rw [sc_at]; exact if_neg (by omega)) ?_
        refine g_iast h _ _ _ sh_179 (by decide) (by decide) rfl (by omega) dX11_writes_34 ?_
        refine g_iinc (v := nI (319 - (k + 1))) (ls' := [(0, _), (1, _), (2, _), (3, _), (4, _)]) h dX11_writes_35 rfl ((nI_d (by omega)).trans (congrArg nI (by omega))) (by decide) rfl rfl ?_
        refine g_goto (tgt := 5) h dX11_writes_38 (by decide) ?_
        exact g_cv rfl (by rw [su_sc]; exact congrArg _ (sh_s (by omega))) (ih (k + 1) (by omega) (by omega))
  refine g_sipush (v := nI 319) h dX11_writes_0 (by decide) ?_
  refine g_istore (ls' := [(0, _), (1, _), (2, _), (3, _), (4, _)]) h dX11_writes_3 (by decide) rfl rfl ?_
  refine g_cv rfl (show _ = sc u 179 (shF (u 179) 0) by exact (sc_i (by funext j; unfold shF; rw [if_neg (by omega)])).symm) ?_
  exact LP (316 + 1) 0 (by omega) (by omega)
def pyM (u : Sto) (a : Nat) (x : Int32) : Sto := su (su u 179 (16 + 4 * a) (u 179 (16 + 4 * a) - x)) 179 6 (u 179 6 + x)
set_option maxHeartbeats 1000000 in
theorem c_X11_pays {E : EE} (a : Nat) (ha : a < 10) (x : Int32) (u : Sto) : Ct E 1 0 yX11_pays cX11_pays 3 none [.ref (E.ad 178), .int (nI a), .int x] u (.inl none) (pyM u a x) := by
  refine ct_of (by decide) (Nat.le_of_ble_eq_true rfl) (fun X h hR hrt htab hargs hini => ?_)
  refine g_aload_n h dX11_pays_0 rfl rfl ?_
  refine g_getR h fl_X11_7_10 sh_178 (by decide) rfl dX11_pays_1 ?_
  refine g_bipush (v := nI 16) h dX11_pays_4 (by decide) ?_
  refine g_iconst (v := nI 4) h dX11_pays_6 (by decide) ?_
  refine g_iload_n h dX11_pays_7 rfl rfl ?_
  refine g_imul h dX11_pays_8 ?_
  refine g_iadd h dX11_pays_9 ?_
  refine g_iconst (v := nI 0) h dX11_pays_10 (by decide) ?_
  refine g_iadd h dX11_pays_11 ?_
  refine g_top (y := nI (16 + 4 * a)) (ix16 (w := 0) (by omega) (by omega)) ?_
  refine g_dup2 h dX11_pays_12 rfl rfl ?_
  refine g_iald h _ _ _ sh_179 (by decide) (by decide) rfl (by omega) dX11_pays_13 ?_
  refine g_iload_n h dX11_pays_14 rfl rfl ?_
  refine g_isub h dX11_pays_15 ?_
  refine g_iast h _ _ _ sh_179 (by decide) (by decide) rfl (by omega) dX11_pays_16 ?_
  refine g_aload_n h dX11_pays_17 rfl rfl ?_
  refine g_getR h fl_X11_7_10 sh_178 (by decide) rfl dX11_pays_18 ?_
  refine g_bipush (v := nI 6) h dX11_pays_21 (by decide) ?_
  refine g_dup2 h dX11_pays_23 rfl rfl ?_
  refine g_iald h _ _ _ sh_179 (by decide) (by decide) rfl (by omega) dX11_pays_24 ?_
  refine g_top (y := u 179 6) (su_i (by omega)) ?_
  refine g_iload_n h dX11_pays_25 rfl rfl ?_
  refine g_iadd h dX11_pays_26 ?_
  refine g_iast h _ _ _ sh_179 (by decide) (by decide) rfl (by omega) dX11_pays_27 ?_
  exact g_vret h hrt dX11_pays_28 (by omega) rfl rfl
set_option maxHeartbeats 1000000 in
theorem c_X11_draw {E : EE} (y : Int32) (hy : ¬ y = 0) (u : Sto) : Ct E 1 0 yX11_draw cX11_draw 2 (some .int) [.ref (E.ad 178), .int y] u (.inl (some (.int (rmI (drw (u 179 11)) y)))) (su u 179 11 (sdN (u 179 11))) := by
  refine ct_of (by decide) (Nat.le_of_ble_eq_true rfl) (fun X h hR hrt htab hargs hini => ?_)
  refine g_aload_n h dX11_draw_0 rfl rfl ?_
  refine g_getR h fl_X11_7_10 sh_178 (by decide) rfl dX11_draw_1 ?_
  refine g_bipush (v := nI 11) h dX11_draw_4 (by decide) ?_
  refine g_ldcwI h tw_9_92 dX11_draw_6 ?_
  refine g_aload_n h dX11_draw_9 rfl rfl ?_
  refine g_getR h fl_X11_7_10 sh_178 (by decide) rfl dX11_draw_10 ?_
  refine g_bipush (v := nI 11) h dX11_draw_13 (by decide) ?_
  refine g_iald h _ _ _ sh_179 (by decide) (by decide) rfl (by omega) dX11_draw_15 ?_
  refine g_imul h dX11_draw_16 ?_
  refine g_sipush (v := nI 12345) h dX11_draw_17 (by decide) ?_
  refine g_iadd h dX11_draw_20 ?_
  refine g_iast h _ _ _ sh_179 (by decide) (by decide) rfl (by omega) dX11_draw_21 ?_
  refine g_aload_n h dX11_draw_22 rfl rfl ?_
  refine g_getR h fl_X11_7_10 sh_178 (by decide) rfl dX11_draw_23 ?_
  refine g_bipush (v := nI 11) h dX11_draw_26 (by decide) ?_
  refine g_iald h _ _ _ sh_179 (by decide) (by decide) rfl (by omega) dX11_draw_28 ?_
  refine g_top (y := sdN (u 179 11)) su_k ?_
  refine g_bipush (v := nI 16) h dX11_draw_29 (by decide) ?_
  refine g_iushr h dX11_draw_31 ?_
  refine g_sipush (v := nI 32767) h dX11_draw_32 (by decide) ?_
  refine g_iand h dX11_draw_35 ?_
  refine g_iload_n h dX11_draw_36 rfl rfl ?_
  refine g_irem h dX11_draw_37 hy ?_
  exact g_iret h hrt dX11_draw_38 (by omega) (by rfl) rfl
