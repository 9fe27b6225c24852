-- after: 38.r 39.s 40.t 47.str 48.tx 49.ty 50.tt 51.tu 52.tv 53.lw 59.mc 62.mf 70.na 71.nb 72.nc 73.nd 74.ne 75.nf 76.ng
def rn (fa : Nat → Int32) (ws s : List Int32) : List Int32 := ws.foldl (fun s w => stL fa w s) s
theorem rn_app {fa : Nat → Int32} {a b s : List Int32} : rn fa (a ++ b) s = rn fa b (rn fa a s) := List.foldl_append
def EV (fa : Nat → Int32) (ws : List Int32) (v : Int32) (d : Nat) : Prop := ∀ s : List Int32, s.length + d ≤ 40 → rn fa ws s = v :: s
def wv (fa : Nat → Int32) (w : Int32) : Int32 := if w < 0 then fa (ix (-1 - w)) else w
theorem EV_mono {fa : Nat → Int32} {ws : List Int32} {v : Int32} {d e : Nat} (h : EV fa ws v d) (hd : d ≤ e) : EV fa ws v e := fun s hs => h s (by omega)
theorem EV_1 {fa : Nat → Int32} {w : Int32} (h : ¬ w < -8) : EV fa [w] (wv fa w) 1 := fun s hs => by
  show stL fa w s = _
  rw [stL_push h (by omega)]; rfl
theorem EV_bin {fa : Nat → Int32} {a b : List Int32} {x y w : Int32} {d e : Nat} (ha : EV fa a x d) (hb : EV fa b y e) (h1 : w < -8) (h2 : ¬ w = -12) (m : Nat) (hm : d ≤ m) (hm2 : e + 1 ≤ m) : EV fa (a ++ b ++ [w]) (jn w x y) m := fun s hs => by
  rw [rn_app, rn_app, ha s (by omega), hb (x :: s) (by simp; omega)]
  show stL fa w (y :: x :: s) = _
  rw [stL, if_pos h1, if_neg h2]
theorem EV_not {fa : Nat → Int32} {a : List Int32} {x : Int32} {d : Nat} (ha : EV fa a x d) : EV fa (a ++ [-12]) (nI 1 - x) d := fun s hs => by
  rw [rn_app, ha s hs]
  show stL fa (-12) (x :: s) = _
  rw [stL, if_pos (by decide), if_pos rfl]
/-- a boolean method returns the lowest bit of what lies on top -/
theorem w_zbit {p : Program} {l : Launch} {e : Env} {R : Room} {s : State} {m : MethodId} {args : Array Value} {below : List Frame} {meth : Method} {c : Code} {H : Heap} {locs : List Loc} {cells slots : Nat} {cc : ByteArray} {Qc : Array Value → State → Outcome → State → Prop} {free : Addr → Prop} {x y : Int32} (hexec : p.tables.exec = Jvm.exec) (hb : c.code = cc) (hr : meth.sig.returnType = some .boolean) (hn : narrow .boolean (.int x) = .int y)
    (hq : ∀ t : State, t.heap = H → s.WarmedH t.vm → Qc args s (.returned (some (.int y))) t) (hf : ∀ q ∈ locs, free q.base) {pc : Nat} {ls : Array Slot} (hdg : decode cc pc = .ok (.ireturn, 1)) (hlocks : meth.locks = false) : W p l e R s m args below meth c H locs cells slots (MQ below Qc args s cells slots free) (F0 m pc ls [.int x]) := fun T hT X => by
  obtain ⟨fs, r1, r2, r3, r4, r5⟩ := X.leave (v := some (.int y)) (fun h => by rw [hr] at h; cases h)
  have hm : T.vm.method? m = some meth := X.method'
  refine ⟨T.setFrames fs, ?_, .returned (some (.int y)), r2, r3, hq _ hT r4, locs, ⟨⟨_, rfl⟩, r4, r5⟩, hf⟩
  jvm_step X.here [X.here.top, hexec, hb, hdg, hm, hr, hn]
  (try refine ⟨rfl, ?_⟩); (try refine ⟨rfl, ?_⟩)
  first | (intro acts; rw [r1 _ acts rfl rfl rfl]) | rw [r1 _ _ rfl rfl rfl]
  exact Steps.refl _
theorem g_zbitP {E : EE} {X : XX} {own : String} {cc : ByteArray} {nL n pc : Nat} {ls : List (Nat × Value)} {u : Sto} {P : Res → Sto → Prop} (h : CX E X own cc nL) {mc : Nat} {x y : Int32} (hr : X.meth.sig.returnType = some .boolean) (hd : decode cc pc = .ok (.ireturn, 1)) (hn : n ≤ mc) (hv : x &&& 1 = y) (ho : P (.inl (some (.int y))) u) : G E X (QMP E X P mc) nL n pc ls [.int x] u := fun H locs ar hP hS hl =>
  W.widen hn (Nat.mul_le_mul_left 6 hn) (vx_ret (w_zbit (y := y) h.1 h.2.1 hr (congrArg Value.int hv) (fun t ht hW => ⟨some (.int y), u, ho, rfl, wok_end h.2.2.2.2.2 hP hS ht hW, hS.F ht⟩) hS.2.2 hd h.2.2.2.2.1))
theorem b2_and {p : Prop} [Decidable p] : b2 p &&& 1 = b2 p := by
  by_cases h : p
  · rw [b2_t h]; decide
  · rw [b2_f h]; decide
def FA (u : Sto) (fa : Nat → Int32) : Prop := (∀ i, i < 6 → u 184 i = fa i) ∧ u 178 15 &&& 1 = fa 6 ∧ u 178 16 &&& 1 = fa 7 ∧ (fa 6 = nI 0 ∨ fa 6 = nI 1) ∧ (fa 7 = nI 0 ∨ fa 7 = nI 1)
theorem kd2_i {f : Nat → Int32} {L s : Nat} : kdN f L s = 2 ↔ s < L ∧ dgP (f s) := by
  constructor
  · intro h
    have hl := kd_lt (f := f) (L := L) (b := s) (by omega)
    refine ⟨hl, ?_⟩
    unfold kdN at h
    rw [if_neg (by omega)] at h
    split at h
    · omega
    · split at h
      · rename_i q; exact of_decide_eq_true q
      · omega
  · intro ⟨a, b⟩
    have hb : dgB (f s) = true := decide_eq_true b
    unfold kdN
    rw [if_neg (by omega), if_neg (dg_az hb), if_pos hb]
theorem c_X11_signs {E : EE} (B : Int32) (f : Nat → Int32) (L p s : Nat) (hs : skp f L p = s) (w : Int32) (c : Int32) (hc : azB c = false) (hc2 : dgB c = false) (u : Sto) (hf : LF u B f) (hL : L ≤ 400) (hp : p ≤ L) : Ct E 3 0 yX11_isSign cX11_isSign 2 (some .boolean) [.ref (E.ad 178), .int c] (MR u B L p w) (.inl (some (.int (b2 (sgP f L s c))))) (MR u B L s w) := by
  subst hs
  exact c_X11_isSign B f L p w c hc hc2 u hf hL hp
theorem sg_en {f : Nat → Int32} {L s : Nat} {c : Int32} (h : sgP f L s c) : enN f L s = s + 1 := by
  have h1 := h.1
  have hl := sg_lt h
  unfold kdN at h1
  unfold enN
  rw [if_neg (by omega)] at h1 ⊢
  split at h1
  · omega
  · rename_i q
    rw [if_neg q]
    split at h1
    · omega
    · rename_i q2
      rw [if_neg q2]
theorem part_8 {f : Nat → Int32} {L s : Nat} (h : nuP f L s 3 (nI 0) (nI 999)) : ¬ nmI f L s < -8 := fun q => h.2.2.1 (Int32.lt_trans q (by decide))
theorem part_v {fa f : Nat → Int32} {L s : Nat} (h : nuP f L s 3 (nI 0) (nI 999)) : wv fa (nmI f L s) = nmI f L s := by
  unfold wv
  exact if_neg h.2.2.1
set_option maxHeartbeats 1000000 in
theorem c_X11_part {E : EE} (B : Int32) (f : Nat → Int32) (L p : Nat) (s : Nat) (hs : skp f L p = s) (fa : Nat → Int32) (u : Sto) (hf : LF u B f) (hL : L ≤ 400) (hp : p ≤ L) (hF : FA u fa) : CtP E 6 0 yX11_part cX11_part 2 (some .int) [.ref (E.ad 178)] (MR u B L p (-1)) (fun o t => (∃ w, partW f L s = some w ∧ ¬ w < -8 ∧ o = .inl (some (.int (wv fa w))) ∧ t = MR u B L (enN f L s) (-1)) ∨ (partW f L s = none ∧ ∃ x q, q ≤ L ∧ o = .inl (some (.int x)) ∧ t = MR u B L q (nI s))) := by
  have q0 := (skp_b (f := f) hp).2
  rw [hs] at q0
  have hss : skp f L s = s := by rw [← hs]; exact sk_sk (Nat.le_refl _)
  have e0 := (enN_b (f := f) q0).2
  refine ctp_of (by decide) (Nat.le_of_ble_eq_true rfl) (fun X h hR hrt htab hargs => ?_)
  refine g_aload_n h dX11_part_0 rfl rfl ?_
  refine g_getI h fl_X11_25_10 sh_178 (by decide) rfl dX11_part_1 ?_
  refine g_top mr_r12 ?_
  refine g_iconst (v := -1) h dX11_part_4 (by decide) ?_
  refine g_icmp_eq (tgt := 10) h dX11_part_5 (by decide) (fun c5 => ?_) (fun c5 => ?_)
  · refine g_aload_n h dX11_part_10 rfl rfl ?_
    refine g_V h lv_X11_106_X11 sh_178 (by decide) rfl (c_X11_skip B f L p (-1) u hf hL hp) (fitR hR (by first | decide | omega) (by decide) (by omega)) rfl rfl (Nat.le_of_ble_eq_true rfl) dX11_part_11 ?_
    refine g_sto (mr_pv (congrArg nI hs)) ?_
    refine g_aload_n h dX11_part_14 rfl rfl ?_
    refine g_getI h fl_X11_97_10 sh_178 (by decide) rfl dX11_part_15 ?_
    refine g_top mr_r11 ?_
    refine g_aload_n h dX11_part_18 rfl rfl ?_
    refine g_getI h fl_X11_100_10 sh_178 (by decide) rfl dX11_part_19 ?_
    refine g_top mr_r10 ?_
    refine g_icmp_ge (tgt := 53) h dX11_part_22 (by decide) (fun c22 => ?_) (fun c22 => ?_)
    · have n22 := le_n (by omega) (by omega) (show nI (L) ≤ nI (s) from c22)
      have hk2 : ¬ kdN f L s = 2 := fun z => by have := (kd2_i.mp z).1; omega
      refine g_aload_n h dX11_part_53 rfl rfl ?_
      refine g_ldcS (tx := "day") (k := 20) h (by decide) dX11_part_54 ?_
      refine g_V h lv_X11_119_X11 sh_178 (by decide) rfl (c_X11_hass B f L s s hss (-1) 20 (by decide) (by decide) u hf hL q0) (fitR hR (by first | decide | omega) (by decide) (by omega)) rfl rfl (Nat.le_of_ble_eq_true rfl) dX11_part_56 ?_
      by_cases n56 : wdB f L s 20 = true
      · refine g_top (b2_t n56) ?_
        refine g_sto (mr_pv (congrArg nI (if_pos n56))) ?_
        refine g_if_eq (tgt := 66) h dX11_part_59 (by decide) (fun q => absurd q (by decide)) (fun _ => ?_)
        refine g_iconst (v := nI 0) h dX11_part_62 (by decide) ?_
        refine g_goto (tgt := 132) h dX11_part_63 (by decide) ?_
        refine g_istore_n (ls' := [(0, _), (1, _)]) h dX11_part_132 rfl (by decide) rfl rfl ?_
        refine g_iload_n h dX11_part_133 rfl rfl ?_
        refine g_iconst (v := -1) h dX11_part_134 (by decide) ?_
        refine g_icmp_ne (tgt := 148) h dX11_part_135 (by decide) (fun c135 => ?_) (fun c135 => ?_)
        · refine g_aload_n h dX11_part_148 rfl rfl ?_
          refine g_getR h fl_X11_29_10 sh_178 (by decide) rfl dX11_part_149 ?_
          refine g_iload_n h dX11_part_152 rfl rfl ?_
          refine g_iald h _ _ _ sh_184 (by decide) (by decide) rfl (by decide) dX11_part_153 ?_
          refine g_top (mr_o (by decide)) ?_
          exact g_iretP h hrt dX11_part_154 (by omega) (Or.inl ⟨-1, by rw [partW, if_neg hk2, if_pos n56], by decide, by rw [hF.1 0 (by decide)]; rfl, rfl⟩)
        · exact absurd c135 (by decide)
      · refine g_top (b2_f n56) ?_
        refine g_sto (mr_pv (congrArg nI (if_neg n56))) ?_
        refine g_if_eq (tgt := 66) h dX11_part_59 (by decide) (fun _ => ?_) (fun q => absurd q (by decide))
        refine g_aload_n h dX11_part_66 rfl rfl ?_
        refine g_ldcS (tx := "hour") (k := 21) h (by decide) dX11_part_67 ?_
        refine g_V h lv_X11_119_X11 sh_178 (by decide) rfl (c_X11_hass B f L s s hss (-1) 21 (by decide) (by decide) u hf hL q0) (fitR hR (by first | decide | omega) (by decide) (by omega)) rfl rfl (Nat.le_of_ble_eq_true rfl) dX11_part_69 ?_
        by_cases n69 : wdB f L s 21 = true
        · refine g_top (b2_t n69) ?_
          refine g_sto (mr_pv (congrArg nI (if_pos n69))) ?_
          refine g_if_eq (tgt := 79) h dX11_part_72 (by decide) (fun q => absurd q (by decide)) (fun _ => ?_)
          refine g_iconst (v := nI 1) h dX11_part_75 (by decide) ?_
          refine g_goto (tgt := 132) h dX11_part_76 (by decide) ?_
          refine g_istore_n (ls' := [(0, _), (1, _)]) h dX11_part_132 rfl (by decide) rfl rfl ?_
          refine g_iload_n h dX11_part_133 rfl rfl ?_
          refine g_iconst (v := -1) h dX11_part_134 (by decide) ?_
          refine g_icmp_ne (tgt := 148) h dX11_part_135 (by decide) (fun c135 => ?_) (fun c135 => ?_)
          · refine g_aload_n h dX11_part_148 rfl rfl ?_
            refine g_getR h fl_X11_29_10 sh_178 (by decide) rfl dX11_part_149 ?_
            refine g_iload_n h dX11_part_152 rfl rfl ?_
            refine g_iald h _ _ _ sh_184 (by decide) (by decide) rfl (by decide) dX11_part_153 ?_
            refine g_top (mr_o (by decide)) ?_
            exact g_iretP h hrt dX11_part_154 (by omega) (Or.inl ⟨-2, by rw [partW, if_neg hk2, if_neg n56, if_pos n69], by decide, by rw [hF.1 1 (by decide)]; rfl, rfl⟩)
          · exact absurd c135 (by decide)
        · refine g_top (b2_f n69) ?_
          refine g_sto (mr_pv (congrArg nI (if_neg n69))) ?_
          refine g_if_eq (tgt := 79) h dX11_part_72 (by decide) (fun _ => ?_) (fun q => absurd q (by decide))
          refine g_aload_n h dX11_part_79 rfl rfl ?_
          refine g_ldcS (tx := "coins") (k := 22) h (by decide) dX11_part_80 ?_
          refine g_V h lv_X11_119_X11 sh_178 (by decide) rfl (c_X11_hass B f L s s hss (-1) 22 (by decide) (by decide) u hf hL q0) (fitR hR (by first | decide | omega) (by decide) (by omega)) rfl rfl (Nat.le_of_ble_eq_true rfl) dX11_part_82 ?_
          by_cases n82 : wdB f L s 22 = true
          · refine g_top (b2_t n82) ?_
            refine g_sto (mr_pv (congrArg nI (if_pos n82))) ?_
            refine g_if_eq (tgt := 92) h dX11_part_85 (by decide) (fun q => absurd q (by decide)) (fun _ => ?_)
            refine g_iconst (v := nI 2) h dX11_part_88 (by decide) ?_
            refine g_goto (tgt := 132) h dX11_part_89 (by decide) ?_
            refine g_istore_n (ls' := [(0, _), (1, _)]) h dX11_part_132 rfl (by decide) rfl rfl ?_
            refine g_iload_n h dX11_part_133 rfl rfl ?_
            refine g_iconst (v := -1) h dX11_part_134 (by decide) ?_
            refine g_icmp_ne (tgt := 148) h dX11_part_135 (by decide) (fun c135 => ?_) (fun c135 => ?_)
            · refine g_aload_n h dX11_part_148 rfl rfl ?_
              refine g_getR h fl_X11_29_10 sh_178 (by decide) rfl dX11_part_149 ?_
              refine g_iload_n h dX11_part_152 rfl rfl ?_
              refine g_iald h _ _ _ sh_184 (by decide) (by decide) rfl (by decide) dX11_part_153 ?_
              refine g_top (mr_o (by decide)) ?_
              exact g_iretP h hrt dX11_part_154 (by omega) (Or.inl ⟨-3, by rw [partW, if_neg hk2, if_neg n56, if_neg n69, if_pos n82], by decide, by rw [hF.1 2 (by decide)]; rfl, rfl⟩)
            · exact absurd c135 (by decide)
          · refine g_top (b2_f n82) ?_
            refine g_sto (mr_pv (congrArg nI (if_neg n82))) ?_
            refine g_if_eq (tgt := 92) h dX11_part_85 (by decide) (fun _ => ?_) (fun q => absurd q (by decide))
            refine g_aload_n h dX11_part_92 rfl rfl ?_
            refine g_ldcS (tx := "rooms") (k := 23) h (by decide) dX11_part_93 ?_
            refine g_V h lv_X11_119_X11 sh_178 (by decide) rfl (c_X11_hass B f L s s hss (-1) 23 (by decide) (by decide) u hf hL q0) (fitR hR (by first | decide | omega) (by decide) (by omega)) rfl rfl (Nat.le_of_ble_eq_true rfl) dX11_part_95 ?_
            by_cases n95 : wdB f L s 23 = true
            · refine g_top (b2_t n95) ?_
              refine g_sto (mr_pv (congrArg nI (if_pos n95))) ?_
              refine g_if_eq (tgt := 105) h dX11_part_98 (by decide) (fun q => absurd q (by decide)) (fun _ => ?_)
              refine g_iconst (v := nI 3) h dX11_part_101 (by decide) ?_
              refine g_goto (tgt := 132) h dX11_part_102 (by decide) ?_
              refine g_istore_n (ls' := [(0, _), (1, _)]) h dX11_part_132 rfl (by decide) rfl rfl ?_
              refine g_iload_n h dX11_part_133 rfl rfl ?_
              refine g_iconst (v := -1) h dX11_part_134 (by decide) ?_
              refine g_icmp_ne (tgt := 148) h dX11_part_135 (by decide) (fun c135 => ?_) (fun c135 => ?_)
              · refine g_aload_n h dX11_part_148 rfl rfl ?_
                refine g_getR h fl_X11_29_10 sh_178 (by decide) rfl dX11_part_149 ?_
                refine g_iload_n h dX11_part_152 rfl rfl ?_
                refine g_iald h _ _ _ sh_184 (by decide) (by decide) rfl (by decide) dX11_part_153 ?_
                refine g_top (mr_o (by decide)) ?_
                exact g_iretP h hrt dX11_part_154 (by omega) (Or.inl ⟨-4, by rw [partW, if_neg hk2, if_neg n56, if_neg n69, if_neg n82, if_pos n95], by decide, by rw [hF.1 3 (by decide)]; rfl, rfl⟩)
              · exact absurd c135 (by decide)
            · refine g_top (b2_f n95) ?_
              refine g_sto (mr_pv (congrArg nI (if_neg n95))) ?_
              refine g_if_eq (tgt := 105) h dX11_part_98 (by decide) (fun _ => ?_) (fun q => absurd q (by decide))
              refine g_aload_n h dX11_part_105 rfl rfl ?_
              refine g_ldcS (tx := "goods") (k := 6) h (by decide) dX11_part_106 ?_
              refine g_V h lv_X11_119_X11 sh_178 (by decide) rfl (c_X11_hass B f L s s hss (-1) 6 (by decide) (by decide) u hf hL q0) (fitR hR (by first | decide | omega) (by decide) (by omega)) rfl rfl (Nat.le_of_ble_eq_true rfl) dX11_part_108 ?_
              by_cases n108 : wdB f L s 6 = true
              · refine g_top (b2_t n108) ?_
                refine g_sto (mr_pv (congrArg nI (if_pos n108))) ?_
                refine g_if_eq (tgt := 118) h dX11_part_111 (by decide) (fun q => absurd q (by decide)) (fun _ => ?_)
                refine g_iconst (v := nI 4) h dX11_part_114 (by decide) ?_
                refine g_goto (tgt := 132) h dX11_part_115 (by decide) ?_
                refine g_istore_n (ls' := [(0, _), (1, _)]) h dX11_part_132 rfl (by decide) rfl rfl ?_
                refine g_iload_n h dX11_part_133 rfl rfl ?_
                refine g_iconst (v := -1) h dX11_part_134 (by decide) ?_
                refine g_icmp_ne (tgt := 148) h dX11_part_135 (by decide) (fun c135 => ?_) (fun c135 => ?_)
                · refine g_aload_n h dX11_part_148 rfl rfl ?_
                  refine g_getR h fl_X11_29_10 sh_178 (by decide) rfl dX11_part_149 ?_
                  refine g_iload_n h dX11_part_152 rfl rfl ?_
                  refine g_iald h _ _ _ sh_184 (by decide) (by decide) rfl (by decide) dX11_part_153 ?_
                  refine g_top (mr_o (by decide)) ?_
                  exact g_iretP h hrt dX11_part_154 (by omega) (Or.inl ⟨-5, by rw [partW, if_neg hk2, if_neg n56, if_neg n69, if_neg n82, if_neg n95, if_pos n108], by decide, by rw [hF.1 4 (by decide)]; rfl, rfl⟩)
                · exact absurd c135 (by decide)
              · refine g_top (b2_f n108) ?_
                refine g_sto (mr_pv (congrArg nI (if_neg n108))) ?_
                refine g_if_eq (tgt := 118) h dX11_part_111 (by decide) (fun _ => ?_) (fun q => absurd q (by decide))
                refine g_aload_n h dX11_part_118 rfl rfl ?_
                refine g_ldcS (tx := "week") (k := 24) h (by decide) dX11_part_119 ?_
                refine g_V h lv_X11_119_X11 sh_178 (by decide) rfl (c_X11_hass B f L s s hss (-1) 24 (by decide) (by decide) u hf hL q0) (fitR hR (by first | decide | omega) (by decide) (by omega)) rfl rfl (Nat.le_of_ble_eq_true rfl) dX11_part_121 ?_
                by_cases n121 : wdB f L s 24 = true
                · refine g_top (b2_t n121) ?_
                  refine g_sto (mr_pv (congrArg nI (if_pos n121))) ?_
                  refine g_if_eq (tgt := 131) h dX11_part_124 (by decide) (fun q => absurd q (by decide)) (fun _ => ?_)
                  refine g_iconst (v := nI 5) h dX11_part_127 (by decide) ?_
                  refine g_goto (tgt := 132) h dX11_part_128 (by decide) ?_
                  refine g_istore_n (ls' := [(0, _), (1, _)]) h dX11_part_132 rfl (by decide) rfl rfl ?_
                  refine g_iload_n h dX11_part_133 rfl rfl ?_
                  refine g_iconst (v := -1) h dX11_part_134 (by decide) ?_
                  refine g_icmp_ne (tgt := 148) h dX11_part_135 (by decide) (fun c135 => ?_) (fun c135 => ?_)
                  · refine g_aload_n h dX11_part_148 rfl rfl ?_
                    refine g_getR h fl_X11_29_10 sh_178 (by decide) rfl dX11_part_149 ?_
                    refine g_iload_n h dX11_part_152 rfl rfl ?_
                    refine g_iald h _ _ _ sh_184 (by decide) (by decide) rfl (by decide) dX11_part_153 ?_
                    refine g_top (mr_o (by decide)) ?_
                    exact g_iretP h hrt dX11_part_154 (by omega) (Or.inl ⟨-6, by rw [partW, if_neg hk2, if_neg n56, if_neg n69, if_neg n82, if_neg n95, if_neg n108, if_pos n121], by decide, by rw [hF.1 5 (by decide)]; rfl, rfl⟩)
                  · exact absurd c135 (by decide)
                · refine g_top (b2_f n121) ?_
                  refine g_sto (mr_pv (congrArg nI (if_neg n121))) ?_
                  refine g_if_eq (tgt := 131) h dX11_part_124 (by decide) (fun _ => ?_) (fun q => absurd q (by decide))
                  refine g_iconst (v := -1) h dX11_part_131 (by decide) ?_
                  refine g_istore_n (ls' := [(0, _), (1, _)]) h dX11_part_132 rfl (by decide) rfl rfl ?_
                  refine g_iload_n h dX11_part_133 rfl rfl ?_
                  refine g_iconst (v := -1) h dX11_part_134 (by decide) ?_
                  refine g_icmp_ne (tgt := 148) h dX11_part_135 (by decide) (fun c135 => ?_) (fun c135 => ?_)
                  · exact absurd rfl c135
                  · refine g_aload_n h dX11_part_138 rfl rfl ?_
                    refine g_aload_n h dX11_part_139 rfl rfl ?_
                    refine g_getI h fl_X11_97_10 sh_178 (by decide) rfl dX11_part_140 ?_
                    refine g_top mr_r11 ?_
                    refine g_V h lv_X11_123_X11 sh_178 (by decide) rfl (c_X11_wrong B f L s (-1) (nI s) u hf hL q0) (fitR hR (by first | decide | omega) (by decide) (by omega)) rfl rfl (Nat.le_of_ble_eq_true rfl) dX11_part_143 ?_
                    refine g_sto (mr_wv (if_pos rfl)) ?_
                    refine g_iconst (v := nI 0) h dX11_part_146 (by decide) ?_
                    exact g_iretP h hrt dX11_part_147 (by omega) (Or.inr ⟨by rw [partW, if_neg hk2, if_neg n56, if_neg n69, if_neg n82, if_neg n95, if_neg n108, if_neg n121], _, _, q0, rfl, rfl⟩)
    · have n22 := nle_n (by omega) (by omega) (show ¬ nI (L) ≤ nI (s) from c22)
      refine g_aload_n h dX11_part_25 rfl rfl ?_
      refine g_aload_n h dX11_part_26 rfl rfl ?_
      refine g_getI h fl_X11_97_10 sh_178 (by decide) rfl dX11_part_27 ?_
      refine g_top mr_r11 ?_
      refine g_V h lv_X11_103_X11 sh_178 (by decide) rfl (c_X11_letter B f L s (-1) s (by omega) u hf hL q0) (fitR hR (by first | decide | omega) (by decide) (by omega)) rfl rfl (Nat.le_of_ble_eq_true rfl) dX11_part_30 ?_
      refine g_bipush (v := nI 48) h dX11_part_33 (by decide) ?_
      refine g_bipush (v := nI 57) h dX11_part_35 (by decide) ?_
      refine g_S h ls_X11_72 (c_X11_isIn (f s) (nI 48) (nI 57) _) (fitR hR (by first | decide | omega) (by decide) (by omega)) rfl rfl (Nat.le_of_ble_eq_true rfl) dX11_part_37 ?_
      refine g_if_eq (tgt := 53) h dX11_part_40 (by decide) (fun c40 => ?_) (fun c40 => ?_)
      · have hk2 : ¬ kdN f L s = 2 := fun z => b2_0.mp c40 (kd2_i.mp z).2
        refine g_aload_n h dX11_part_53 rfl rfl ?_
        refine g_ldcS (tx := "day") (k := 20) h (by decide) dX11_part_54 ?_
        refine g_V h lv_X11_119_X11 sh_178 (by decide) rfl (c_X11_hass B f L s s hss (-1) 20 (by decide) (by decide) u hf hL q0) (fitR hR (by first | decide | omega) (by decide) (by omega)) rfl rfl (Nat.le_of_ble_eq_true rfl) dX11_part_56 ?_
        by_cases n56 : wdB f L s 20 = true
        · refine g_top (b2_t n56) ?_
          refine g_sto (mr_pv (congrArg nI (if_pos n56))) ?_
          refine g_if_eq (tgt := 66) h dX11_part_59 (by decide) (fun q => absurd q (by decide)) (fun _ => ?_)
          refine g_iconst (v := nI 0) h dX11_part_62 (by decide) ?_
          refine g_goto (tgt := 132) h dX11_part_63 (by decide) ?_
          refine g_istore_n (ls' := [(0, _), (1, _)]) h dX11_part_132 rfl (by decide) rfl rfl ?_
          refine g_iload_n h dX11_part_133 rfl rfl ?_
          refine g_iconst (v := -1) h dX11_part_134 (by decide) ?_
          refine g_icmp_ne (tgt := 148) h dX11_part_135 (by decide) (fun c135 => ?_) (fun c135 => ?_)
          · refine g_aload_n h dX11_part_148 rfl rfl ?_
            refine g_getR h fl_X11_29_10 sh_178 (by decide) rfl dX11_part_149 ?_
            refine g_iload_n h dX11_part_152 rfl rfl ?_
            refine g_iald h _ _ _ sh_184 (by decide) (by decide) rfl (by decide) dX11_part_153 ?_
            refine g_top (mr_o (by decide)) ?_
            exact g_iretP h hrt dX11_part_154 (by omega) (Or.inl ⟨-1, by rw [partW, if_neg hk2, if_pos n56], by decide, by rw [hF.1 0 (by decide)]; rfl, rfl⟩)
          · exact absurd c135 (by decide)
        · refine g_top (b2_f n56) ?_
          refine g_sto (mr_pv (congrArg nI (if_neg n56))) ?_
          refine g_if_eq (tgt := 66) h dX11_part_59 (by decide) (fun _ => ?_) (fun q => absurd q (by decide))
          refine g_aload_n h dX11_part_66 rfl rfl ?_
          refine g_ldcS (tx := "hour") (k := 21) h (by decide) dX11_part_67 ?_
          refine g_V h lv_X11_119_X11 sh_178 (by decide) rfl (c_X11_hass B f L s s hss (-1) 21 (by decide) (by decide) u hf hL q0) (fitR hR (by first | decide | omega) (by decide) (by omega)) rfl rfl (Nat.le_of_ble_eq_true rfl) dX11_part_69 ?_
          by_cases n69 : wdB f L s 21 = true
          · refine g_top (b2_t n69) ?_
            refine g_sto (mr_pv (congrArg nI (if_pos n69))) ?_
            refine g_if_eq (tgt := 79) h dX11_part_72 (by decide) (fun q => absurd q (by decide)) (fun _ => ?_)
            refine g_iconst (v := nI 1) h dX11_part_75 (by decide) ?_
            refine g_goto (tgt := 132) h dX11_part_76 (by decide) ?_
            refine g_istore_n (ls' := [(0, _), (1, _)]) h dX11_part_132 rfl (by decide) rfl rfl ?_
            refine g_iload_n h dX11_part_133 rfl rfl ?_
            refine g_iconst (v := -1) h dX11_part_134 (by decide) ?_
            refine g_icmp_ne (tgt := 148) h dX11_part_135 (by decide) (fun c135 => ?_) (fun c135 => ?_)
            · refine g_aload_n h dX11_part_148 rfl rfl ?_
              refine g_getR h fl_X11_29_10 sh_178 (by decide) rfl dX11_part_149 ?_
              refine g_iload_n h dX11_part_152 rfl rfl ?_
              refine g_iald h _ _ _ sh_184 (by decide) (by decide) rfl (by decide) dX11_part_153 ?_
              refine g_top (mr_o (by decide)) ?_
              exact g_iretP h hrt dX11_part_154 (by omega) (Or.inl ⟨-2, by rw [partW, if_neg hk2, if_neg n56, if_pos n69], by decide, by rw [hF.1 1 (by decide)]; rfl, rfl⟩)
            · exact absurd c135 (by decide)
          · refine g_top (b2_f n69) ?_
            refine g_sto (mr_pv (congrArg nI (if_neg n69))) ?_
            refine g_if_eq (tgt := 79) h dX11_part_72 (by decide) (fun _ => ?_) (fun q => absurd q (by decide))
            refine g_aload_n h dX11_part_79 rfl rfl ?_
            refine g_ldcS (tx := "coins") (k := 22) h (by decide) dX11_part_80 ?_
            refine g_V h lv_X11_119_X11 sh_178 (by decide) rfl (c_X11_hass B f L s s hss (-1) 22 (by decide) (by decide) u hf hL q0) (fitR hR (by first | decide | omega) (by decide) (by omega)) rfl rfl (Nat.le_of_ble_eq_true rfl) dX11_part_82 ?_
            by_cases n82 : wdB f L s 22 = true
            · refine g_top (b2_t n82) ?_
              refine g_sto (mr_pv (congrArg nI (if_pos n82))) ?_
              refine g_if_eq (tgt := 92) h dX11_part_85 (by decide) (fun q => absurd q (by decide)) (fun _ => ?_)
              refine g_iconst (v := nI 2) h dX11_part_88 (by decide) ?_
              refine g_goto (tgt := 132) h dX11_part_89 (by decide) ?_
              refine g_istore_n (ls' := [(0, _), (1, _)]) h dX11_part_132 rfl (by decide) rfl rfl ?_
              refine g_iload_n h dX11_part_133 rfl rfl ?_
              refine g_iconst (v := -1) h dX11_part_134 (by decide) ?_
              refine g_icmp_ne (tgt := 148) h dX11_part_135 (by decide) (fun c135 => ?_) (fun c135 => ?_)
              · refine g_aload_n h dX11_part_148 rfl rfl ?_
                refine g_getR h fl_X11_29_10 sh_178 (by decide) rfl dX11_part_149 ?_
                refine g_iload_n h dX11_part_152 rfl rfl ?_
                refine g_iald h _ _ _ sh_184 (by decide) (by decide) rfl (by decide) dX11_part_153 ?_
                refine g_top (mr_o (by decide)) ?_
                exact g_iretP h hrt dX11_part_154 (by omega) (Or.inl ⟨-3, by rw [partW, if_neg hk2, if_neg n56, if_neg n69, if_pos n82], by decide, by rw [hF.1 2 (by decide)]; rfl, rfl⟩)
              · exact absurd c135 (by decide)
            · refine g_top (b2_f n82) ?_
              refine g_sto (mr_pv (congrArg nI (if_neg n82))) ?_
              refine g_if_eq (tgt := 92) h dX11_part_85 (by decide) (fun _ => ?_) (fun q => absurd q (by decide))
              refine g_aload_n h dX11_part_92 rfl rfl ?_
              refine g_ldcS (tx := "rooms") (k := 23) h (by decide) dX11_part_93 ?_
              refine g_V h lv_X11_119_X11 sh_178 (by decide) rfl (c_X11_hass B f L s s hss (-1) 23 (by decide) (by decide) u hf hL q0) (fitR hR (by first | decide | omega) (by decide) (by omega)) rfl rfl (Nat.le_of_ble_eq_true rfl) dX11_part_95 ?_
              by_cases n95 : wdB f L s 23 = true
              · refine g_top (b2_t n95) ?_
                refine g_sto (mr_pv (congrArg nI (if_pos n95))) ?_
                refine g_if_eq (tgt := 105) h dX11_part_98 (by decide) (fun q => absurd q (by decide)) (fun _ => ?_)
                refine g_iconst (v := nI 3) h dX11_part_101 (by decide) ?_
                refine g_goto (tgt := 132) h dX11_part_102 (by decide) ?_
                refine g_istore_n (ls' := [(0, _), (1, _)]) h dX11_part_132 rfl (by decide) rfl rfl ?_
                refine g_iload_n h dX11_part_133 rfl rfl ?_
                refine g_iconst (v := -1) h dX11_part_134 (by decide) ?_
                refine g_icmp_ne (tgt := 148) h dX11_part_135 (by decide) (fun c135 => ?_) (fun c135 => ?_)
                · refine g_aload_n h dX11_part_148 rfl rfl ?_
                  refine g_getR h fl_X11_29_10 sh_178 (by decide) rfl dX11_part_149 ?_
                  refine g_iload_n h dX11_part_152 rfl rfl ?_
                  refine g_iald h _ _ _ sh_184 (by decide) (by decide) rfl (by decide) dX11_part_153 ?_
                  refine g_top (mr_o (by decide)) ?_
                  exact g_iretP h hrt dX11_part_154 (by omega) (Or.inl ⟨-4, by rw [partW, if_neg hk2, if_neg n56, if_neg n69, if_neg n82, if_pos n95], by decide, by rw [hF.1 3 (by decide)]; rfl, rfl⟩)
                · exact absurd c135 (by decide)
              · refine g_top (b2_f n95) ?_
                refine g_sto (mr_pv (congrArg nI (if_neg n95))) ?_
                refine g_if_eq (tgt := 105) h dX11_part_98 (by decide) (fun _ => ?_) (fun q => absurd q (by decide))
                refine g_aload_n h dX11_part_105 rfl rfl ?_
                refine g_ldcS (tx := "goods") (k := 6) h (by decide) dX11_part_106 ?_
                refine g_V h lv_X11_119_X11 sh_178 (by decide) rfl (c_X11_hass B f L s s hss (-1) 6 (by decide) (by decide) u hf hL q0) (fitR hR (by first | decide | omega) (by decide) (by omega)) rfl rfl (Nat.le_of_ble_eq_true rfl) dX11_part_108 ?_
                by_cases n108 : wdB f L s 6 = true
                · refine g_top (b2_t n108) ?_
                  refine g_sto (mr_pv (congrArg nI (if_pos n108))) ?_
                  refine g_if_eq (tgt := 118) h dX11_part_111 (by decide) (fun q => absurd q (by decide)) (fun _ => ?_)
                  refine g_iconst (v := nI 4) h dX11_part_114 (by decide) ?_
                  refine g_goto (tgt := 132) h dX11_part_115 (by decide) ?_
                  refine g_istore_n (ls' := [(0, _), (1, _)]) h dX11_part_132 rfl (by decide) rfl rfl ?_
                  refine g_iload_n h dX11_part_133 rfl rfl ?_
                  refine g_iconst (v := -1) h dX11_part_134 (by decide) ?_
                  refine g_icmp_ne (tgt := 148) h dX11_part_135 (by decide) (fun c135 => ?_) (fun c135 => ?_)
                  · refine g_aload_n h dX11_part_148 rfl rfl ?_
                    refine g_getR h fl_X11_29_10 sh_178 (by decide) rfl dX11_part_149 ?_
                    refine g_iload_n h dX11_part_152 rfl rfl ?_
                    refine g_iald h _ _ _ sh_184 (by decide) (by decide) rfl (by decide) dX11_part_153 ?_
                    refine g_top (mr_o (by decide)) ?_
                    exact g_iretP h hrt dX11_part_154 (by omega) (Or.inl ⟨-5, by rw [partW, if_neg hk2, if_neg n56, if_neg n69, if_neg n82, if_neg n95, if_pos n108], by decide, by rw [hF.1 4 (by decide)]; rfl, rfl⟩)
                  · exact absurd c135 (by decide)
                · refine g_top (b2_f n108) ?_
                  refine g_sto (mr_pv (congrArg nI (if_neg n108))) ?_
                  refine g_if_eq (tgt := 118) h dX11_part_111 (by decide) (fun _ => ?_) (fun q => absurd q (by decide))
                  refine g_aload_n h dX11_part_118 rfl rfl ?_
                  refine g_ldcS (tx := "week") (k := 24) h (by decide) dX11_part_119 ?_
                  refine g_V h lv_X11_119_X11 sh_178 (by decide) rfl (c_X11_hass B f L s s hss (-1) 24 (by decide) (by decide) u hf hL q0) (fitR hR (by first | decide | omega) (by decide) (by omega)) rfl rfl (Nat.le_of_ble_eq_true rfl) dX11_part_121 ?_
                  by_cases n121 : wdB f L s 24 = true
                  · refine g_top (b2_t n121) ?_
                    refine g_sto (mr_pv (congrArg nI (if_pos n121))) ?_
                    refine g_if_eq (tgt := 131) h dX11_part_124 (by decide) (fun q => absurd q (by decide)) (fun _ => ?_)
                    refine g_iconst (v := nI 5) h dX11_part_127 (by decide) ?_
                    refine g_goto (tgt := 132) h dX11_part_128 (by decide) ?_
                    refine g_istore_n (ls' := [(0, _), (1, _)]) h dX11_part_132 rfl (by decide) rfl rfl ?_
                    refine g_iload_n h dX11_part_133 rfl rfl ?_
                    refine g_iconst (v := -1) h dX11_part_134 (by decide) ?_
                    refine g_icmp_ne (tgt := 148) h dX11_part_135 (by decide) (fun c135 => ?_) (fun c135 => ?_)
                    · refine g_aload_n h dX11_part_148 rfl rfl ?_
                      refine g_getR h fl_X11_29_10 sh_178 (by decide) rfl dX11_part_149 ?_
                      refine g_iload_n h dX11_part_152 rfl rfl ?_
                      refine g_iald h _ _ _ sh_184 (by decide) (by decide) rfl (by decide) dX11_part_153 ?_
                      refine g_top (mr_o (by decide)) ?_
                      exact g_iretP h hrt dX11_part_154 (by omega) (Or.inl ⟨-6, by rw [partW, if_neg hk2, if_neg n56, if_neg n69, if_neg n82, if_neg n95, if_neg n108, if_pos n121], by decide, by rw [hF.1 5 (by decide)]; rfl, rfl⟩)
                    · exact absurd c135 (by decide)
                  · refine g_top (b2_f n121) ?_
                    refine g_sto (mr_pv (congrArg nI (if_neg n121))) ?_
                    refine g_if_eq (tgt := 131) h dX11_part_124 (by decide) (fun _ => ?_) (fun q => absurd q (by decide))
                    refine g_iconst (v := -1) h dX11_part_131 (by decide) ?_
                    refine g_istore_n (ls' := [(0, _), (1, _)]) h dX11_part_132 rfl (by decide) rfl rfl ?_
                    refine g_iload_n h dX11_part_133 rfl rfl ?_
                    refine g_iconst (v := -1) h dX11_part_134 (by decide) ?_
                    refine g_icmp_ne (tgt := 148) h dX11_part_135 (by decide) (fun c135 => ?_) (fun c135 => ?_)
                    · exact absurd rfl c135
                    · refine g_aload_n h dX11_part_138 rfl rfl ?_
                      refine g_aload_n h dX11_part_139 rfl rfl ?_
                      refine g_getI h fl_X11_97_10 sh_178 (by decide) rfl dX11_part_140 ?_
                      refine g_top mr_r11 ?_
                      refine g_V h lv_X11_123_X11 sh_178 (by decide) rfl (c_X11_wrong B f L s (-1) (nI s) u hf hL q0) (fitR hR (by first | decide | omega) (by decide) (by omega)) rfl rfl (Nat.le_of_ble_eq_true rfl) dX11_part_143 ?_
                      refine g_sto (mr_wv (if_pos rfl)) ?_
                      refine g_iconst (v := nI 0) h dX11_part_146 (by decide) ?_
                      exact g_iretP h hrt dX11_part_147 (by omega) (Or.inr ⟨by rw [partW, if_neg hk2, if_neg n56, if_neg n69, if_neg n82, if_neg n95, if_neg n108, if_neg n121], _, _, q0, rfl, rfl⟩)
      · have hk2 : kdN f L s = 2 := kd2_i.mpr ⟨n22, b2_n0.mp c40⟩
        refine g_aload_n h dX11_part_43 rfl rfl ?_
        refine g_iconst (v := nI 0) h dX11_part_44 (by decide) ?_
        refine g_sipush (v := nI 999) h dX11_part_45 (by decide) ?_
        refine g_iconst (v := nI 3) h dX11_part_48 (by decide) ?_
        refine g_VP h lv_X11_130_X11 sh_178 (by decide) rfl (c_X11_figs B f L s s hss 3 (by decide) (nI 0) (nI 999) u hf hL q0) (by rintro Ex s (⟨_, h, _⟩ | ⟨_, _, _, _, h, _⟩) <;> exact nomatch h) (fitR hR (by first | decide | omega) (by decide) (by omega)) rfl rfl (Nat.le_of_ble_eq_true rfl) dX11_part_49 (fun v49 u49 hs49 => ?_)
        rcases hs49 with ⟨n49, hv49, rfl⟩ | ⟨n49, x49, q9, hq9, hv49, rfl⟩
        · cases hv49
          exact g_iretP h hrt dX11_part_52 (by omega) (Or.inl ⟨_, by rw [partW, if_pos hk2, if_pos n49], part_8 n49, by rw [part_v n49], rfl⟩)
        · cases hv49
          exact g_iretP h hrt dX11_part_52 (by omega) (Or.inr ⟨by rw [partW, if_pos hk2, if_neg n49], _, _, hq9, rfl, rfl⟩)
  · exact absurd rfl c5
set_option maxHeartbeats 1000000 in
theorem c_X11_part_x {E : EE} (B : Int32) (f : Nat → Int32) (L p : Nat) (w : Int32) (hw9 : ¬ w = -1) (u : Sto) (hf : LF u B f) (hL : L ≤ 400) (hp : p ≤ L) : Ct E 6 0 yX11_part cX11_part 2 (some .int) [.ref (E.ad 178)] (MR u B L p w) (.inl (some (.int (nI 0)))) ((MR u B L p w)) := by
  refine ct_of (by decide) (Nat.le_of_ble_eq_true rfl) (fun X h hR hrt htab hargs hini => ?_)
  refine g_aload_n h dX11_part_0 rfl rfl ?_
  refine g_getI h fl_X11_25_10 sh_178 (by decide) rfl dX11_part_1 ?_
  refine g_top mr_r12 ?_
  refine g_iconst (v := -1) h dX11_part_4 (by decide) ?_
  refine g_icmp_eq (tgt := 10) h dX11_part_5 (by decide) (fun c5 => ?_) (fun c5 => ?_)
  · exact absurd c5 hw9
  · refine g_iconst (v := nI 0) h dX11_part_8 (by decide) ?_
    exact g_iret h hrt dX11_part_9 (by omega) (by rfl) rfl
