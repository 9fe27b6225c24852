-- after: 9c.og
/-! the log's entries -/
theorem bt_nI {n k : Nat} (h : k < 32) : btB (nI n) k = n.testBit k := by
  show (BitVec.ofNat 32 n).getLsbD k = _
  rw [BitVec.getLsbD_ofNat]
  simp [h]
theorem bt_shl {x : Int32} {s k : Nat} (hs : s < 32) (hk : k < 32) : btB (x <<< (nI s &&& 31)) k = (decide (s ≤ k) && btB x (k - s)) := by
  have e1 : (x <<< (nI s &&& 31)).toBitVec = x.toBitVec <<< ((nI s &&& 31).toBitVec.smod 32#32) := rfl
  have e2 : (nI s &&& 31).toBitVec = BitVec.ofNat 32 s := by
    show BitVec.ofNat 32 s &&& 31#32 = _
    apply BitVec.eq_of_toNat_eq
    rw [BitVec.toNat_and, BitVec.toNat_ofNat, BitVec.toNat_ofNat, Nat.mod_eq_of_lt (by omega : s < 2 ^ 32), show (31 % 2 ^ 32 : Nat) = 2 ^ 5 - 1 from rfl, Nat.and_two_pow_sub_one_eq_mod]
    omega
  have e3 : ((BitVec.ofNat 32 s).smod 32#32).toNat = s := by
    have hm : (BitVec.ofNat 32 s).msb = false := by
      rw [BitVec.msb_eq_false_iff_two_mul_lt, BitVec.toNat_ofNat]; omega
    rw [BitVec.smod_eq, hm]
    show ((BitVec.ofNat 32 s) % 32#32).toNat = s
    rw [BitVec.toNat_umod, BitVec.toNat_ofNat, BitVec.toNat_ofNat, Nat.mod_eq_of_lt (by omega : s < 2 ^ 32)]; exact Nat.mod_eq_of_lt hs
  unfold btB
  rw [e1, e2, BitVec.shiftLeft_eq', e3, BitVec.getLsbD_shiftLeft]
  by_cases c : s ≤ k
  · simp [hk, c]
  · simp [c]
theorem bt_ushr {x : Int32} {s k : Nat} (hs : s < 32) : btB ((x.toUInt32 >>> ((nI s).toUInt32 &&& Int32.toUInt32 31)).toInt32) k = btB x (s + k) := by
  have e3 : (((nI s).toUInt32 &&& Int32.toUInt32 31).toBitVec % 32#32).toNat = s := by
    rw [BitVec.toNat_umod]; exact sh_nat hs
  have e4 : (((nI s).toUInt32 &&& Int32.toUInt32 31).toBitVec % 32) = (((nI s).toUInt32 &&& Int32.toUInt32 31).toBitVec % 32#32) := rfl
  show ((x.toUInt32 >>> ((nI s).toUInt32 &&& Int32.toUInt32 31)).toBitVec).getLsbD k = _
  rw [UInt32.toBitVec_shiftRight, e4, BitVec.ushiftRight_eq', e3, BitVec.getLsbD_ushiftRight]
  rfl
theorem tb_f {n k i : Nat} (h : n < 2 ^ k) (hk : k ≤ i) : n.testBit i = false := Nat.testBit_lt_two_pow (Nat.lt_of_lt_of_le h (Nat.pow_le_pow_right (by omega) hk))
theorem lg_bt {w r a h k : Nat} (hr : r < 256) (ha : a < 16) (hh : h < 8) (hk : k < 32) : btB (lgE (nI w) (nI r) (nI a) (nI h)) k = ((((decide (15 ≤ k) && w.testBit (k - 15)) || (decide (7 ≤ k) && r.testBit (k - 7))) || (decide (3 ≤ k) && a.testBit (k - 3))) || h.testBit k) := by
  unfold lgE
  rw [bt_or, bt_or, bt_or, bt_shl (by omega) hk, bt_shl (by omega) hk, bt_shl (by omega) hk, bt_nI (by omega), bt_nI (by omega), bt_nI (by omega), bt_nI hk]
theorem lg_wk {w r a h : Nat} (hw : w < 2 ^ 17) (hr : r < 256) (ha : a < 16) (hh : h < 8) : lg_weekOf (lgE (nI w) (nI r) (nI a) (nI h)) = nI w := by
  refine bt_ext (fun k hk => ?_)
  unfold lg_weekOf
  rw [bt_ushr (by omega), bt_nI hk]
  by_cases c : 15 + k < 32
  · rw [lg_bt hr ha hh c, tb_f (k := 8) hr (by omega : 8 ≤ 15 + k - 7), tb_f (k := 4) ha (by omega : 4 ≤ 15 + k - 3), tb_f (k := 3) hh (by omega : 3 ≤ 15 + k), show 15 + k - 15 = k by omega]
    simp
  · rw [bt_hi (by omega), tb_f hw (by omega)]
theorem lg_rm {w r a h : Nat} (hr : r < 256) (ha : a < 16) (hh : h < 8) : lg_roomIn (lgE (nI w) (nI r) (nI a) (nI h)) = nI r := by
  refine bt_ext (fun k hk => ?_)
  unfold lg_roomIn
  rw [bt_and, bt_ushr (by omega), bt_nI hk, bt_nI hk, show (255 : Nat) = 2 ^ 8 - 1 from rfl, Nat.testBit_two_pow_sub_one]
  by_cases c : k < 8
  · rw [lg_bt hr ha hh (by omega), tb_f (k := 4) ha (by omega : 4 ≤ 7 + k - 3), tb_f (k := 3) hh (by omega : 3 ≤ 7 + k), show 7 + k - 7 = k by omega, decide_eq_false (show ¬ 15 ≤ 7 + k by omega)]
    simp [c]
  · rw [tb_f (k := 8) hr (by omega : 8 ≤ k)]
    simp [c]
theorem lg_wh {w r a h : Nat} (hr : r < 256) (ha : a < 16) (hh : h < 8) : lg_whoOf (lgE (nI w) (nI r) (nI a) (nI h)) = nI a := by
  refine bt_ext (fun k hk => ?_)
  unfold lg_whoOf
  rw [bt_and, bt_ushr (by omega), bt_nI hk, bt_nI hk, show (15 : Nat) = 2 ^ 4 - 1 from rfl, Nat.testBit_two_pow_sub_one]
  by_cases c : k < 4
  · rw [lg_bt hr ha hh (by omega), tb_f (k := 3) hh (by omega : 3 ≤ 3 + k), show 3 + k - 3 = k by omega, decide_eq_false (show ¬ 15 ≤ 3 + k by omega), decide_eq_false (show ¬ 7 ≤ 3 + k by omega)]
    simp [c]
  · rw [tb_f (k := 4) ha (by omega : 4 ≤ k)]
    simp [c]
theorem lg_hw {w r a h : Nat} (hr : r < 256) (ha : a < 16) (hh : h < 8) : lg_howOf (lgE (nI w) (nI r) (nI a) (nI h)) = nI h := by
  refine bt_ext (fun k hk => ?_)
  unfold lg_howOf
  rw [bt_and, bt_nI hk, bt_nI hk, show (7 : Nat) = 2 ^ 3 - 1 from rfl, Nat.testBit_two_pow_sub_one]
  by_cases c : k < 3
  · rw [lg_bt hr ha hh (by omega), decide_eq_false (show ¬ 15 ≤ k by omega), decide_eq_false (show ¬ 7 ≤ k by omega), decide_eq_false (show ¬ 3 ≤ k by omega)]
    simp [c]
  · rw [tb_f (k := 3) hh (by omega : 3 ≤ k)]
    simp [c]
theorem wr_n {g : Nat → Int32} {r w h : Int32} {j : Nat} (hj : j < 760 ∨ 1080 ≤ j) (h10 : j ≠ 10) : wrF g r w h j = g j := by
  unfold wrF
  rw [pk_un h10, pk_un (by omega), pk_un (by omega), pk_un (by omega), pk_un (by omega)]
  unfold shF
  rw [if_neg (by omega)]
theorem wr_0 {g : Nat → Int32} {r w h : Int32} : wrF g r w h 760 = g 4 ∧ wrF g r w h 761 = r ∧ wrF g r w h 762 = w ∧ wrF g r w h 763 = h := by
  refine ⟨?_, ?_, ?_, ?_⟩ <;> unfold wrF
  · rw [pk_un (by omega), pk_un (by omega), pk_un (by omega), pk_un (by omega), pk_us]
  · rw [pk_un (by omega), pk_un (by omega), pk_un (by omega), pk_us]
  · rw [pk_un (by omega), pk_un (by omega), pk_us]
  · rw [pk_un (by omega), pk_us]
theorem wr_s {g : Nat → Int32} {r w h : Int32} {j : Nat} (hj : 764 ≤ j ∧ j < 1080) : wrF g r w h j = g (j - 4) := by
  unfold wrF
  rw [pk_un (by omega), pk_un (by omega), pk_un (by omega), pk_un (by omega), pk_un (by omega)]
  unfold shF
  rw [if_pos (by omega)]
theorem mn_80 {lc : Nat} (h : lc ≤ 80) : mnI (nI lc + nI 1) (nI 80) = nI (min (lc + 1) 80) ∧ mnI (nI 80) (nI lc + nI 1) = nI (min (lc + 1) 80) := by
  rw [nI_add]
  unfold mnI
  by_cases c : lc = 80
  · subst c
    exact ⟨by decide, by decide⟩
  · have h1 : ¬ nI 80 < nI (lc + 1) := fun q => absurd (lt_n (by omega) (by omega) q) (by omega)
    rw [if_neg h1, show min (lc + 1) 80 = lc + 1 by omega]
    refine ⟨rfl, ?_⟩
    by_cases z : nI (lc + 1) < nI 80
    · rw [if_pos z]
    · rw [if_neg z]
      have := nlt_n (by omega) (by omega) z
      rw [show lc + 1 = 80 by omega]
theorem J_en {v : Sto} {g : Nat → Int32} {T W r a h wk : Nat} (hJ : J v g T W) (hw : v 3 9 = nI wk) (hwk : wk < 2 ^ 17) (hr : r < 168) (ha : a < T) (hh : h < 8) : J (enT v 3 (nI r) (nI a) (nI h)) (wrF g (nI r) (nI a) (nI h)) T W := by
  have hT := hJ.r.hT
  obtain ⟨ln, hln, eln⟩ := hJ.ti.ln
  obtain ⟨lc, hlc, elc⟩ := hJ.ti.lc
  have hE : enT v 3 (nI r) (nI a) (nI h) = su (su (su v 9 ln (lgE (nI wk) (nI r) (nI a) (nI h))) 3 6 (nI ((ln + 1) % 80))) 3 7 (nI (min (lc + 1) 80)) := by
    unfold enT
    show su (su (su v 9 (ix (v 3 6)) (lgE (v 3 9) (nI r) (nI a) (nI h))) 3 6 (nI ((ix (v 3 6) + 1) % 80))) 3 7 (mnI (v 3 7 + nI 1) (nI 80)) = _
    rw [eln, ix_nI (by omega), hw, elc, (mn_80 hlc).1]
  rw [hE]
  have cx : ∀ k, k ≠ 3 → k ≠ 9 → su (su (su v 9 ln (lgE (nI wk) (nI r) (nI a) (nI h))) 3 6 (nI ((ln + 1) % 80))) 3 7 (nI (min (lc + 1) 80)) k = v k := fun k h1 h2 => by rw [su_cell _ _ h1, su_cell _ _ h1, su_cell _ _ h2]
  have c3 : ∀ j, j ≠ 6 → j ≠ 7 → su (su (su v 9 ln (lgE (nI wk) (nI r) (nI a) (nI h))) 3 6 (nI ((ln + 1) % 80))) 3 7 (nI (min (lc + 1) 80)) 3 j = v 3 j := fun j h1 h2 => by rw [su_i h2, su_i h1, su_cell _ _ (by decide)]
  have c6 : su (su (su v 9 ln (lgE (nI wk) (nI r) (nI a) (nI h))) 3 6 (nI ((ln + 1) % 80))) 3 7 (nI (min (lc + 1) 80)) 3 6 = nI ((ln + 1) % 80) := by rw [su_i (by decide), su_k]
  have c7 : su (su (su v 9 ln (lgE (nI wk) (nI r) (nI a) (nI h))) 3 6 (nI ((ln + 1) % 80))) 3 7 (nI (min (lc + 1) 80)) 3 7 = nI (min (lc + 1) 80) := su_k
  have c9 : su (su (su v 9 ln (lgE (nI wk) (nI r) (nI a) (nI h))) 3 6 (nI ((ln + 1) % 80))) 3 7 (nI (min (lc + 1) 80)) 9 = upd (v 9) ln (lgE (nI wk) (nI r) (nI a) (nI h)) := by rw [su_cell _ _ (by decide), su_cell _ _ (by decide), su_at]
  generalize su (su (su v 9 ln (lgE (nI wk) (nI r) (nI a) (nI h))) 3 6 (nI ((ln + 1) % 80))) 3 7 (nI (min (lc + 1) 80)) = v' at *
  have wn : ∀ j, j < 760 → j ≠ 10 → wrF g (nI r) (nI a) (nI h) j = g j := fun j h1 h2 => wr_n (Or.inl h1) h2
  refine J_mk hJ (fun k h1 h2 => cx k (by omega) (by omega)) (fun j hj => ?_) ⟨fun m hm => ?_, fun m hm => ?_, fun m hm => ?_, fun b hb => ?_, ?_, ?_, ?_, ?_, ?_⟩ ⟨fun m hm => ?_, fun m hm => ?_, fun b hb => ?_, ⟨_, Nat.mod_lt _ (by omega), c6⟩, ⟨_, by omega, c7⟩, ?_, fun b h1 h2 => ?_⟩ ?_
  · by_cases q : j = 10
    · subst q; exact absurd hj (by decide)
    · by_cases q2 : 760 ≤ j ∧ j < 1080
      · exact absurd hj (by rw [Bool.not_eq_false]; exact decide_eq_true (by omega))
      · exact wr_n (by omega) q
  · rw [wn _ (by omega) (by omega)]; show _ = v' 4 m; rw [cx 4 (by decide) (by decide)]; exact hJ.t.own m hm
  · rw [wn _ (by omega) (by omega)]; show _ = if v' 5 m = -1 then v' 4 m else v' 5 m; rw [cx 4 (by decide) (by decide), cx 5 (by decide) (by decide)]; exact hJ.t.liv m hm
  · rw [wn _ (by omega) (by omega)]; show _ = v' 6 m; rw [cx 6 (by decide) (by decide)]; exact hJ.t.gds m hm
  · rw [wn _ (by omega) (by omega)]; show _ = v' 7 b; rw [cx 7 (by decide) (by decide)]; exact hJ.t.con b hb
  · rw [wn _ (by omega) (by omega), c3 _ (by decide) (by decide)]; exact hJ.t.wk
  · rw [wn _ (by omega) (by omega), c3 _ (by decide) (by decide)]; exact hJ.t.nw
  · rw [wn _ (by omega) (by omega), c3 _ (by decide) (by decide)]; exact hJ.t.tl
  · rw [wn _ (by omega) (by omega), c3 _ (by decide) (by decide)]; exact hJ.t.sd
  · rw [c7]
    unfold wrF
    rw [pk_us, show g 10 = nI lc from hJ.t.lgs.trans elc, (mn_80 hlc).2]
  · show v' 4 m = -1 ∨ ∃ a, a < T ∧ v' 4 m = nI a ∧ v' 13 a = -1
    rw [cx 4 (by decide) (by decide), cx 13 (by decide) (by decide)]; exact hJ.ti.own m hm
  · show v' 5 m = -1 ∨ (¬ v' 4 m = -1 ∧ ¬ v' 5 m = v' 4 m ∧ ∃ a, a < T ∧ v' 5 m = nI a ∧ v' 13 a = -1)
    rw [cx 4 (by decide) (by decide), cx 5 (by decide) (by decide), cx 13 (by decide) (by decide)]; exact hJ.ti.sub m hm
  · show v' 8 b = ctI (fun m => decide (v' 4 m = nI b)) 168
    rw [cx 4 (by decide) (by decide), cx 8 (by decide) (by decide)]; exact hJ.ti.cnt b hb
  · rw [c3 _ (by decide) (by decide)]; exact hJ.ti.now
  · show v' 7 b = 0
    rw [cx 7 (by decide) (by decide)]; exact hJ.ti.zer b h1 h2
  · intro k hk
    rw [c7, ix_nI (by omega)] at hk
    show _ = lg_weekOf (v' 9 _) ∧ _ = lg_roomIn (v' 9 _) ∧ _ = lg_whoOf (v' 9 _) ∧ _ = lg_howOf (v' 9 _)
    rw [c6, ix_nI (by omega), c9]
    by_cases z : k = 0
    · subst z
      rw [show ((ln + 1) % 80 + 79 - 0) % 80 = ln by omega, pk_us, lg_wk hwk (by omega) (by omega) hh, lg_rm (by omega) (by omega) hh, lg_wh (by omega) (by omega) hh, lg_hw (by omega) (by omega) hh]
      have := wr_0 (g := g) (r := nI r) (w := nI a) (h := nI h)
      exact ⟨this.1.trans (hJ.t.wk.trans hw), this.2.1, this.2.2.1, this.2.2.2⟩
    · have hb := hJ.lg (k - 1) (by rw [elc, ix_nI (by omega)]; omega)
      rw [eln, ix_nI (by omega)] at hb
      have hb : _ = lg_weekOf (v 9 _) ∧ _ = lg_roomIn (v 9 _) ∧ _ = lg_whoOf (v 9 _) ∧ _ = lg_howOf (v 9 _) := hb
      rw [show ((ln + 1) % 80 + 79 - k) % 80 = (ln + 79 - (k - 1)) % 80 by omega, pk_un (by omega), wr_s (by omega), wr_s (by omega), wr_s (by omega), wr_s (by omega), show 760 + 4 * k - 4 = 760 + 4 * (k - 1) by omega, show 761 + 4 * k - 4 = 761 + 4 * (k - 1) by omega, show 762 + 4 * k - 4 = 762 + 4 * (k - 1) by omega, show 763 + 4 * k - 4 = 763 + 4 * (k - 1) by omega]
      exact hb
theorem J_v {v v' : Sto} {g : Nat → Int32} {T W : Nat} (h : J v g T W) (hc : ∀ k, 3 ≤ k → k ≤ 23 → v' k = v k) : J v' g T W := by
  have c3 := hc 3 (by omega) (by omega)
  have c4 := hc 4 (by omega) (by omega)
  have c5 := hc 5 (by omega) (by omega)
  have c6 := hc 6 (by omega) (by omega)
  have c7 := hc 7 (by omega) (by omega)
  have c8 := hc 8 (by omega) (by omega)
  have c9 := hc 9 (by omega) (by omega)
  have c13 := hc 13 (by omega) (by omega)
  refine J_mk h (fun k h1 h2 => hc k (by omega) h2) (fun j _ => rfl) ⟨fun m hm => ?_, fun m hm => ?_, fun m hm => ?_, fun b hb => ?_, ?_, ?_, ?_, ?_, ?_⟩ ⟨fun m hm => ?_, fun m hm => ?_, fun b hb => ?_, ?_, ?_, ?_, fun b h1 h2 => ?_⟩ ?_
  · show _ = v' 4 m; rw [c4]; exact h.t.own m hm
  · show _ = if v' 5 m = -1 then v' 4 m else v' 5 m; rw [c4, c5]; exact h.t.liv m hm
  · show _ = v' 6 m; rw [c6]; exact h.t.gds m hm
  · show _ = v' 7 b; rw [c7]; exact h.t.con b hb
  · rw [c3]; exact h.t.wk
  · rw [c3]; exact h.t.nw
  · rw [c3]; exact h.t.tl
  · rw [c3]; exact h.t.sd
  · rw [c3]; exact h.t.lgs
  · show v' 4 m = -1 ∨ ∃ a, a < T ∧ v' 4 m = nI a ∧ v' 13 a = -1
    rw [c4, c13]; exact h.ti.own m hm
  · show v' 5 m = -1 ∨ (¬ v' 4 m = -1 ∧ ¬ v' 5 m = v' 4 m ∧ ∃ a, a < T ∧ v' 5 m = nI a ∧ v' 13 a = -1)
    rw [c4, c5, c13]; exact h.ti.sub m hm
  · show v' 8 b = ctI (fun m => decide (v' 4 m = nI b)) 168
    rw [c4, c8]; exact h.ti.cnt b hb
  · rw [c3]; exact h.ti.ln
  · rw [c3]; exact h.ti.lc
  · rw [c3]; exact h.ti.now
  · show v' 7 b = 0; rw [c7]; exact h.ti.zer b h1 h2
  · exact LG_c h.lg (by rw [c3]) (by rw [c3]) c9 (lc_80 h.ti) (fun j _ _ => rfl)
