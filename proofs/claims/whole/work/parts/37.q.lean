def bitJ (x y : Int32) : Int32 := (x.toUInt32 >>> (y.toUInt32 &&& Int32.toUInt32 31)).toInt32 &&& nI 1
def oneJ (y : Int32) : Int32 := nI 1 <<< (y &&& 31)
def sbsF (p : Nat → Bool) (z : Int32) : Nat → Nat → Int32 → Int32
  | 0, _, t => if z = 0 then t else -1
  | j + 1, r, t => if p r = true then (if z = 0 then sbsF p z j (r + 1) (t + Int32.ofInt 1) else nI r) else sbsF p z j (r + 1) t
theorem sbs_s {p : Nat → Bool} {z t : Int32} {n k : Nat} (h : k < n) : sbsF p z (n - k) k t = if p k = true then (if z = 0 then sbsF p z (n - (k + 1)) (k + 1) (t + Int32.ofInt 1) else nI k) else sbsF p z (n - (k + 1)) (k + 1) t := by
  rw [show n - k = (n - (k + 1)) + 1 by omega]; rfl
theorem sbs_e {p : Nat → Bool} {z t : Int32} {n : Nat} : sbsF p z (n - n) n t = if z = 0 then t else -1 := by rw [Nat.sub_self]; rfl
def lrS (p : Nat → Bool) : Nat → Nat × Int32 × Nat
  | 0 => (0, -1, 0)
  | i + 1 =>
    let l := if p (i % 168) = true then (lrS p i).2.2 + 1 else 0
    if (lrS p i).1 < l ∧ l ≤ 168 then (l, nI (i + 1 - l), l) else ((lrS p i).1, (lrS p i).2.1, l)
theorem lr_s {p : Nat → Bool} {i mo le l : Nat} {wh : Int32} (h : lrS p i = (mo, wh, le)) (hl : (if p (i % 168) = true then le + 1 else 0) = l) : lrS p (i + 1) = if mo < l ∧ l ≤ 168 then (l, nI (i + 1 - l), l) else (mo, wh, l) := by
  rw [lrS, h]
  show (if mo < (if p (i % 168) = true then le + 1 else 0) ∧ (if p (i % 168) = true then le + 1 else 0) ≤ 168 then _ else _) = _
  rw [hl]
def frs (p : Nat → Bool) (v : Nat → Int32) : Nat → Nat → Int32
  | 0, _ => -1
  | j + 1, k => if p k = true then v k else frs p v j (k + 1)
theorem frs_s {p : Nat → Bool} {v : Nat → Int32} {n k : Nat} (h : k < n) : frs p v (n - k) k = if p k = true then v k else frs p v (n - (k + 1)) (k + 1) := by
  rw [show n - k = (n - (k + 1)) + 1 by omega]; rfl
theorem frs_e {p : Nat → Bool} {v : Nat → Int32} {n : Nat} : frs p v (n - n) n = -1 := by rw [Nat.sub_self]; rfl
theorem aft_rk {nw k : Nat} : aft ((nw + k) % 168) = (nw + (k + 1)) % 168 := by unfold aft; split <;> omega
def dfF (lv : Nat → Int32) : Nat → Nat → Int32 → Nat → Int32
  | 0, _, _, _ => nI 10
  | j + 1, l, left, rm => if lv rm = -1 ∨ bitJ left (lv rm) = 0 then nI l else dfF lv j (l + 1) (left &&& (oneJ (lv rm) ^^^ -1)) (aft rm)
theorem df_s {lv : Nat → Int32} {left : Int32} {n k rm : Nat} (h : k < n) : dfF lv (n - k) k left rm = if lv rm = -1 ∨ bitJ left (lv rm) = 0 then nI k else dfF lv (n - (k + 1)) (k + 1) (left &&& (oneJ (lv rm) ^^^ -1)) (aft rm) := by
  rw [show n - k = (n - (k + 1)) + 1 by omega]; rfl
theorem df_e {lv : Nat → Int32} {left : Int32} {n rm : Nat} : dfF lv (n - n) n left rm = nI 10 := by rw [Nat.sub_self]; rfl
/-- the most, and where it is first -/
def mrF (f : Nat → Int32) : Nat → Int32 × Int32
  | 0 => (nI 0, -1)
  | k + 1 => if (mrF f k).1 < f k then (f k, nI k) else mrF f k
def tldI (u : Sto) (w : Int32) (r : Nat) : Int32 := if lvT u 3 r = -1 ∨ lvT u 3 (aft r) = -1 ∨ bitJ w (lvT u 3 r) = 0 then w else w ||| oneJ (lvT u 3 (aft r))
def kbF (u : Sto) (nw : Nat) (w : Int32) : Nat → Int32
  | 0 => w
  | k + 1 => tldI u (kbF u nw w k) ((nw + k) % 168)
def wcF (u : Sto) (w : Int32) : Nat → Int32
  | 0 => w
  | k + 1 => if ¬ bitJ w (hmI u k) = 0 then wcF u w k ||| one k else wcF u w k
abbrev coP (u : Sto) (a r : Nat) : Prop := ¬ u 14 r = 0 ∨ brP u a r = true
abbrev coQ (u : Sto) (a r : Nat) : Prop := u 4 r = -1 ∨ u 4 r = nI a
def coI (u : Sto) (a r : Nat) : Int32 := if coP u a r then -1 else if coQ u a r then nI 0 else nI 1
def crF (f : Nat → Int32) (b : Nat) : Nat → Nat → Int32 → Int32
  | 0, _, s => s
  | j + 1, k, s => if f ((b + k) % 168) = -1 then -1 else crF f b j (k + 1) (s + f ((b + k) % 168))
theorem cr_s {f : Nat → Int32} {b n k : Nat} {s : Int32} (h : k < n) : crF f b (n - k) k s = if f ((b + k) % 168) = -1 then -1 else crF f b (n - (k + 1)) (k + 1) (s + f ((b + k) % 168)) := by
  rw [show n - k = (n - (k + 1)) + 1 by omega]; rfl
theorem cr_e {f : Nat → Int32} {b n : Nat} {s : Int32} : crF f b (n - n) n s = s := by rw [Nat.sub_self]; rfl
theorem cr_cong {f g : Nat → Int32} {b : Nat} (h : ∀ j, j < 168 → f j = g j) : ∀ n k s, crF f b n k s = crF g b n k s
  | 0, _, _ => rfl
  | n + 1, k, s => by rw [crF, crF, h _ (Nat.mod_lt _ (by omega)), cr_cong h n]
def feF (f : Nat → Int32) : Nat → Int32 × Int32
  | 0 => (-1, -1)
  | k + 1 => if ¬ f k = -1 ∧ ((feF f k).1 = -1 ∨ f k < (feF f k).1) then (f k, nI k) else feF f k
def btI (x : Int32) : Int32 := if x = -1 then nI 0 else oneJ x
def nbI (u : Sto) (r : Nat) : Int32 := (btI (lvT u 3 (bef r)) ||| btI (lvT u 3 r)) ||| btI (lvT u 3 (aft r))
def lrI (u : Sto) (x : Int32) (b n : Nat) : Int32 := ctI (fun k => decide (lvT u 3 ((b + k) % 168) = x)) n
set_option maxHeartbeats 1000000 in
theorem c_X5_sideBySide {E : EE} (x y z : Int32) (u : Sto) : Ct E 2 0 yX5_sideBySide cX5_sideBySide 6 (some .int) [.ref (E.ad 162), .int x, .int y, .int z] u (.inl (some (.int (sbsF (fun r => decide (lvT u 3 r = x ∧ lvT u 3 (aft r) = y)) z 168 0 (nI 0))))) (u) := by
  refine ct_of (by decide) (Nat.le_of_ble_eq_true rfl) (fun X h hR hrt htab hargs hini => ?_)
  have LP : ∀ j k : Nat, ∀ t : Int32, sbsF (fun r => decide (lvT u 3 r = x ∧ lvT u 3 (aft r) = y)) z 168 0 (nI 0) = sbsF (fun r => decide (lvT u 3 r = x ∧ lvT u 3 (aft r) = y)) z (168 - k) k t → 168 < k + j → k ≤ 168 → G E X (QM E X (.inl (some (.int (sbsF (fun r => decide (lvT u 3 r = x ∧ lvT u 3 (aft r) = y)) z 168 0 (nI 0))))) (u) 0) 6 0 6 [(0, .ref (E.ad 162)), (1, .int x), (2, .int y), (3, .int z), (4, .int t), (5, .int (nI k))] [] (u) := by
    intro j
    induction j with
    | zero => intro k t hf h1 h2; omega
    | succ j ih =>
      intro k t hf h1 h2
      refine g_iload h dX5_sideBySide_6 rfl ?_
      refine g_sipush (v := nI 168) h dX5_sideBySide_8 (by decide) ?_
      refine g_icmp_ge (tgt := 59) h dX5_sideBySide_11 (by decide) (fun c11 => ?_) (fun c11 => ?_)
      · have n11 := le_n (by omega) (by omega) (show nI (168) ≤ nI (k) from c11)
        obtain rfl : k = 168 := by omega
        rw [sbs_e] at hf
        refine g_iload_n h dX5_sideBySide_59 rfl rfl ?_
        refine g_if_eq (tgt := 67) h dX5_sideBySide_60 (by decide) (fun c60 => ?_) (fun c60 => ?_)
        · rw [if_pos c60] at hf
          refine g_iload h dX5_sideBySide_67 rfl ?_
          exact g_iret h hrt dX5_sideBySide_69 (by omega) (by rw [hf]) rfl
        · rw [if_neg c60] at hf
          refine g_iconst (v := -1) h dX5_sideBySide_63 (by decide) ?_
          refine g_goto (tgt := 69) h dX5_sideBySide_64 (by decide) ?_
          exact g_iret h hrt dX5_sideBySide_69 (by omega) (by rw [hf]) rfl
      · have n11 := nle_n (by omega) (by omega) (show ¬ nI (168) ≤ nI (k) from c11)
        rw [sbs_s (by omega)] at hf
        refine g_aload_n h dX5_sideBySide_14 rfl rfl ?_
        refine g_getR h fl_X5_25_5 sh_162 (by decide) rfl dX5_sideBySide_15 ?_
        refine g_iload h dX5_sideBySide_18 rfl ?_
        refine g_V h lv_X5_26_X7 sh_3 (by decide) rfl (c_X7_livesIn 3 (by decide) k (by omega) _) (fitR hR (by decide) (by decide) (by omega)) rfl rfl (Nat.le_of_ble_eq_true rfl) dX5_sideBySide_20 ?_
        refine g_iload_n h dX5_sideBySide_23 rfl rfl ?_
        refine g_icmp_ne (tgt := 53) h dX5_sideBySide_24 (by decide) (fun c24 => ?_) (fun c24 => ?_)
        · rw [if_neg (fun q => c24 (of_decide_eq_true q).1)] at hf
          refine g_iinc (v := nI (k + 1)) (ls' := [(0, _), (1, _), (2, _), (3, _), (4, _), (5, _)]) h dX5_sideBySide_53 rfl (nI_1 k) (by decide) rfl rfl ?_
          refine g_goto (tgt := 6) h dX5_sideBySide_56 (by decide) ?_
          exact ih (k + 1) _ hf (by omega) (by omega)
        · refine g_aload_n h dX5_sideBySide_27 rfl rfl ?_
          refine g_getR h fl_X5_25_5 sh_162 (by decide) rfl dX5_sideBySide_28 ?_
          refine g_iload h dX5_sideBySide_31 rfl ?_
          refine g_S h ls_X5_32 (c_X10_after k (by omega) _) (fitR hR (by decide) (by decide) (by omega)) rfl rfl (Nat.le_of_ble_eq_true rfl) dX5_sideBySide_33 ?_
          refine g_V h lv_X5_26_X7 sh_3 (by decide) rfl (c_X7_livesIn 3 (by decide) _ (aft_lt k) _) (fitR hR (by decide) (by decide) (by omega)) rfl rfl (Nat.le_of_ble_eq_true rfl) dX5_sideBySide_36 ?_
          refine g_iload_n h dX5_sideBySide_39 rfl rfl ?_
          refine g_icmp_ne (tgt := 53) h dX5_sideBySide_40 (by decide) (fun c40 => ?_) (fun c40 => ?_)
          · rw [if_neg (fun q => c40 (of_decide_eq_true q).2)] at hf
            refine g_iinc (v := nI (k + 1)) (ls' := [(0, _), (1, _), (2, _), (3, _), (4, _), (5, _)]) h dX5_sideBySide_53 rfl (nI_1 k) (by decide) rfl rfl ?_
            refine g_goto (tgt := 6) h dX5_sideBySide_56 (by decide) ?_
            exact ih (k + 1) _ hf (by omega) (by omega)
          · rw [if_pos (decide_eq_true ⟨c24, c40⟩)] at hf
            refine g_iload_n h dX5_sideBySide_43 rfl rfl ?_
            refine g_if_eq (tgt := 50) h dX5_sideBySide_44 (by decide) (fun c44 => ?_) (fun c44 => ?_)
            · rw [if_pos c44] at hf
              refine g_iinc (ls' := [(0, _), (1, _), (2, _), (3, _), (4, _), (5, _)]) h dX5_sideBySide_50 rfl rfl (by decide) rfl rfl ?_
              refine g_iinc (v := nI (k + 1)) (ls' := [(0, _), (1, _), (2, _), (3, _), (4, _), (5, _)]) h dX5_sideBySide_53 rfl (nI_1 k) (by decide) rfl rfl ?_
              refine g_goto (tgt := 6) h dX5_sideBySide_56 (by decide) ?_
              exact ih (k + 1) _ hf (by omega) (by omega)
            · rw [if_neg c44] at hf
              refine g_iload h dX5_sideBySide_47 rfl ?_
              exact g_iret h hrt dX5_sideBySide_49 (by omega) (by rw [hf]) rfl
  refine g_iconst (v := nI 0) h dX5_sideBySide_0 (by decide) ?_
  refine g_istore (ls' := [(0, _), (1, _), (2, _), (3, _), (4, _)]) h dX5_sideBySide_1 (by decide) rfl rfl ?_
  refine g_iconst (v := nI 0) h dX5_sideBySide_3 (by decide) ?_
  refine g_istore (ls' := [(0, _), (1, _), (2, _), (3, _), (4, _), (5, _)]) h dX5_sideBySide_4 (by decide) rfl rfl ?_
  exact LP (168 + 1) (0) (nI 0) rfl (by omega) (by omega)
set_option maxHeartbeats 1000000 in
theorem c_X5_longestRow {E : EE} (x z : Int32) (u : Sto) : Ct E 2 0 yX5_longestRow cX5_longestRow 7 (some .int) [.ref (E.ad 162), .int x, .int z] u (.inl (some (.int (if z = 0 then nI (lrS (fun r => decide (lvT u 3 r = x)) 336).1 else (lrS (fun r => decide (lvT u 3 r = x)) 336).2.1)))) (u) := by
  refine ct_of (by decide) (Nat.le_of_ble_eq_true rfl) (fun X h hR hrt htab hargs hini => ?_)
  have LP : ∀ j k : Nat, ∀ (mo le : Nat) (wh : Int32), lrS (fun r => decide (lvT u 3 r = x)) k = (mo, wh, le) → mo ≤ k → le ≤ k → 336 < k + j → k ≤ 336 → G E X (QM E X (.inl (some (.int (if z = 0 then nI (lrS (fun r => decide (lvT u 3 r = x)) 336).1 else (lrS (fun r => decide (lvT u 3 r = x)) 336).2.1)))) (u) 0) 7 0 11 [(0, .ref (E.ad 162)), (1, .int x), (2, .int z), (3, .int (nI mo)), (4, .int wh), (5, .int (nI le)), (6, .int (nI k))] [] (u) := by
    intro j
    induction j with
    | zero => intro k mo le wh hf hm hle h1 h2; omega
    | succ j ih =>
      intro k mo le wh hf hm hle h1 h2
      refine g_iload h dX5_longestRow_11 rfl ?_
      refine g_sipush (v := nI 336) h dX5_longestRow_13 (by decide) ?_
      refine g_icmp_ge (tgt := 78) h dX5_longestRow_16 (by decide) (fun c16 => ?_) (fun c16 => ?_)
      · have n16 := le_n (by omega) (by omega) (show nI (336) ≤ nI (k) from c16)
        obtain rfl : k = 336 := by omega
        refine g_iload_n h dX5_longestRow_78 rfl rfl ?_
        refine g_if_eq (tgt := 87) h dX5_longestRow_79 (by decide) (fun c79 => ?_) (fun c79 => ?_)
        · refine g_iload_n h dX5_longestRow_87 rfl rfl ?_
          exact g_iret h hrt dX5_longestRow_88 (by omega) (by first | rw [hf, if_pos c79] | rw [hf, if_neg c79]) rfl
        · refine g_iload h dX5_longestRow_82 rfl ?_
          refine g_goto (tgt := 88) h dX5_longestRow_84 (by decide) ?_
          exact g_iret h hrt dX5_longestRow_88 (by omega) (by first | rw [hf, if_pos c79] | rw [hf, if_neg c79]) rfl
      · have n16 := nle_n (by omega) (by omega) (show ¬ nI (336) ≤ nI (k) from c16)
        refine g_aload_n h dX5_longestRow_19 rfl rfl ?_
        refine g_getR h fl_X5_25_5 sh_162 (by decide) rfl dX5_longestRow_20 ?_
        refine g_iload h dX5_longestRow_23 rfl ?_
        refine g_sipush (v := nI 168) h dX5_longestRow_25 (by decide) ?_
        refine g_irem h dX5_longestRow_28 (by decide) ?_
        refine g_top (pk_rem (a := k) (d := 168) (by omega) (by omega) (by omega)) ?_
        refine g_V h lv_X5_26_X7 sh_3 (by decide) rfl (c_X7_livesIn 3 (by decide) (k % 168) (Nat.mod_lt _ (by omega)) _) (fitR hR (by decide) (by decide) (by omega)) rfl rfl (Nat.le_of_ble_eq_true rfl) dX5_longestRow_29 ?_
        obtain ⟨l9, hl9⟩ : ∃ l9, (if (fun r => decide (lvT u 3 r = x)) (k % 168) = true then le + 1 else 0) = l9 := ⟨_, rfl⟩
        have hs := lr_s hf hl9
        have hl8 : l9 ≤ k + 1 := by rw [← hl9]; split <;> omega
        refine g_iload_n h dX5_longestRow_32 rfl rfl ?_
        refine g_j2 44 (x := nI l9) ?_ (fun J44 => ?_)
        · refine g_istore (ls' := [(0, _), (1, _), (2, _), (3, _), (4, _), (5, _), (6, _)]) h dX5_longestRow_44 (by decide) rfl rfl ?_
          refine g_iload h dX5_longestRow_46 rfl ?_
          refine g_iload_n h dX5_longestRow_48 rfl rfl ?_
          refine g_icmp_le (tgt := 72) h dX5_longestRow_49 (by decide) (fun c49 => ?_) (fun c49 => ?_)
          · have n49 := le_n (by omega) (by omega) (show nI (l9) ≤ nI (mo) from c49)
            rw [if_neg (by omega)] at hs
            refine g_iinc (v := nI (k + 1)) (ls' := [(0, _), (1, _), (2, _), (3, _), (4, _), (5, _), (6, _)]) h dX5_longestRow_72 rfl (nI_1 k) (by decide) rfl rfl ?_
            refine g_goto (tgt := 11) h dX5_longestRow_75 (by decide) ?_
            exact ih (k + 1) _ _ _ hs (by omega) (by omega) (by omega) (by omega)
          · have n49 := nle_n (by omega) (by omega) (show ¬ nI (l9) ≤ nI (mo) from c49)
            refine g_iload h dX5_longestRow_52 rfl ?_
            refine g_sipush (v := nI 168) h dX5_longestRow_54 (by decide) ?_
            refine g_icmp_gt (tgt := 72) h dX5_longestRow_57 (by decide) (fun c57 => ?_) (fun c57 => ?_)
            · have n57 := lt_n (by omega) (by omega) (show nI (168) < nI (l9) from c57)
              rw [if_neg (by omega)] at hs
              refine g_iinc (v := nI (k + 1)) (ls' := [(0, _), (1, _), (2, _), (3, _), (4, _), (5, _), (6, _)]) h dX5_longestRow_72 rfl (nI_1 k) (by decide) rfl rfl ?_
              refine g_goto (tgt := 11) h dX5_longestRow_75 (by decide) ?_
              exact ih (k + 1) _ _ _ hs (by omega) (by omega) (by omega) (by omega)
            · have n57 := nlt_n (by omega) (by omega) (show ¬ nI (168) < nI (l9) from c57)
              rw [if_pos (by omega)] at hs
              refine g_iload h dX5_longestRow_60 rfl ?_
              refine g_istore_n (ls' := [(0, _), (1, _), (2, _), (3, _), (4, _), (5, _), (6, _)]) h dX5_longestRow_62 rfl (by decide) rfl rfl ?_
              refine g_iload h dX5_longestRow_63 rfl ?_
              refine g_iconst (v := nI 1) h dX5_longestRow_65 (by decide) ?_
              refine g_iadd h dX5_longestRow_66 ?_
              refine g_top (nI_add k 1) ?_
              refine g_iload h dX5_longestRow_67 rfl ?_
              refine g_isub h dX5_longestRow_69 ?_
              refine g_top (pk_sub (a := k + 1) (b := l9) (by omega)) ?_
              refine g_istore (ls' := [(0, _), (1, _), (2, _), (3, _), (4, _), (5, _), (6, _)]) h dX5_longestRow_70 (by decide) rfl rfl ?_
              refine g_iinc (v := nI (k + 1)) (ls' := [(0, _), (1, _), (2, _), (3, _), (4, _), (5, _), (6, _)]) h dX5_longestRow_72 rfl (nI_1 k) (by decide) rfl rfl ?_
              refine g_goto (tgt := 11) h dX5_longestRow_75 (by decide) ?_
              exact ih (k + 1) _ _ _ hs (by omega) (by omega) (by omega) (by omega)
        · refine g_icmp_ne (tgt := 43) h dX5_longestRow_33 (by decide) (fun c33 => ?_) (fun c33 => ?_)
          · refine g_iconst (v := nI 0) h dX5_longestRow_43 (by decide) ?_
            exact g_top (by simp_all [nI_add]) J44
          · refine g_iload h dX5_longestRow_36 rfl ?_
            refine g_iconst (v := nI 1) h dX5_longestRow_38 (by decide) ?_
            refine g_iadd h dX5_longestRow_39 ?_
            refine g_goto (tgt := 44) h dX5_longestRow_40 (by decide) ?_
            exact g_top (by simp_all [nI_add]) J44
  refine g_iconst (v := nI 0) h dX5_longestRow_0 (by decide) ?_
  refine g_istore_n (ls' := [(0, _), (1, _), (2, _), (3, _)]) h dX5_longestRow_1 rfl (by decide) rfl rfl ?_
  refine g_iconst (v := -1) h dX5_longestRow_2 (by decide) ?_
  refine g_istore (ls' := [(0, _), (1, _), (2, _), (3, _), (4, _)]) h dX5_longestRow_3 (by decide) rfl rfl ?_
  refine g_iconst (v := nI 0) h dX5_longestRow_5 (by decide) ?_
  refine g_istore (ls' := [(0, _), (1, _), (2, _), (3, _), (4, _), (5, _)]) h dX5_longestRow_6 (by decide) rfl rfl ?_
  refine g_iconst (v := nI 0) h dX5_longestRow_8 (by decide) ?_
  refine g_istore (ls' := [(0, _), (1, _), (2, _), (3, _), (4, _), (5, _), (6, _)]) h dX5_longestRow_9 (by decide) rfl rfl ?_
  exact LP (336 + 1) (0) 0 0 (-1) rfl (by omega) (by omega) (by omega) (by omega)
set_option maxHeartbeats 1000000 in
theorem c_X5_firstMeeting {E : EE} (x y : Int32) (nw : Nat) (hn : nw < 168) (u : Sto) (hx : u 3 10 = nI nw) : Ct E 2 0 yX5_firstMeeting cX5_firstMeeting 7 (some .int) [.ref (E.ad 162), .int x, .int y] u (.inl (some (.int (frs (fun k => decide ((lvT u 3 ((nw + k) % 168) = x ∧ lvT u 3 (aft ((nw + k) % 168)) = y) ∨ (lvT u 3 ((nw + k) % 168) = y ∧ lvT u 3 (aft ((nw + k) % 168)) = x))) (fun k => nI ((nw + k) % 168)) 168 0)))) (u) := by
  refine ct_of (by decide) (Nat.le_of_ble_eq_true rfl) (fun X h hR hrt htab hargs hini => ?_)
  have LP : ∀ j k : Nat, frs (fun k => decide ((lvT u 3 ((nw + k) % 168) = x ∧ lvT u 3 (aft ((nw + k) % 168)) = y) ∨ (lvT u 3 ((nw + k) % 168) = y ∧ lvT u 3 (aft ((nw + k) % 168)) = x))) (fun k => nI ((nw + k) % 168)) 168 0 = frs (fun k => decide ((lvT u 3 ((nw + k) % 168) = x ∧ lvT u 3 (aft ((nw + k) % 168)) = y) ∨ (lvT u 3 ((nw + k) % 168) = y ∧ lvT u 3 (aft ((nw + k) % 168)) = x))) (fun k => nI ((nw + k) % 168)) (168 - k) k → 168 < k + j → k ≤ 168 → G E X (QM E X (.inl (some (.int (frs (fun k => decide ((lvT u 3 ((nw + k) % 168) = x ∧ lvT u 3 (aft ((nw + k) % 168)) = y) ∨ (lvT u 3 ((nw + k) % 168) = y ∧ lvT u 3 (aft ((nw + k) % 168)) = x))) (fun k => nI ((nw + k) % 168)) 168 0)))) (u) 0) 7 0 11 [(0, .ref (E.ad 162)), (1, .int x), (2, .int y), (3, .int (nI ((nw + k) % 168))), (4, .int (nI k))] [] (u) := by
    intro j
    induction j with
    | zero => intro k hf h1 h2; omega
    | succ j ih =>
      intro k hf h1 h2
      have hr9 : (nw + k) % 168 < 168 := Nat.mod_lt _ (by omega)
      refine g_iload h dX5_firstMeeting_11 rfl ?_
      refine g_sipush (v := nI 168) h dX5_firstMeeting_13 (by decide) ?_
      refine g_icmp_ge (tgt := 79) h dX5_firstMeeting_16 (by decide) (fun c16 => ?_) (fun c16 => ?_)
      · have n16 := le_n (by omega) (by omega) (show nI (168) ≤ nI (k) from c16)
        obtain rfl : k = 168 := by omega
        rw [frs_e] at hf
        refine g_iconst (v := -1) h dX5_firstMeeting_79 (by decide) ?_
        exact g_iret h hrt dX5_firstMeeting_80 (by omega) (by rw [hf]) rfl
      · have n16 := nle_n (by omega) (by omega) (show ¬ nI (168) ≤ nI (k) from c16)
        rw [frs_s (by omega)] at hf
        refine g_aload_n h dX5_firstMeeting_19 rfl rfl ?_
        refine g_getR h fl_X5_25_5 sh_162 (by decide) rfl dX5_firstMeeting_20 ?_
        refine g_iload_n h dX5_firstMeeting_23 rfl rfl ?_
        refine g_V h lv_X5_26_X7 sh_3 (by decide) rfl (c_X7_livesIn 3 (by decide) _ hr9 _) (fitR hR (by decide) (by decide) (by omega)) rfl rfl (Nat.le_of_ble_eq_true rfl) dX5_firstMeeting_24 ?_
        refine g_istore (ls' := [(0, _), (1, _), (2, _), (3, _), (4, _), (5, _)]) h dX5_firstMeeting_27 (by decide) rfl rfl ?_
        refine g_aload_n h dX5_firstMeeting_29 rfl rfl ?_
        refine g_getR h fl_X5_25_5 sh_162 (by decide) rfl dX5_firstMeeting_30 ?_
        refine g_iload_n h dX5_firstMeeting_33 rfl rfl ?_
        refine g_S h ls_X5_32 (c_X10_after _ hr9 _) (fitR hR (by decide) (by decide) (by omega)) rfl rfl (Nat.le_of_ble_eq_true rfl) dX5_firstMeeting_34 ?_
        refine g_V h lv_X5_26_X7 sh_3 (by decide) rfl (c_X7_livesIn 3 (by decide) _ (aft_lt _) _) (fitR hR (by decide) (by decide) (by omega)) rfl rfl (Nat.le_of_ble_eq_true rfl) dX5_firstMeeting_37 ?_
        refine g_istore (ls' := [(0, _), (1, _), (2, _), (3, _), (4, _), (5, _), (6, _)]) h dX5_firstMeeting_40 (by decide) rfl rfl ?_
        refine g_iload h dX5_firstMeeting_42 rfl ?_
        refine g_iload_n h dX5_firstMeeting_44 rfl rfl ?_
        refine g_icmp_ne (tgt := 54) h dX5_firstMeeting_45 (by decide) (fun c45 => ?_) (fun c45 => ?_)
        · refine g_iload h dX5_firstMeeting_54 rfl ?_
          refine g_iload_n h dX5_firstMeeting_56 rfl rfl ?_
          refine g_icmp_ne (tgt := 68) h dX5_firstMeeting_57 (by decide) (fun c57 => ?_) (fun c57 => ?_)
          · rw [if_neg (fun q => by rcases of_decide_eq_true q with ⟨q1, q2⟩ | ⟨q1, q2⟩ <;> simp_all)] at hf
            refine g_iload_n h dX5_firstMeeting_68 rfl rfl ?_
            refine g_S h ls_X5_32 (c_X10_after _ hr9 _) (fitR hR (by decide) (by decide) (by omega)) rfl rfl (Nat.le_of_ble_eq_true rfl) dX5_firstMeeting_69 ?_
            rw [aft_rk]
            refine g_istore_n (ls' := [(0, _), (1, _), (2, _), (3, _), (4, _), (5, _), (6, _)]) h dX5_firstMeeting_72 rfl (by decide) rfl rfl ?_
            refine g_iinc (v := nI (k + 1)) (ls' := [(0, _), (1, _), (2, _), (3, _), (4, _), (5, _), (6, _)]) h dX5_firstMeeting_73 rfl (nI_1 k) (by decide) rfl rfl ?_
            refine g_goto (tgt := 11) h dX5_firstMeeting_76 (by decide) ?_
            refine g_del 5 (ls' := [(0, _), (1, _), (2, _), (3, _), (4, _), (6, _)]) rfl ?_
            refine g_del 6 (ls' := [(0, _), (1, _), (2, _), (3, _), (4, _)]) rfl ?_
            exact ih (k + 1) hf (by omega) (by omega)
          · refine g_iload h dX5_firstMeeting_60 rfl ?_
            refine g_iload_n h dX5_firstMeeting_62 rfl rfl ?_
            refine g_icmp_ne (tgt := 68) h dX5_firstMeeting_63 (by decide) (fun c63 => ?_) (fun c63 => ?_)
            · rw [if_neg (fun q => by rcases of_decide_eq_true q with ⟨q1, q2⟩ | ⟨q1, q2⟩ <;> simp_all)] at hf
              refine g_iload_n h dX5_firstMeeting_68 rfl rfl ?_
              refine g_S h ls_X5_32 (c_X10_after _ hr9 _) (fitR hR (by decide) (by decide) (by omega)) rfl rfl (Nat.le_of_ble_eq_true rfl) dX5_firstMeeting_69 ?_
              rw [aft_rk]
              refine g_istore_n (ls' := [(0, _), (1, _), (2, _), (3, _), (4, _), (5, _), (6, _)]) h dX5_firstMeeting_72 rfl (by decide) rfl rfl ?_
              refine g_iinc (v := nI (k + 1)) (ls' := [(0, _), (1, _), (2, _), (3, _), (4, _), (5, _), (6, _)]) h dX5_firstMeeting_73 rfl (nI_1 k) (by decide) rfl rfl ?_
              refine g_goto (tgt := 11) h dX5_firstMeeting_76 (by decide) ?_
              refine g_del 5 (ls' := [(0, _), (1, _), (2, _), (3, _), (4, _), (6, _)]) rfl ?_
              refine g_del 6 (ls' := [(0, _), (1, _), (2, _), (3, _), (4, _)]) rfl ?_
              exact ih (k + 1) hf (by omega) (by omega)
            · rw [if_pos (by first | exact decide_eq_true (Or.inl ⟨c45, c51⟩) | exact decide_eq_true (Or.inr ⟨c57, c63⟩))] at hf
              refine g_iload_n h dX5_firstMeeting_66 rfl rfl ?_
              exact g_iret h hrt dX5_firstMeeting_67 (by omega) (by rw [hf]) rfl
        · refine g_iload h dX5_firstMeeting_48 rfl ?_
          refine g_iload_n h dX5_firstMeeting_50 rfl rfl ?_
          refine g_icmp_eq (tgt := 66) h dX5_firstMeeting_51 (by decide) (fun c51 => ?_) (fun c51 => ?_)
          · rw [if_pos (by first | exact decide_eq_true (Or.inl ⟨c45, c51⟩) | exact decide_eq_true (Or.inr ⟨c57, c63⟩))] at hf
            refine g_iload_n h dX5_firstMeeting_66 rfl rfl ?_
            exact g_iret h hrt dX5_firstMeeting_67 (by omega) (by rw [hf]) rfl
          · refine g_iload h dX5_firstMeeting_54 rfl ?_
            refine g_iload_n h dX5_firstMeeting_56 rfl rfl ?_
            refine g_icmp_ne (tgt := 68) h dX5_firstMeeting_57 (by decide) (fun c57 => ?_) (fun c57 => ?_)
            · rw [if_neg (fun q => by rcases of_decide_eq_true q with ⟨q1, q2⟩ | ⟨q1, q2⟩ <;> simp_all)] at hf
              refine g_iload_n h dX5_firstMeeting_68 rfl rfl ?_
              refine g_S h ls_X5_32 (c_X10_after _ hr9 _) (fitR hR (by decide) (by decide) (by omega)) rfl rfl (Nat.le_of_ble_eq_true rfl) dX5_firstMeeting_69 ?_
              rw [aft_rk]
              refine g_istore_n (ls' := [(0, _), (1, _), (2, _), (3, _), (4, _), (5, _), (6, _)]) h dX5_firstMeeting_72 rfl (by decide) rfl rfl ?_
              refine g_iinc (v := nI (k + 1)) (ls' := [(0, _), (1, _), (2, _), (3, _), (4, _), (5, _), (6, _)]) h dX5_firstMeeting_73 rfl (nI_1 k) (by decide) rfl rfl ?_
              refine g_goto (tgt := 11) h dX5_firstMeeting_76 (by decide) ?_
              refine g_del 5 (ls' := [(0, _), (1, _), (2, _), (3, _), (4, _), (6, _)]) rfl ?_
              refine g_del 6 (ls' := [(0, _), (1, _), (2, _), (3, _), (4, _)]) rfl ?_
              exact ih (k + 1) hf (by omega) (by omega)
            · refine g_iload h dX5_firstMeeting_60 rfl ?_
              refine g_iload_n h dX5_firstMeeting_62 rfl rfl ?_
              refine g_icmp_ne (tgt := 68) h dX5_firstMeeting_63 (by decide) (fun c63 => ?_) (fun c63 => ?_)
              · rw [if_neg (fun q => by rcases of_decide_eq_true q with ⟨q1, q2⟩ | ⟨q1, q2⟩ <;> simp_all)] at hf
                refine g_iload_n h dX5_firstMeeting_68 rfl rfl ?_
                refine g_S h ls_X5_32 (c_X10_after _ hr9 _) (fitR hR (by decide) (by decide) (by omega)) rfl rfl (Nat.le_of_ble_eq_true rfl) dX5_firstMeeting_69 ?_
                rw [aft_rk]
                refine g_istore_n (ls' := [(0, _), (1, _), (2, _), (3, _), (4, _), (5, _), (6, _)]) h dX5_firstMeeting_72 rfl (by decide) rfl rfl ?_
                refine g_iinc (v := nI (k + 1)) (ls' := [(0, _), (1, _), (2, _), (3, _), (4, _), (5, _), (6, _)]) h dX5_firstMeeting_73 rfl (nI_1 k) (by decide) rfl rfl ?_
                refine g_goto (tgt := 11) h dX5_firstMeeting_76 (by decide) ?_
                refine g_del 5 (ls' := [(0, _), (1, _), (2, _), (3, _), (4, _), (6, _)]) rfl ?_
                refine g_del 6 (ls' := [(0, _), (1, _), (2, _), (3, _), (4, _)]) rfl ?_
                exact ih (k + 1) hf (by omega) (by omega)
              · rw [if_pos (by first | exact decide_eq_true (Or.inl ⟨c45, c51⟩) | exact decide_eq_true (Or.inr ⟨c57, c63⟩))] at hf
                refine g_iload_n h dX5_firstMeeting_66 rfl rfl ?_
                exact g_iret h hrt dX5_firstMeeting_67 (by omega) (by rw [hf]) rfl
  refine g_aload_n h dX5_firstMeeting_0 rfl rfl ?_
  refine g_getR h fl_X5_25_5 sh_162 (by decide) rfl dX5_firstMeeting_1 ?_
  refine g_getI h fl_X5_35_6 sh_3 (by decide) rfl dX5_firstMeeting_4 ?_
  refine g_top (y := nI ((nw + 0) % 168)) (by rw [hx, Nat.mod_eq_of_lt (by omega)]; rfl) ?_
  refine g_istore_n (ls' := [(0, _), (1, _), (2, _), (3, _)]) h dX5_firstMeeting_7 rfl (by decide) rfl rfl ?_
  refine g_iconst (v := nI 0) h dX5_firstMeeting_8 (by decide) ?_
  refine g_istore (ls' := [(0, _), (1, _), (2, _), (3, _), (4, _)]) h dX5_firstMeeting_9 (by decide) rfl rfl ?_
  exact LP (168 + 1) (0) rfl (by omega) (by omega)
set_option maxHeartbeats 1000000 in
theorem c_X5_differentFrom {E : EE} (b : Nat) (hb : b < 168) (w : Int32) (u : Sto) : Ct E 2 0 yX5_differentFrom cX5_differentFrom 7 (some .int) [.ref (E.ad 162), .int (nI b), .int w] u (.inl (some (.int (dfF (lvT u 3) 10 0 w b)))) (u) := by
  refine ct_of (by decide) (Nat.le_of_ble_eq_true rfl) (fun X h hR hrt htab hargs hini => ?_)
  have LP : ∀ j k : Nat, ∀ (t : Int32) (rm : Nat), rm < 168 → dfF (lvT u 3) 10 0 w b = dfF (lvT u 3) (10 - k) k t rm → 10 < k + j → k ≤ 10 → G E X (QM E X (.inl (some (.int (dfF (lvT u 3) 10 0 w b)))) (u) 0) 7 0 8 [(0, .ref (E.ad 162)), (1, .int (nI b)), (2, .int w), (3, .int t), (4, .int (nI rm)), (5, .int (nI k))] [] (u) := by
    intro j
    induction j with
    | zero => intro k t rm hrm hf h1 h2; omega
    | succ j ih =>
      intro k t rm hrm hf h1 h2
      refine g_iload h dX5_differentFrom_8 rfl ?_
      refine g_bipush (v := nI 10) h dX5_differentFrom_10 (by decide) ?_
      refine g_icmp_ge (tgt := 66) h dX5_differentFrom_12 (by decide) (fun c12 => ?_) (fun c12 => ?_)
      · have n12 := le_n (by omega) (by omega) (show nI (10) ≤ nI (k) from c12)
        obtain rfl : k = 10 := by omega
        rw [df_e] at hf
        refine g_bipush (v := nI 10) h dX5_differentFrom_66 (by decide) ?_
        exact g_iret h hrt dX5_differentFrom_68 (by omega) (by rw [hf]) rfl
      · have n12 := nle_n (by omega) (by omega) (show ¬ nI (10) ≤ nI (k) from c12)
        rw [df_s (by omega)] at hf
        refine g_aload_n h dX5_differentFrom_15 rfl rfl ?_
        refine g_getR h fl_X5_25_5 sh_162 (by decide) rfl dX5_differentFrom_16 ?_
        refine g_iload h dX5_differentFrom_19 rfl ?_
        refine g_V h lv_X5_26_X7 sh_3 (by decide) rfl (c_X7_livesIn 3 (by decide) rm hrm _) (fitR hR (by decide) (by decide) (by omega)) rfl rfl (Nat.le_of_ble_eq_true rfl) dX5_differentFrom_21 ?_
        refine g_istore (ls' := [(0, _), (1, _), (2, _), (3, _), (4, _), (5, _), (6, _)]) h dX5_differentFrom_24 (by decide) rfl rfl ?_
        refine g_iload h dX5_differentFrom_26 rfl ?_
        refine g_iconst (v := -1) h dX5_differentFrom_28 (by decide) ?_
        refine g_icmp_eq (tgt := 41) h dX5_differentFrom_29 (by decide) (fun c29 => ?_) (fun c29 => ?_)
        · rw [if_pos (Or.inl c29)] at hf
          refine g_iload h dX5_differentFrom_41 rfl ?_
          exact g_iret h hrt dX5_differentFrom_43 (by omega) (by rw [hf]) rfl
        · refine g_iload_n h dX5_differentFrom_32 rfl rfl ?_
          refine g_iload h dX5_differentFrom_33 rfl ?_
          refine g_iushr h dX5_differentFrom_35 ?_
          refine g_iconst (v := nI 1) h dX5_differentFrom_36 (by decide) ?_
          refine g_iand h dX5_differentFrom_37 ?_
          refine g_if_ne (tgt := 44) h dX5_differentFrom_38 (by decide) (fun c38 => ?_) (fun c38 => ?_)
          · rw [if_neg (fun q => by rcases q with q | q; exact c29 q; exact c38 q)] at hf
            refine g_iload_n h dX5_differentFrom_44 rfl rfl ?_
            refine g_iconst (v := nI 1) h dX5_differentFrom_45 (by decide) ?_
            refine g_iload h dX5_differentFrom_46 rfl ?_
            refine g_ishl h dX5_differentFrom_48 ?_
            refine g_iconst (v := -1) h dX5_differentFrom_49 (by decide) ?_
            refine g_ixor h dX5_differentFrom_50 ?_
            refine g_iand h dX5_differentFrom_51 ?_
            refine g_istore_n (ls' := [(0, _), (1, _), (2, _), (3, _), (4, _), (5, _), (6, _)]) h dX5_differentFrom_52 rfl (by decide) rfl rfl ?_
            refine g_iload h dX5_differentFrom_53 rfl ?_
            refine g_S h ls_X5_32 (c_X10_after rm hrm _) (fitR hR (by decide) (by decide) (by omega)) rfl rfl (Nat.le_of_ble_eq_true rfl) dX5_differentFrom_55 ?_
            refine g_istore (ls' := [(0, _), (1, _), (2, _), (3, _), (4, _), (5, _), (6, _)]) h dX5_differentFrom_58 (by decide) rfl rfl ?_
            refine g_iinc (v := nI (k + 1)) (ls' := [(0, _), (1, _), (2, _), (3, _), (4, _), (5, _), (6, _)]) h dX5_differentFrom_60 rfl (nI_1 k) (by decide) rfl rfl ?_
            refine g_goto (tgt := 8) h dX5_differentFrom_63 (by decide) ?_
            refine g_del 6 (ls' := [(0, _), (1, _), (2, _), (3, _), (4, _), (5, _)]) rfl ?_
            exact ih (k + 1) _ _ (aft_lt rm) hf (by omega) (by omega)
          · have c38 : bitJ t (lvT u 3 rm) = 0 := c38
            rw [if_pos (Or.inr c38)] at hf
            refine g_iload h dX5_differentFrom_41 rfl ?_
            exact g_iret h hrt dX5_differentFrom_43 (by omega) (by rw [hf]) rfl
  refine g_iload_n h dX5_differentFrom_0 rfl rfl ?_
  refine g_istore_n (ls' := [(0, _), (1, _), (2, _), (3, _)]) h dX5_differentFrom_1 rfl (by decide) rfl rfl ?_
  refine g_iload_n h dX5_differentFrom_2 rfl rfl ?_
  refine g_istore (ls' := [(0, _), (1, _), (2, _), (3, _), (4, _)]) h dX5_differentFrom_3 (by decide) rfl rfl ?_
  refine g_iconst (v := nI 0) h dX5_differentFrom_5 (by decide) ?_
  refine g_istore (ls' := [(0, _), (1, _), (2, _), (3, _), (4, _), (5, _)]) h dX5_differentFrom_6 (by decide) rfl rfl ?_
  exact LP (10 + 1) (0) w b hb rfl (by omega) (by omega)
set_option maxHeartbeats 1000000 in
theorem c_X5_rowOfDifferent {E : EE} (w z : Int32) (u : Sto) : Ct E 3 0 yX5_rowOfDifferent cX5_rowOfDifferent 7 (some .int) [.ref (E.ad 162), .int w, .int z] u (.inl (some (.int (if z = 0 then (mrF (fun r => dfF (lvT u 3) 10 0 w r) 168).1 else (mrF (fun r => dfF (lvT u 3) 10 0 w r) 168).2)))) (u) := by
  refine ct_of (by decide) (Nat.le_of_ble_eq_true rfl) (fun X h hR hrt htab hargs hini => ?_)
  have LP : ∀ j k : Nat, 168 < k + j → k ≤ 168 → G E X (QM E X (.inl (some (.int (if z = 0 then (mrF (fun r => dfF (lvT u 3) 10 0 w r) 168).1 else (mrF (fun r => dfF (lvT u 3) 10 0 w r) 168).2)))) (u) 0) 7 0 8 [(0, .ref (E.ad 162)), (1, .int w), (2, .int z), (3, .int (mrF (fun r => dfF (lvT u 3) 10 0 w r) k).1), (4, .int (mrF (fun r => dfF (lvT u 3) 10 0 w r) k).2), (5, .int (nI k))] [] (u) := by
    intro j
    induction j with
    | zero => intro k h1 h2; omega
    | succ j ih =>
      intro k h1 h2
      refine g_iload h dX5_rowOfDifferent_8 rfl ?_
      refine g_sipush (v := nI 168) h dX5_rowOfDifferent_10 (by decide) ?_
      refine g_icmp_ge (tgt := 44) h dX5_rowOfDifferent_13 (by decide) (fun c13 => ?_) (fun c13 => ?_)
      · have n13 := le_n (by omega) (by omega) (show nI (168) ≤ nI (k) from c13)
        obtain rfl : k = 168 := by omega
        refine g_iload_n h dX5_rowOfDifferent_44 rfl rfl ?_
        refine g_if_eq (tgt := 53) h dX5_rowOfDifferent_45 (by decide) (fun c45 => ?_) (fun c45 => ?_)
        · refine g_iload_n h dX5_rowOfDifferent_53 rfl rfl ?_
          exact g_iret h hrt dX5_rowOfDifferent_54 (by omega) (by first | rw [if_pos c45] | rw [if_neg c45]) rfl
        · refine g_iload h dX5_rowOfDifferent_48 rfl ?_
          refine g_goto (tgt := 54) h dX5_rowOfDifferent_50 (by decide) ?_
          exact g_iret h hrt dX5_rowOfDifferent_54 (by omega) (by first | rw [if_pos c45] | rw [if_neg c45]) rfl
      · have n13 := nle_n (by omega) (by omega) (show ¬ nI (168) ≤ nI (k) from c13)
        refine g_aload_n h dX5_rowOfDifferent_16 rfl rfl ?_
        refine g_iload h dX5_rowOfDifferent_17 rfl ?_
        refine g_iload_n h dX5_rowOfDifferent_19 rfl rfl ?_
        refine g_V h lv_X5_39_X5 sh_162 (by decide) rfl (c_X5_differentFrom k (by omega) w _) (fitR hR (by decide) (by decide) (by omega)) rfl rfl (Nat.le_of_ble_eq_true rfl) dX5_rowOfDifferent_20 ?_
        refine g_istore (ls' := [(0, _), (1, _), (2, _), (3, _), (4, _), (5, _), (6, _)]) h dX5_rowOfDifferent_23 (by decide) rfl rfl ?_
        refine g_iload h dX5_rowOfDifferent_25 rfl ?_
        refine g_iload_n h dX5_rowOfDifferent_27 rfl rfl ?_
        refine g_icmp_le (tgt := 38) h dX5_rowOfDifferent_28 (by decide) (fun c28 => ?_) (fun c28 => ?_)
        · refine g_iinc (v := nI (k + 1)) (ls' := [(0, _), (1, _), (2, _), (3, _), (4, _), (5, _), (6, _)]) h dX5_rowOfDifferent_38 rfl (nI_1 k) (by decide) rfl rfl ?_
          refine g_goto (tgt := 8) h dX5_rowOfDifferent_41 (by decide) ?_
          refine g_del 6 (ls' := [(0, _), (1, _), (2, _), (3, _), (4, _), (5, _)]) rfl ?_
          exact g_cv (by rw [mrF, if_neg (Int32.not_lt.mpr c28)]) rfl (ih (k + 1) (by omega) (by omega))
        · refine g_iload h dX5_rowOfDifferent_31 rfl ?_
          refine g_istore_n (ls' := [(0, _), (1, _), (2, _), (3, _), (4, _), (5, _), (6, _)]) h dX5_rowOfDifferent_33 rfl (by decide) rfl rfl ?_
          refine g_iload h dX5_rowOfDifferent_34 rfl ?_
          refine g_istore (ls' := [(0, _), (1, _), (2, _), (3, _), (4, _), (5, _), (6, _)]) h dX5_rowOfDifferent_36 (by decide) rfl rfl ?_
          refine g_iinc (v := nI (k + 1)) (ls' := [(0, _), (1, _), (2, _), (3, _), (4, _), (5, _), (6, _)]) h dX5_rowOfDifferent_38 rfl (nI_1 k) (by decide) rfl rfl ?_
          refine g_goto (tgt := 8) h dX5_rowOfDifferent_41 (by decide) ?_
          refine g_del 6 (ls' := [(0, _), (1, _), (2, _), (3, _), (4, _), (5, _)]) rfl ?_
          exact g_cv (by rw [mrF, if_pos (Int32.not_le.mp c28)]) rfl (ih (k + 1) (by omega) (by omega))
  refine g_iconst (v := nI 0) h dX5_rowOfDifferent_0 (by decide) ?_
  refine g_istore_n (ls' := [(0, _), (1, _), (2, _), (3, _)]) h dX5_rowOfDifferent_1 rfl (by decide) rfl rfl ?_
  refine g_iconst (v := -1) h dX5_rowOfDifferent_2 (by decide) ?_
  refine g_istore (ls' := [(0, _), (1, _), (2, _), (3, _), (4, _)]) h dX5_rowOfDifferent_3 (by decide) rfl rfl ?_
  refine g_iconst (v := nI 0) h dX5_rowOfDifferent_5 (by decide) ?_
  refine g_istore (ls' := [(0, _), (1, _), (2, _), (3, _), (4, _), (5, _)]) h dX5_rowOfDifferent_6 (by decide) rfl rfl ?_
  exact LP (168 + 1) (0) (by omega) (by omega)
set_option maxHeartbeats 1000000 in
theorem c_X5_toldOn {E : EE} (w : Int32) (r : Nat) (hr : r < 168) (u : Sto) : Ct E 2 0 yX5_toldOn cX5_toldOn 5 (some .int) [.ref (E.ad 162), .int w, .int (nI r)] u (.inl (some (.int (tldI u w r)))) (u) := by
  refine ct_of (by decide) (Nat.le_of_ble_eq_true rfl) (fun X h hR hrt htab hargs hini => ?_)
  refine g_aload_n h dX5_toldOn_0 rfl rfl ?_
  refine g_getR h fl_X5_25_5 sh_162 (by decide) rfl dX5_toldOn_1 ?_
  refine g_iload_n h dX5_toldOn_4 rfl rfl ?_
  refine g_V h lv_X5_26_X7 sh_3 (by decide) rfl (c_X7_livesIn 3 (by decide) r hr _) (fitR hR (by decide) (by decide) (by omega)) rfl rfl (Nat.le_of_ble_eq_true rfl) dX5_toldOn_5 ?_
  refine g_istore_n (ls' := [(0, _), (1, _), (2, _), (3, _)]) h dX5_toldOn_8 rfl (by decide) rfl rfl ?_
  refine g_aload_n h dX5_toldOn_9 rfl rfl ?_
  refine g_getR h fl_X5_25_5 sh_162 (by decide) rfl dX5_toldOn_10 ?_
  refine g_iload_n h dX5_toldOn_13 rfl rfl ?_
  refine g_S h ls_X5_32 (c_X10_after r hr _) (fitR hR (by decide) (by decide) (by omega)) rfl rfl (Nat.le_of_ble_eq_true rfl) dX5_toldOn_14 ?_
  refine g_V h lv_X5_26_X7 sh_3 (by decide) rfl (c_X7_livesIn 3 (by decide) _ (aft_lt r) _) (fitR hR (by decide) (by decide) (by omega)) rfl rfl (Nat.le_of_ble_eq_true rfl) dX5_toldOn_17 ?_
  refine g_istore (ls' := [(0, _), (1, _), (2, _), (3, _), (4, _)]) h dX5_toldOn_20 (by decide) rfl rfl ?_
  refine g_iload_n h dX5_toldOn_22 rfl rfl ?_
  refine g_iconst (v := -1) h dX5_toldOn_23 (by decide) ?_
  refine g_icmp_eq (tgt := 41) h dX5_toldOn_24 (by decide) (fun c24 => ?_) (fun c24 => ?_)
  · have hz : lvT u 3 r = -1 ∨ lvT u 3 (aft r) = -1 ∨ bitJ w (lvT u 3 r) = 0 := Or.inl c24
    refine g_iload_n h dX5_toldOn_41 rfl rfl ?_
    exact g_iret h hrt dX5_toldOn_42 (by omega) (by rw [tldI, if_pos hz]) rfl
  · refine g_iload h dX5_toldOn_27 rfl ?_
    refine g_iconst (v := -1) h dX5_toldOn_29 (by decide) ?_
    refine g_icmp_eq (tgt := 41) h dX5_toldOn_30 (by decide) (fun c30 => ?_) (fun c30 => ?_)
    · have hz : lvT u 3 r = -1 ∨ lvT u 3 (aft r) = -1 ∨ bitJ w (lvT u 3 r) = 0 := Or.inr (Or.inl c30)
      refine g_iload_n h dX5_toldOn_41 rfl rfl ?_
      exact g_iret h hrt dX5_toldOn_42 (by omega) (by rw [tldI, if_pos hz]) rfl
    · refine g_iload_n h dX5_toldOn_33 rfl rfl ?_
      refine g_iload_n h dX5_toldOn_34 rfl rfl ?_
      refine g_iushr h dX5_toldOn_35 ?_
      refine g_iconst (v := nI 1) h dX5_toldOn_36 (by decide) ?_
      refine g_iand h dX5_toldOn_37 ?_
      refine g_if_ne (tgt := 43) h dX5_toldOn_38 (by decide) (fun c38 => ?_) (fun c38 => ?_)
      · have hz : ¬ (lvT u 3 r = -1 ∨ lvT u 3 (aft r) = -1 ∨ bitJ w (lvT u 3 r) = 0) := fun q => by
          rcases q with q | q | q
          · exact c24 q
          · exact c30 q
          · exact c38 q
        refine g_iload_n h dX5_toldOn_43 rfl rfl ?_
        refine g_iconst (v := nI 1) h dX5_toldOn_44 (by decide) ?_
        refine g_iload h dX5_toldOn_45 rfl ?_
        refine g_ishl h dX5_toldOn_47 ?_
        refine g_ior h dX5_toldOn_48 ?_
        exact g_iret h hrt dX5_toldOn_49 (by omega) (by rw [tldI, if_neg hz]; rfl) rfl
      · have hz : lvT u 3 r = -1 ∨ lvT u 3 (aft r) = -1 ∨ bitJ w (lvT u 3 r) = 0 := Or.inr (Or.inr c38)
        refine g_iload_n h dX5_toldOn_41 rfl rfl ?_
        exact g_iret h hrt dX5_toldOn_42 (by omega) (by rw [tldI, if_pos hz]) rfl
set_option maxHeartbeats 1000000 in
theorem c_X5_ticksToHear {E : EE} (x y : Int32) (nw : Nat) (hn : nw < 168) (u : Sto) (hx : u 3 10 = nI nw) : Ct E 3 0 yX5_ticksToHear cX5_ticksToHear 6 (some .int) [.ref (E.ad 162), .int x, .int y] u (.inl (some (.int (frs (fun k => decide (¬ bitJ (kbF u nw (oneJ x) k) y = 0)) nI 337 0)))) (u) := by
  refine ct_of (by decide) (Nat.le_of_ble_eq_true rfl) (fun X h hR hrt htab hargs hini => ?_)
  have LP : ∀ j k : Nat, frs (fun k => decide (¬ bitJ (kbF u nw (oneJ x) k) y = 0)) nI 337 0 = frs (fun k => decide (¬ bitJ (kbF u nw (oneJ x) k) y = 0)) nI (337 - k) k → 337 < k + j → k ≤ 337 → G E X (QM E X (.inl (some (.int (frs (fun k => decide (¬ bitJ (kbF u nw (oneJ x) k) y = 0)) nI 337 0)))) (u) 0) 6 0 16 [(0, .ref (E.ad 162)), (1, .int x), (2, .int y), (3, .int (kbF u nw (oneJ x) k)), (4, .int (nI ((nw + k) % 168))), (5, .int (nI k))] [] (u) := by
    intro j
    induction j with
    | zero => intro k hf h1 h2; omega
    | succ j ih =>
      intro k hf h1 h2
      have hr9 : (nw + k) % 168 < 168 := Nat.mod_lt _ (by omega)
      refine g_iload h dX5_ticksToHear_16 rfl ?_
      refine g_sipush (v := nI 336) h dX5_ticksToHear_18 (by decide) ?_
      refine g_icmp_gt (tgt := 56) h dX5_ticksToHear_21 (by decide) (fun c21 => ?_) (fun c21 => ?_)
      · have n21 := lt_n (by omega) (by omega) (show nI (336) < nI (k) from c21)
        obtain rfl : k = 337 := by omega
        rw [frs_e] at hf
        refine g_iconst (v := -1) h dX5_ticksToHear_56 (by decide) ?_
        exact g_iret h hrt dX5_ticksToHear_57 (by omega) (by rw [hf]) rfl
      · have n21 := nlt_n (by omega) (by omega) (show ¬ nI (336) < nI (k) from c21)
        rw [frs_s (by omega)] at hf
        refine g_iload_n h dX5_ticksToHear_24 rfl rfl ?_
        refine g_iload_n h dX5_ticksToHear_25 rfl rfl ?_
        refine g_iushr h dX5_ticksToHear_26 ?_
        refine g_iconst (v := nI 1) h dX5_ticksToHear_27 (by decide) ?_
        refine g_iand h dX5_ticksToHear_28 ?_
        refine g_if_eq (tgt := 35) h dX5_ticksToHear_29 (by decide) (fun c29 => ?_) (fun c29 => ?_)
        · have c29 : bitJ (kbF u nw (oneJ x) k) y = 0 := c29
          rw [if_neg (by simp [c29])] at hf
          refine g_aload_n h dX5_ticksToHear_35 rfl rfl ?_
          refine g_iload_n h dX5_ticksToHear_36 rfl rfl ?_
          refine g_iload h dX5_ticksToHear_37 rfl ?_
          refine g_V h lv_X5_43_X5 sh_162 (by decide) rfl (c_X5_toldOn _ _ hr9 _) (fitR hR (by decide) (by decide) (by omega)) rfl rfl (Nat.le_of_ble_eq_true rfl) dX5_ticksToHear_39 ?_
          refine g_istore_n (ls' := [(0, _), (1, _), (2, _), (3, _), (4, _), (5, _)]) h dX5_ticksToHear_42 rfl (by decide) rfl rfl ?_
          refine g_iload h dX5_ticksToHear_43 rfl ?_
          refine g_S h ls_X5_32 (c_X10_after _ hr9 _) (fitR hR (by decide) (by decide) (by omega)) rfl rfl (Nat.le_of_ble_eq_true rfl) dX5_ticksToHear_45 ?_
          rw [aft_rk]
          refine g_istore (ls' := [(0, _), (1, _), (2, _), (3, _), (4, _), (5, _)]) h dX5_ticksToHear_48 (by decide) rfl rfl ?_
          refine g_iinc (v := nI (k + 1)) (ls' := [(0, _), (1, _), (2, _), (3, _), (4, _), (5, _)]) h dX5_ticksToHear_50 rfl (nI_1 k) (by decide) rfl rfl ?_
          refine g_goto (tgt := 16) h dX5_ticksToHear_53 (by decide) ?_
          exact ih (k + 1) hf (by omega) (by omega)
        · have c29 : ¬ bitJ (kbF u nw (oneJ x) k) y = 0 := c29
          rw [if_pos (decide_eq_true c29)] at hf
          refine g_iload h dX5_ticksToHear_32 rfl ?_
          exact g_iret h hrt dX5_ticksToHear_34 (by omega) (by rw [hf]) rfl
  refine g_iconst (v := nI 1) h dX5_ticksToHear_0 (by decide) ?_
  refine g_iload_n h dX5_ticksToHear_1 rfl rfl ?_
  refine g_ishl h dX5_ticksToHear_2 ?_
  refine g_istore_n (ls' := [(0, _), (1, _), (2, _), (3, _)]) h dX5_ticksToHear_3 rfl (by decide) rfl rfl ?_
  refine g_aload_n h dX5_ticksToHear_4 rfl rfl ?_
  refine g_getR h fl_X5_25_5 sh_162 (by decide) rfl dX5_ticksToHear_5 ?_
  refine g_getI h fl_X5_35_6 sh_3 (by decide) rfl dX5_ticksToHear_8 ?_
  refine g_top (y := nI ((nw + 0) % 168)) (by rw [hx, Nat.mod_eq_of_lt (by omega)]; rfl) ?_
  refine g_istore (ls' := [(0, _), (1, _), (2, _), (3, _), (4, _)]) h dX5_ticksToHear_11 (by decide) rfl rfl ?_
  refine g_iconst (v := nI 0) h dX5_ticksToHear_13 (by decide) ?_
  refine g_istore (ls' := [(0, _), (1, _), (2, _), (3, _), (4, _), (5, _)]) h dX5_ticksToHear_14 (by decide) rfl rfl ?_
  exact LP (337 + 1) (0) rfl (by omega) (by omega)
set_option maxHeartbeats 1000000 in
theorem c_X5_withChildren {E : EE} (T : Nat) (hT9 : T ≤ 10) (w : Int32) (u : Sto) (hT : u 10 8 = nI T) : Ct E 3 0 yX5_withChildren cX5_withChildren 4 (some .int) [.ref (E.ad 162), .int w] u (.inl (some (.int (wcF u w T)))) (u) := by
  refine ct_of (by decide) (Nat.le_of_ble_eq_true rfl) (fun X h hR hrt htab hargs hini => ?_)
  have LP : ∀ j k : Nat, T < k + j → k ≤ T → G E X (QM E X (.inl (some (.int (wcF u w T)))) (u) 0) 4 0 4 [(0, .ref (E.ad 162)), (1, .int w), (2, .int (wcF u w k)), (3, .int (nI k))] [] (u) := by
    intro j
    induction j with
    | zero => intro k h1 h2; omega
    | succ j ih =>
      intro k h1 h2
      refine g_iload_n h dX5_withChildren_4 rfl rfl ?_
      refine g_aload_n h dX5_withChildren_5 rfl rfl ?_
      refine g_getR h fl_X5_15_5 sh_162 (by decide) rfl dX5_withChildren_6 ?_
      refine g_getR h fl_X5_49_8 sh_2 (by decide) rfl dX5_withChildren_9 ?_
      refine g_getI h fl_X5_53_4 sh_10 (by decide) rfl dX5_withChildren_12 ?_
      refine g_top hT ?_
      refine g_icmp_ge (tgt := 45) h dX5_withChildren_15 (by decide) (fun c15 => ?_) (fun c15 => ?_)
      · have n15 := le_n (by omega) (by omega) (show nI (T) ≤ nI (k) from c15)
        obtain rfl : k = T := by omega
        refine g_iload_n h dX5_withChildren_45 rfl rfl ?_
        exact g_iret h hrt dX5_withChildren_46 (by omega) (by rfl) rfl
      · have n15 := nle_n (by omega) (by omega) (show ¬ nI (T) ≤ nI (k) from c15)
        refine g_iload_n h dX5_withChildren_18 rfl rfl ?_
        refine g_aload_n h dX5_withChildren_19 rfl rfl ?_
        refine g_getR h fl_X5_15_5 sh_162 (by decide) rfl dX5_withChildren_20 ?_
        refine g_iload_n h dX5_withChildren_23 rfl rfl ?_
        refine g_V h lv_X5_58_X9 sh_2 (by decide) rfl (c_X9_homeOf k (by omega) _) (fitR hR (by decide) (by decide) (by omega)) rfl rfl (Nat.le_of_ble_eq_true rfl) dX5_withChildren_24 ?_
        refine g_iushr h dX5_withChildren_27 ?_
        refine g_iconst (v := nI 1) h dX5_withChildren_28 (by decide) ?_
        refine g_iand h dX5_withChildren_29 ?_
        refine g_if_eq (tgt := 39) h dX5_withChildren_30 (by decide) (fun c30 => ?_) (fun c30 => ?_)
        · refine g_iinc (v := nI (k + 1)) (ls' := [(0, _), (1, _), (2, _), (3, _)]) h dX5_withChildren_39 rfl (nI_1 k) (by decide) rfl rfl ?_
          refine g_goto (tgt := 4) h dX5_withChildren_42 (by decide) ?_
          exact g_cv (by rw [wcF, if_neg (fun q => q c30)]) rfl (ih (k + 1) (by omega) (by omega))
        · refine g_iload_n h dX5_withChildren_33 rfl rfl ?_
          refine g_iconst (v := nI 1) h dX5_withChildren_34 (by decide) ?_
          refine g_iload_n h dX5_withChildren_35 rfl rfl ?_
          refine g_ishl h dX5_withChildren_36 ?_
          refine g_ior h dX5_withChildren_37 ?_
          refine g_istore_n (ls' := [(0, _), (1, _), (2, _), (3, _)]) h dX5_withChildren_38 rfl (by decide) rfl rfl ?_
          refine g_iinc (v := nI (k + 1)) (ls' := [(0, _), (1, _), (2, _), (3, _)]) h dX5_withChildren_39 rfl (nI_1 k) (by decide) rfl rfl ?_
          refine g_goto (tgt := 4) h dX5_withChildren_42 (by decide) ?_
          exact g_cv (by rw [wcF, if_pos (show ¬ bitJ w (hmI u k) = 0 from c30)]; rfl) rfl (ih (k + 1) (by omega) (by omega))
  refine g_iload_n h dX5_withChildren_0 rfl rfl ?_
  refine g_istore_n (ls' := [(0, _), (1, _), (2, _)]) h dX5_withChildren_1 rfl (by decide) rfl rfl ?_
  refine g_iconst (v := nI 0) h dX5_withChildren_2 (by decide) ?_
  refine g_istore_n (ls' := [(0, _), (1, _), (2, _), (3, _)]) h dX5_withChildren_3 rfl (by decide) rfl rfl ?_
  exact LP (T + 1) (0) (by omega) (by omega)
set_option maxHeartbeats 1000000 in
theorem c_X5_knowBehind {E : EE} (T : Nat) (hT9 : T ≤ 10) (x : Int32) (N : Nat) (hN : N ≤ 336) (nw : Nat) (hn : nw < 168) (u : Sto) (hT : u 10 8 = nI T) (hx : u 3 10 = nI nw) : Ct E 4 0 yX5_knowBehind cX5_knowBehind 6 (some .int) [.ref (E.ad 162), .int x, .int (nI N)] u (.inl (some (.int (wcF u (kbF u nw (oneJ x) N) T)))) (u) := by
  refine ct_of (by decide) (Nat.le_of_ble_eq_true rfl) (fun X h hR hrt htab hargs hini => ?_)
  have LP : ∀ j k : Nat, N < k + j → k ≤ N → G E X (QM E X (.inl (some (.int (wcF u (kbF u nw (oneJ x) N) T)))) (u) 0) 6 0 16 [(0, .ref (E.ad 162)), (1, .int x), (2, .int (nI N)), (3, .int (kbF u nw (oneJ x) k)), (4, .int (nI ((nw + k) % 168))), (5, .int (nI k))] [] (u) := by
    intro j
    induction j with
    | zero => intro k h1 h2; omega
    | succ j ih =>
      intro k h1 h2
      have hr9 : (nw + k) % 168 < 168 := Nat.mod_lt _ (by omega)
      refine g_iload h dX5_knowBehind_16 rfl ?_
      refine g_iload_n h dX5_knowBehind_18 rfl rfl ?_
      refine g_icmp_ge (tgt := 43) h dX5_knowBehind_19 (by decide) (fun c19 => ?_) (fun c19 => ?_)
      · have n19 := le_n (by omega) (by omega) (show nI (N) ≤ nI (k) from c19)
        obtain rfl : k = N := by omega
        refine g_aload_n h dX5_knowBehind_43 rfl rfl ?_
        refine g_iload_n h dX5_knowBehind_44 rfl rfl ?_
        refine g_V h lv_X5_46_X5 sh_162 (by decide) rfl (c_X5_withChildren T hT9 _ _ hT) (fitR hR (by decide) (by decide) (by omega)) rfl rfl (Nat.le_of_ble_eq_true rfl) dX5_knowBehind_45 ?_
        exact g_iret h hrt dX5_knowBehind_48 (by omega) (by rfl) rfl
      · have n19 := nle_n (by omega) (by omega) (show ¬ nI (N) ≤ nI (k) from c19)
        refine g_aload_n h dX5_knowBehind_22 rfl rfl ?_
        refine g_iload_n h dX5_knowBehind_23 rfl rfl ?_
        refine g_iload h dX5_knowBehind_24 rfl ?_
        refine g_V h lv_X5_43_X5 sh_162 (by decide) rfl (c_X5_toldOn _ _ hr9 _) (fitR hR (by decide) (by decide) (by omega)) rfl rfl (Nat.le_of_ble_eq_true rfl) dX5_knowBehind_26 ?_
        refine g_istore_n (ls' := [(0, _), (1, _), (2, _), (3, _), (4, _), (5, _)]) h dX5_knowBehind_29 rfl (by decide) rfl rfl ?_
        refine g_iload h dX5_knowBehind_30 rfl ?_
        refine g_S h ls_X5_32 (c_X10_after _ hr9 _) (fitR hR (by decide) (by decide) (by omega)) rfl rfl (Nat.le_of_ble_eq_true rfl) dX5_knowBehind_32 ?_
        rw [aft_rk]
        refine g_istore (ls' := [(0, _), (1, _), (2, _), (3, _), (4, _), (5, _)]) h dX5_knowBehind_35 (by decide) rfl rfl ?_
        refine g_iinc (v := nI (k + 1)) (ls' := [(0, _), (1, _), (2, _), (3, _), (4, _), (5, _)]) h dX5_knowBehind_37 rfl (nI_1 k) (by decide) rfl rfl ?_
        refine g_goto (tgt := 16) h dX5_knowBehind_40 (by decide) ?_
        exact ih (k + 1) (by omega) (by omega)
  refine g_iconst (v := nI 1) h dX5_knowBehind_0 (by decide) ?_
  refine g_iload_n h dX5_knowBehind_1 rfl rfl ?_
  refine g_ishl h dX5_knowBehind_2 ?_
  refine g_istore_n (ls' := [(0, _), (1, _), (2, _), (3, _)]) h dX5_knowBehind_3 rfl (by decide) rfl rfl ?_
  refine g_aload_n h dX5_knowBehind_4 rfl rfl ?_
  refine g_getR h fl_X5_25_5 sh_162 (by decide) rfl dX5_knowBehind_5 ?_
  refine g_getI h fl_X5_35_6 sh_3 (by decide) rfl dX5_knowBehind_8 ?_
  refine g_top (y := nI ((nw + 0) % 168)) (by rw [hx, Nat.mod_eq_of_lt (by omega)]; rfl) ?_
  refine g_istore (ls' := [(0, _), (1, _), (2, _), (3, _), (4, _)]) h dX5_knowBehind_11 (by decide) rfl rfl ?_
  refine g_iconst (v := nI 0) h dX5_knowBehind_13 (by decide) ?_
  refine g_istore (ls' := [(0, _), (1, _), (2, _), (3, _), (4, _), (5, _)]) h dX5_knowBehind_14 (by decide) rfl rfl ?_
  exact LP (N + 1) (0) (by omega) (by omega)
set_option maxHeartbeats 1000000 in
theorem c_X5_costOf {E : EE} (a : Nat) (ha : a < 10) (r : Nat) (hr : r < 168) (u : Sto) (hl : lawI u) : CtP E 5 0 yX5_costOf cX5_costOf 4 (some .int) [.ref (E.ad 162), .int (nI a), .int (nI r)] u (PT (.inl (some (.int (coI u a r)))) u) := by
  refine ctp_of (by decide) (Nat.le_of_ble_eq_true rfl) (fun X h hR hrt htab hargs => ?_)
  refine g_aload_n h dX5_costOf_0 rfl rfl ?_
  refine g_getR h fl_X5_15_5 sh_162 (by decide) rfl dX5_costOf_1 ?_
  refine g_getR h fl_X5_49_8 sh_2 (by decide) rfl dX5_costOf_4 ?_
  refine g_getR h fl_X5_71_4 sh_10 (by decide) rfl dX5_costOf_7 ?_
  refine g_iload_n h dX5_costOf_10 rfl rfl ?_
  refine g_iald h _ _ _ sh_14 (by decide) (by decide) rfl (by omega) dX5_costOf_11 ?_
  refine g_if_ne (tgt := 27) h dX5_costOf_12 (by decide) (fun c12 => ?_) (fun c12 => ?_)
  · have hz : coP u a r := Or.inl c12
    refine g_iconst (v := -1) h dX5_costOf_27 (by decide) ?_
    exact g_iretP h hrt dX5_costOf_28 (by omega) (by first | exact ⟨by rw [coI, if_pos hz], hs21⟩ | exact ⟨by rw [coI, if_pos hz], tim.refl _⟩)
  · refine g_aload_n h dX5_costOf_15 rfl rfl ?_
    refine g_getR h fl_X5_15_5 sh_162 (by decide) rfl dX5_costOf_16 ?_
    refine g_iload_n h dX5_costOf_19 rfl rfl ?_
    refine g_iload_n h dX5_costOf_20 rfl rfl ?_
    refine g_VP h lv_X5_74_X9 sh_2 (by decide) rfl (c_X9_isBarredT a ha r hr _ hl) pt_nx (fitR hR (by decide) (by decide) (by omega)) rfl rfl (Nat.le_of_ble_eq_true rfl) dX5_costOf_21 (fun v21 u21 hs21 => ?_)
    obtain ⟨hv21, hs21⟩ := hs21
    cases hv21
    refine g_if_eq (tgt := 29) h dX5_costOf_24 (by decide) (fun c24 => ?_) (fun c24 => ?_)
    · have hz : ¬ coP u a r := fun q => by
        rcases q with q | q
        · exact q c12
        · exact b2_0.mp c24 q
      have h4 := hs21 4 (by decide) (by decide)
      refine g_aload_n h dX5_costOf_29 rfl rfl ?_
      refine g_getR h fl_X5_25_5 sh_162 (by decide) rfl dX5_costOf_30 ?_
      refine g_getR h fl_X5_78_6 sh_3 (by decide) rfl dX5_costOf_33 ?_
      refine g_iload_n h dX5_costOf_36 rfl rfl ?_
      refine g_iald h _ _ _ sh_4 (by decide) (by decide) rfl (by omega) dX5_costOf_37 ?_
      refine g_top (y := u 4 r) (by rw [h4]) ?_
      refine g_istore_n (ls' := [(0, _), (1, _), (2, _), (3, _)]) h dX5_costOf_38 rfl (by decide) rfl rfl ?_
      refine g_iload_n h dX5_costOf_39 rfl rfl ?_
      refine g_iconst (v := -1) h dX5_costOf_40 (by decide) ?_
      refine g_icmp_eq (tgt := 49) h dX5_costOf_41 (by decide) (fun c41 => ?_) (fun c41 => ?_)
      · have hy : coQ u a r := Or.inl c41
        refine g_iconst (v := nI 0) h dX5_costOf_49 (by decide) ?_
        refine g_goto (tgt := 54) h dX5_costOf_50 (by decide) ?_
        exact g_iretP h hrt dX5_costOf_54 (by omega) (by first | exact ⟨by rw [coI, if_neg hz, if_pos hy], hs21⟩ | exact ⟨by rw [coI, if_neg hz, if_neg hy], hs21⟩)
      · refine g_iload_n h dX5_costOf_44 rfl rfl ?_
        refine g_iload_n h dX5_costOf_45 rfl rfl ?_
        refine g_icmp_ne (tgt := 53) h dX5_costOf_46 (by decide) (fun c46 => ?_) (fun c46 => ?_)
        · have hy : ¬ coQ u a r := fun q => by
            rcases q with q | q
            · exact c41 q
            · exact c46 q
          refine g_iconst (v := nI 1) h dX5_costOf_53 (by decide) ?_
          exact g_iretP h hrt dX5_costOf_54 (by omega) (by first | exact ⟨by rw [coI, if_neg hz, if_pos hy], hs21⟩ | exact ⟨by rw [coI, if_neg hz, if_neg hy], hs21⟩)
        · have hy : coQ u a r := Or.inr c46
          refine g_iconst (v := nI 0) h dX5_costOf_49 (by decide) ?_
          refine g_goto (tgt := 54) h dX5_costOf_50 (by decide) ?_
          exact g_iretP h hrt dX5_costOf_54 (by omega) (by first | exact ⟨by rw [coI, if_neg hz, if_pos hy], hs21⟩ | exact ⟨by rw [coI, if_neg hz, if_neg hy], hs21⟩)
    · have hz : coP u a r := Or.inr (b2_n0.mp c24)
      have h4 := hs21
      refine g_iconst (v := -1) h dX5_costOf_27 (by decide) ?_
      exact g_iretP h hrt dX5_costOf_28 (by omega) (by first | exact ⟨by rw [coI, if_pos hz], hs21⟩ | exact ⟨by rw [coI, if_pos hz], tim.refl _⟩)
set_option maxHeartbeats 1000000 in
theorem c_X5_costOfRow {E : EE} (b : Nat) (hb : b < 168) (N : Nat) (hN : N ≤ 24) (u : Sto) : Ct E 1 0 yX5_costOfRow cX5_costOfRow 6 (some .int) [.ref (E.ad 162), .int (nI b), .int (nI N)] u (.inl (some (.int (crF (u 163) b N 0 (nI 0))))) (u) := by
  refine ct_of (by decide) (Nat.le_of_ble_eq_true rfl) (fun X h hR hrt htab hargs hini => ?_)
  have LP : ∀ j k : Nat, ∀ t : Int32, crF (u 163) b N 0 (nI 0) = crF (u 163) b (N - k) k t → N < k + j → k ≤ N → G E X (QM E X (.inl (some (.int (crF (u 163) b N 0 (nI 0))))) (u) 0) 6 0 5 [(0, .ref (E.ad 162)), (1, .int (nI b)), (2, .int (nI N)), (3, .int t), (4, .int (nI k))] [] (u) := by
    intro j
    induction j with
    | zero => intro k t hf h1 h2; omega
    | succ j ih =>
      intro k t hf h1 h2
      refine g_iload h dX5_costOfRow_5 rfl ?_
      refine g_iload_n h dX5_costOfRow_7 rfl rfl ?_
      refine g_icmp_ge (tgt := 45) h dX5_costOfRow_8 (by decide) (fun c8 => ?_) (fun c8 => ?_)
      · have n8 := le_n (by omega) (by omega) (show nI (N) ≤ nI (k) from c8)
        obtain rfl : k = N := by omega
        rw [cr_e] at hf
        refine g_iload_n h dX5_costOfRow_45 rfl rfl ?_
        exact g_iret h hrt dX5_costOfRow_46 (by omega) (by rw [hf]) rfl
      · have n8 := nle_n (by omega) (by omega) (show ¬ nI (N) ≤ nI (k) from c8)
        rw [cr_s (by omega)] at hf
        refine g_aload_n h dX5_costOfRow_11 rfl rfl ?_
        refine g_getR h fl_X5_9_5 sh_162 (by decide) rfl dX5_costOfRow_12 ?_
        refine g_iload_n h dX5_costOfRow_15 rfl rfl ?_
        refine g_iload h dX5_costOfRow_16 rfl ?_
        refine g_iadd h dX5_costOfRow_18 ?_
        refine g_top (nI_add b k) ?_
        refine g_sipush (v := nI 168) h dX5_costOfRow_19 (by decide) ?_
        refine g_irem h dX5_costOfRow_22 (by decide) ?_
        refine g_top (pk_rem (a := b + k) (d := 168) (by omega) (by omega) (by omega)) ?_
        have hr9 : (b + k) % 168 < 168 := Nat.mod_lt _ (by omega)
        refine g_iald h _ _ _ sh_163 (by decide) (by decide) rfl (by omega) dX5_costOfRow_23 ?_
        refine g_istore (ls' := [(0, _), (1, _), (2, _), (3, _), (4, _), (5, _)]) h dX5_costOfRow_24 (by decide) rfl rfl ?_
        refine g_iload h dX5_costOfRow_26 rfl ?_
        refine g_iconst (v := -1) h dX5_costOfRow_28 (by decide) ?_
        refine g_icmp_ne (tgt := 34) h dX5_costOfRow_29 (by decide) (fun c29 => ?_) (fun c29 => ?_)
        · rw [if_neg c29] at hf
          refine g_iload_n h dX5_costOfRow_34 rfl rfl ?_
          refine g_iload h dX5_costOfRow_35 rfl ?_
          refine g_iadd h dX5_costOfRow_37 ?_
          refine g_istore_n (ls' := [(0, _), (1, _), (2, _), (3, _), (4, _), (5, _)]) h dX5_costOfRow_38 rfl (by decide) rfl rfl ?_
          refine g_iinc (v := nI (k + 1)) (ls' := [(0, _), (1, _), (2, _), (3, _), (4, _), (5, _)]) h dX5_costOfRow_39 rfl (nI_1 k) (by decide) rfl rfl ?_
          refine g_goto (tgt := 5) h dX5_costOfRow_42 (by decide) ?_
          refine g_del 5 (ls' := [(0, _), (1, _), (2, _), (3, _), (4, _)]) rfl ?_
          exact ih (k + 1) _ hf (by omega) (by omega)
        · rw [if_pos c29] at hf
          refine g_iconst (v := -1) h dX5_costOfRow_32 (by decide) ?_
          exact g_iret h hrt dX5_costOfRow_33 (by omega) (by rw [hf]) rfl
  refine g_iconst (v := nI 0) h dX5_costOfRow_0 (by decide) ?_
  refine g_istore_n (ls' := [(0, _), (1, _), (2, _), (3, _)]) h dX5_costOfRow_1 rfl (by decide) rfl rfl ?_
  refine g_iconst (v := nI 0) h dX5_costOfRow_2 (by decide) ?_
  refine g_istore (ls' := [(0, _), (1, _), (2, _), (3, _), (4, _)]) h dX5_costOfRow_3 (by decide) rfl rfl ?_
  exact LP (N + 1) (0) (nI 0) rfl (by omega) (by omega)
set_option maxHeartbeats 1000000 in
theorem c_X5_bitOf {E : EE} (x : Int32) (u : Sto) : Ct E 1 0 yX5_bitOf cX5_bitOf 1 (some .int) [.int x] u (.inl (some (.int (btI x)))) (u) := by
  refine ct_of (by decide) (Nat.le_of_ble_eq_true rfl) (fun X h hR hrt htab hargs hini => ?_)
  refine g_iload_n h dX5_bitOf_0 rfl rfl ?_
  refine g_iconst (v := -1) h dX5_bitOf_1 (by decide) ?_
  refine g_icmp_ne (tgt := 9) h dX5_bitOf_2 (by decide) (fun c2 => ?_) (fun c2 => ?_)
  · have hz := c2
    refine g_iconst (v := nI 1) h dX5_bitOf_9 (by decide) ?_
    refine g_iload_n h dX5_bitOf_10 rfl rfl ?_
    refine g_ishl h dX5_bitOf_11 ?_
    exact g_iret h hrt dX5_bitOf_12 (by omega) (by first | (rw [btI, if_pos c2]; done) | (rw [btI, if_neg c2]; rfl)) rfl
  · have hz := c2
    refine g_iconst (v := nI 0) h dX5_bitOf_5 (by decide) ?_
    refine g_goto (tgt := 12) h dX5_bitOf_6 (by decide) ?_
    exact g_iret h hrt dX5_bitOf_12 (by omega) (by first | (rw [btI, if_pos c2]; done) | (rw [btI, if_neg c2]; rfl)) rfl
set_option maxHeartbeats 1000000 in
theorem c_X5_nearBy {E : EE} (r : Nat) (hr : r < 168) (u : Sto) : Ct E 2 0 yX5_nearBy cX5_nearBy 2 (some .int) [.ref (E.ad 162), .int (nI r)] u (.inl (some (.int (nbI u r)))) (u) := by
  refine ct_of (by decide) (Nat.le_of_ble_eq_true rfl) (fun X h hR hrt htab hargs hini => ?_)
  refine g_aload_n h dX5_nearBy_0 rfl rfl ?_
  refine g_getR h fl_X5_25_5 sh_162 (by decide) rfl dX5_nearBy_1 ?_
  refine g_iload_n h dX5_nearBy_4 rfl rfl ?_
  refine g_S h ls_X5_81 (c_X10_before r hr _) (fitR hR (by decide) (by decide) (by omega)) rfl rfl (Nat.le_of_ble_eq_true rfl) dX5_nearBy_5 ?_
  refine g_V h lv_X5_26_X7 sh_3 (by decide) rfl (c_X7_livesIn 3 (by decide) _ (bef_lt hr) _) (fitR hR (by decide) (by decide) (by omega)) rfl rfl (Nat.le_of_ble_eq_true rfl) dX5_nearBy_8 ?_
  refine g_S h ls_X5_84 (c_X5_bitOf _ _) (fitR hR (by decide) (by decide) (by omega)) rfl rfl (Nat.le_of_ble_eq_true rfl) dX5_nearBy_11 ?_
  refine g_aload_n h dX5_nearBy_14 rfl rfl ?_
  refine g_getR h fl_X5_25_5 sh_162 (by decide) rfl dX5_nearBy_15 ?_
  refine g_iload_n h dX5_nearBy_18 rfl rfl ?_
  refine g_V h lv_X5_26_X7 sh_3 (by decide) rfl (c_X7_livesIn 3 (by decide) r hr _) (fitR hR (by decide) (by decide) (by omega)) rfl rfl (Nat.le_of_ble_eq_true rfl) dX5_nearBy_19 ?_
  refine g_S h ls_X5_84 (c_X5_bitOf _ _) (fitR hR (by decide) (by decide) (by omega)) rfl rfl (Nat.le_of_ble_eq_true rfl) dX5_nearBy_22 ?_
  refine g_ior h dX5_nearBy_25 ?_
  refine g_aload_n h dX5_nearBy_26 rfl rfl ?_
  refine g_getR h fl_X5_25_5 sh_162 (by decide) rfl dX5_nearBy_27 ?_
  refine g_iload_n h dX5_nearBy_30 rfl rfl ?_
  refine g_S h ls_X5_32 (c_X10_after r hr _) (fitR hR (by decide) (by decide) (by omega)) rfl rfl (Nat.le_of_ble_eq_true rfl) dX5_nearBy_31 ?_
  refine g_V h lv_X5_26_X7 sh_3 (by decide) rfl (c_X7_livesIn 3 (by decide) _ (aft_lt r) _) (fitR hR (by decide) (by decide) (by omega)) rfl rfl (Nat.le_of_ble_eq_true rfl) dX5_nearBy_34 ?_
  refine g_S h ls_X5_84 (c_X5_bitOf _ _) (fitR hR (by decide) (by decide) (by omega)) rfl rfl (Nat.le_of_ble_eq_true rfl) dX5_nearBy_37 ?_
  refine g_ior h dX5_nearBy_40 ?_
  exact g_iret h hrt dX5_nearBy_41 (by omega) (by rfl) rfl
set_option maxHeartbeats 1000000 in
theorem c_X5_livedInRow {E : EE} (x : Int32) (b : Nat) (hb : b < 168) (N : Nat) (hN : N ≤ 12) (u : Sto) : Ct E 2 0 yX5_livedInRow cX5_livedInRow 6 (some .int) [.ref (E.ad 162), .int x, .int (nI b), .int (nI N)] u (.inl (some (.int (lrI u x b N)))) (u) := by
  refine ct_of (by decide) (Nat.le_of_ble_eq_true rfl) (fun X h hR hrt htab hargs hini => ?_)
  have LP : ∀ j k : Nat, N < k + j → k ≤ N → G E X (QM E X (.inl (some (.int (lrI u x b N)))) (u) 0) 6 0 6 [(0, .ref (E.ad 162)), (1, .int x), (2, .int (nI b)), (3, .int (nI N)), (4, .int (lrI u x b k)), (5, .int (nI k))] [] (u) := by
    intro j
    induction j with
    | zero => intro k h1 h2; omega
    | succ j ih =>
      intro k h1 h2
      refine g_iload h dX5_livedInRow_6 rfl ?_
      refine g_iload_n h dX5_livedInRow_8 rfl rfl ?_
      refine g_icmp_ge (tgt := 40) h dX5_livedInRow_9 (by decide) (fun c9 => ?_) (fun c9 => ?_)
      · have n9 := le_n (by omega) (by omega) (show nI (N) ≤ nI (k) from c9)
        obtain rfl : k = N := by omega
        refine g_iload h dX5_livedInRow_40 rfl ?_
        exact g_iret h hrt dX5_livedInRow_42 (by omega) (by rfl) rfl
      · have n9 := nle_n (by omega) (by omega) (show ¬ nI (N) ≤ nI (k) from c9)
        refine g_aload_n h dX5_livedInRow_12 rfl rfl ?_
        refine g_getR h fl_X5_25_5 sh_162 (by decide) rfl dX5_livedInRow_13 ?_
        refine g_iload_n h dX5_livedInRow_16 rfl rfl ?_
        refine g_iload h dX5_livedInRow_17 rfl ?_
        refine g_iadd h dX5_livedInRow_19 ?_
        refine g_top (nI_add b k) ?_
        refine g_sipush (v := nI 168) h dX5_livedInRow_20 (by decide) ?_
        refine g_irem h dX5_livedInRow_23 (by decide) ?_
        refine g_top (pk_rem (a := b + k) (d := 168) (by omega) (by omega) (by omega)) ?_
        refine g_V h lv_X5_26_X7 sh_3 (by decide) rfl (c_X7_livesIn 3 (by decide) _ (Nat.mod_lt _ (by omega)) _) (fitR hR (by decide) (by decide) (by omega)) rfl rfl (Nat.le_of_ble_eq_true rfl) dX5_livedInRow_24 ?_
        refine g_iload_n h dX5_livedInRow_27 rfl rfl ?_
        refine g_icmp_ne (tgt := 34) h dX5_livedInRow_28 (by decide) (fun c28 => ?_) (fun c28 => ?_)
        · refine g_iinc (v := nI (k + 1)) (ls' := [(0, _), (1, _), (2, _), (3, _), (4, _), (5, _)]) h dX5_livedInRow_34 rfl (nI_1 k) (by decide) rfl rfl ?_
          refine g_goto (tgt := 6) h dX5_livedInRow_37 (by decide) ?_
          exact g_cv (by rw [lrI, lrI, ctI, if_neg (fun q => c28 (of_decide_eq_true q))]) rfl (ih (k + 1) (by omega) (by omega))
        · refine g_iinc (ls' := [(0, _), (1, _), (2, _), (3, _), (4, _), (5, _)]) h dX5_livedInRow_31 rfl rfl (by decide) rfl rfl ?_
          refine g_iinc (v := nI (k + 1)) (ls' := [(0, _), (1, _), (2, _), (3, _), (4, _), (5, _)]) h dX5_livedInRow_34 rfl (nI_1 k) (by decide) rfl rfl ?_
          refine g_goto (tgt := 6) h dX5_livedInRow_37 (by decide) ?_
          exact g_cv (by rw [lrI, lrI, ctI, if_pos (decide_eq_true c28)]; rfl) rfl (ih (k + 1) (by omega) (by omega))
  refine g_iconst (v := nI 0) h dX5_livedInRow_0 (by decide) ?_
  refine g_istore (ls' := [(0, _), (1, _), (2, _), (3, _), (4, _)]) h dX5_livedInRow_1 (by decide) rfl rfl ?_
  refine g_iconst (v := nI 0) h dX5_livedInRow_3 (by decide) ?_
  refine g_istore (ls' := [(0, _), (1, _), (2, _), (3, _), (4, _), (5, _)]) h dX5_livedInRow_4 (by decide) rfl rfl ?_
  exact LP (N + 1) (0) (by omega) (by omega)
set_option maxHeartbeats 1000000 in
theorem c_X5_mostInRow {E : EE} (T : Nat) (hT9 : T ≤ 10) (b : Nat) (hb : b < 168) (N : Nat) (hN : N ≤ 12) (u : Sto) (hT : u 10 8 = nI T) : Ct E 3 0 yX5_mostInRow cX5_mostInRow 7 (some .int) [.ref (E.ad 162), .int (nI b), .int (nI N)] u (.inl (some (.int (mrF (fun t => lrI u (nI t) b N) T).2))) (u) := by
  refine ct_of (by decide) (Nat.le_of_ble_eq_true rfl) (fun X h hR hrt htab hargs hini => ?_)
  have LP : ∀ j k : Nat, T < k + j → k ≤ T → G E X (QM E X (.inl (some (.int (mrF (fun t => lrI u (nI t) b N) T).2))) (u) 0) 7 0 8 [(0, .ref (E.ad 162)), (1, .int (nI b)), (2, .int (nI N)), (3, .int (mrF (fun t => lrI u (nI t) b N) k).1), (4, .int (mrF (fun t => lrI u (nI t) b N) k).2), (5, .int (nI k))] [] (u) := by
    intro j
    induction j with
    | zero => intro k h1 h2; omega
    | succ j ih =>
      intro k h1 h2
      refine g_iload h dX5_mostInRow_8 rfl ?_
      refine g_aload_n h dX5_mostInRow_10 rfl rfl ?_
      refine g_getR h fl_X5_15_5 sh_162 (by decide) rfl dX5_mostInRow_11 ?_
      refine g_getR h fl_X5_49_8 sh_2 (by decide) rfl dX5_mostInRow_14 ?_
      refine g_getI h fl_X5_53_4 sh_10 (by decide) rfl dX5_mostInRow_17 ?_
      refine g_top hT ?_
      refine g_icmp_ge (tgt := 52) h dX5_mostInRow_20 (by decide) (fun c20 => ?_) (fun c20 => ?_)
      · have n20 := le_n (by omega) (by omega) (show nI (T) ≤ nI (k) from c20)
        obtain rfl : k = T := by omega
        refine g_iload h dX5_mostInRow_52 rfl ?_
        exact g_iret h hrt dX5_mostInRow_54 (by omega) (by rfl) rfl
      · have n20 := nle_n (by omega) (by omega) (show ¬ nI (T) ≤ nI (k) from c20)
        refine g_aload_n h dX5_mostInRow_23 rfl rfl ?_
        refine g_iload h dX5_mostInRow_24 rfl ?_
        refine g_iload_n h dX5_mostInRow_26 rfl rfl ?_
        refine g_iload_n h dX5_mostInRow_27 rfl rfl ?_
        refine g_V h lv_X5_87_X5 sh_162 (by decide) rfl (c_X5_livedInRow _ b hb N hN _) (fitR hR (by decide) (by decide) (by omega)) rfl rfl (Nat.le_of_ble_eq_true rfl) dX5_mostInRow_28 ?_
        refine g_istore (ls' := [(0, _), (1, _), (2, _), (3, _), (4, _), (5, _), (6, _)]) h dX5_mostInRow_31 (by decide) rfl rfl ?_
        refine g_iload h dX5_mostInRow_33 rfl ?_
        refine g_iload_n h dX5_mostInRow_35 rfl rfl ?_
        refine g_icmp_le (tgt := 46) h dX5_mostInRow_36 (by decide) (fun c36 => ?_) (fun c36 => ?_)
        · refine g_iinc (v := nI (k + 1)) (ls' := [(0, _), (1, _), (2, _), (3, _), (4, _), (5, _), (6, _)]) h dX5_mostInRow_46 rfl (nI_1 k) (by decide) rfl rfl ?_
          refine g_goto (tgt := 8) h dX5_mostInRow_49 (by decide) ?_
          refine g_del 6 (ls' := [(0, _), (1, _), (2, _), (3, _), (4, _), (5, _)]) rfl ?_
          exact g_cv (by rw [mrF, if_neg (Int32.not_lt.mpr c36)]) rfl (ih (k + 1) (by omega) (by omega))
        · refine g_iload h dX5_mostInRow_39 rfl ?_
          refine g_istore_n (ls' := [(0, _), (1, _), (2, _), (3, _), (4, _), (5, _), (6, _)]) h dX5_mostInRow_41 rfl (by decide) rfl rfl ?_
          refine g_iload h dX5_mostInRow_42 rfl ?_
          refine g_istore (ls' := [(0, _), (1, _), (2, _), (3, _), (4, _), (5, _), (6, _)]) h dX5_mostInRow_44 (by decide) rfl rfl ?_
          refine g_iinc (v := nI (k + 1)) (ls' := [(0, _), (1, _), (2, _), (3, _), (4, _), (5, _), (6, _)]) h dX5_mostInRow_46 rfl (nI_1 k) (by decide) rfl rfl ?_
          refine g_goto (tgt := 8) h dX5_mostInRow_49 (by decide) ?_
          refine g_del 6 (ls' := [(0, _), (1, _), (2, _), (3, _), (4, _), (5, _)]) rfl ?_
          exact g_cv (by rw [mrF, if_pos (Int32.not_le.mp c36)]) rfl (ih (k + 1) (by omega) (by omega))
  refine g_iconst (v := nI 0) h dX5_mostInRow_0 (by decide) ?_
  refine g_istore_n (ls' := [(0, _), (1, _), (2, _), (3, _)]) h dX5_mostInRow_1 rfl (by decide) rfl rfl ?_
  refine g_iconst (v := -1) h dX5_mostInRow_2 (by decide) ?_
  refine g_istore (ls' := [(0, _), (1, _), (2, _), (3, _), (4, _)]) h dX5_mostInRow_3 (by decide) rfl rfl ?_
  refine g_iconst (v := nI 0) h dX5_mostInRow_5 (by decide) ?_
  refine g_istore (ls' := [(0, _), (1, _), (2, _), (3, _), (4, _), (5, _)]) h dX5_mostInRow_6 (by decide) rfl rfl ?_
  exact LP (T + 1) (0) (by omega) (by omega)
