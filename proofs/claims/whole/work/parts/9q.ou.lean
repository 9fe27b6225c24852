-- after: 9p.ot
theorem ind_z {m : Nat} : indN 0 m = 0 := by unfold indN; rw [Nat.zero_and, if_pos rfl]
theorem cov_z {mN : Nat → Nat} : ∀ n k, covN mN 0 n k = 0
  | 0, _ => rfl
  | n + 1, k => by show indN 0 (mN k) + covN mN 0 n (k + 1) = 0; rw [ind_z, cov_z n]
theorem ws_z {l : Nat → Nat} : ∀ w, wsN l 0 w = 0
  | 0 => rfl
  | w + 1 => by show wsN l 0 w + _ = 0; rw [ws_z w, Nat.zero_testBit]; rfl
theorem FS_0 {v : Sto} {W : Nat} (hW : W ≤ 8) (hl : ∀ w, w < W → v 16 w = nI (lw0 v w) ∧ lw0 v w ≤ 20) : ∃ L : Int, L ≤ 0 ∧ (fiL v W).toInt = L ∧ FS v W 0 (lw0 v) L := by
  have hp : 0 < 2 ^ W := Nat.two_pow_pos _
  have hf : ∀ S, S < 2 ^ W → (s2F v (2 ^ W) W 168 S).toInt = sI (cvK v W 0) (lw0 v) W S := fun S hS => s2_ti hW hS hl 168 (Nat.le_refl _)
  obtain ⟨x, h1, h2, h3, h4⟩ := ls_M hf (2 ^ W) (Nat.le_refl _)
  refine ⟨x, h2, h1, fun w hw => hl w hw, hf, ⟨h3, ?_⟩, rfl⟩
  rcases h4 with h4 | h4
  · refine ⟨0, hp, ?_⟩
    rw [h4]
    unfold sI cvK
    rw [cov_z, ws_z]; rfl
  · exact h4
theorem FS_q {v : Sto} {W k w : Nat} {l : Nat → Nat} {L : Int} (hW : W ≤ 8) (h : FS v W k l L) (hL : (fiL v W).toInt = L) (hw : w < 8) : (decide (¬ bitI (opF (fiS v W (fiL v W) k).2.1 (ftI v W k) (fiL v W) (2 ^ W)) w = 0 ∧ 0 < (fiS v W (fiL v W) k).1 w) = true) ↔ (w < W ∧ Qw v W k l L w) := by
  have hf := ft_n (v := v) (r := k) hW
  have h8 := pw_8 hW
  rw [decide_eq_true_iff, bt_I (by omega), op_bt (by omega), hf.1, bt_nI (by omega)]
  unfold Qw
  constructor
  · rintro ⟨⟨a, b⟩, c⟩
    have hwW := bit_W hf.2 a
    refine ⟨hwW, a, ?_, fun S hS tS mS => b S hS ⟨Int32.toInt_inj.mp (by rw [h.2.1 S hS, hL]; exact tS), (and_z (by omega) (by omega)).mpr mS⟩⟩
    rw [(h.1 w hwW).1] at c
    have := (h.1 w hwW).2
    exact lt_n (by omega) (by omega) (show nI 0 < nI (l w) from c)
  · rintro ⟨hwW, a, b, c⟩
    refine ⟨⟨a, fun S hS q => c S hS ?_ ((and_z (by omega) (by omega)).mp q.2)⟩, ?_⟩
    · rw [← h.2.1 S hS, q.1, hL]
    · rw [(h.1 w hwW).1]
      have := (h.1 w hwW).2
      exact (nI_ltI (a := 0) (by omega) (by omega)).mpr b
theorem sI_b {v : Sto} {W k S : Nat} {l : Nat → Nat} (hW : W ≤ 8) (hl : ∀ w, w < W → l w ≤ 20) : -160 ≤ sI (cvK v W k) l W S ∧ sI (cvK v W k) l W S ≤ 168 := by
  have h1 := ws_20 (l := l) (S := S) W hl
  have h2 := cov_le (mN := mkN v W) (S := S) (168 - k) k
  unfold sI cvK
  omega
theorem cv_sub {v : Sto} {W k : Nat} (A B : Nat) : cvK v W k (A ||| B) + cvK v W k (A &&& B) ≤ cvK v W k A + cvK v W k B := cov_sub _ _
theorem cv_mono {v : Sto} {W k : Nat} (A B : Nat) (h : ∀ i, A.testBit i = true → B.testBit i = true) : cvK v W k A ≤ cvK v W k B := cov_mono h _ _
theorem FS_s {v : Sto} {W k : Nat} {l : Nat → Nat} {L : Int} (hW : W ≤ 8) (hk : k < 168) (h : FS v W k l L) (hL : (fiL v W).toInt = L) : (fiG v W k = -1 ∧ (∀ w, w < W → ¬ Qw v W k l L w) ∧ FS v W (k + 1) l L) ∨ ∃ w, w < W ∧ fiG v W k = nI w ∧ Qw v W k l L w ∧ (∀ i, i < w → ¬ Qw v W k l L i) ∧ FS v W (k + 1) (dcN l w) L := by
  have hf := ft_n (v := v) (r := k) hW
  have h8 := pw_8 hW
  have hc := cv_s (v := v) (W := W) hk
  have hl20 : ∀ w, w < W → l w ≤ 20 := fun w hw => (h.1 w hw).2
  -- what the class finds
  have key : (fiG v W k = -1 ∧ ∀ w, w < W → ¬ Qw v W k l L w) ∨ ∃ w, w < W ∧ fiG v W k = nI w ∧ Qw v W k l L w ∧ ∀ i, i < w → ¬ Qw v W k l L i := by
    unfold fiG fiW
    by_cases z : ftI v W k = 0
    · rw [if_pos z]
      refine Or.inl ⟨rfl, fun w hw q => ?_⟩
      have h0 : mkN v W k = 0 := eq_n (by omega) (by omega) (show nI (mkN v W k) = nI 0 from hf.1.symm.trans z)
      have := q.1
      rw [h0, Nat.zero_testBit] at this
      exact absurd this (by decide)
    · rw [if_neg z]
      unfold fwI
      rcases frs_w (p := fun i => decide (¬ bitI (opF (fiS v W (fiL v W) k).2.1 (ftI v W k) (fiL v W) (2 ^ W)) i = 0 ∧ 0 < (fiS v W (fiL v W) k).1 i)) 8 0 (by decide) with e | ⟨w, _, h2, h3, h4, h5⟩
      · refine Or.inl ⟨e, fun w hw q => ?_⟩
        exact frs_iff 8 0 ⟨e, fun i _ hi => nI_m1 (by omega)⟩ w (Nat.zero_le _) (by omega) ((FS_q hW h hL (by omega)).mpr ⟨hw, q⟩)
      · have hq := (FS_q hW h hL (by omega)).mp h4
        exact Or.inr ⟨w, hq.1, h3, hq.2, fun i hi q => h5 i (Nat.zero_le _) hi ((FS_q hW h hL (by omega)).mpr ⟨by omega, q⟩)⟩
  have hspr : ∀ S, S < 2 ^ W → (spF (fiS v W (fiL v W) k).2.1 (ftI v W k) (-1) (2 ^ W) S).toInt = sI (cvK v W k) l W S - indN S (mkN v W k) := fun S hS => by
    have hb := sI_b (v := v) (k := k) (S := S) hW hl20
    rw [hf.1, sp_ti (F := fun S => sI (cvK v W k) l W S) (B := -1) (by omega) (by omega) hS (h.2.1 S hS) m1_ti (by omega) (by omega)]
    omega
  rcases key with ⟨e, hn⟩ | ⟨w, hw, e, hq, hn⟩
  · refine Or.inl ⟨e, hn, ?_⟩
    have hS1 : fiS v W (fiL v W) (k + 1) = ((fiS v W (fiL v W) k).1, spF (fiS v W (fiL v W) k).2.1 (ftI v W k) (-1) (2 ^ W), (fiS v W (fiL v W) k).2.2) := by
      show (if fiW v W (fiL v W) (fiS v W (fiL v W) k) k = -1 then _ else _) = _
      exact if_pos e
    have hno : ¬ ∃ S, S < 2 ^ W ∧ sI (cvK v W k) l W S = L ∧ mtP2 S (mkN v W k) := fun q => by
      obtain ⟨w, h1, h2, h3, h4⟩ := fit_B hc cv_sub cv_mono h.2.2.1 q
      exact hn w h1 ⟨h2, h3, h4⟩
    refine ⟨?_, fun S hS => ?_, fit_N hc h.2.2.1 hno, ?_⟩
    · rw [hS1]; exact h.1
    · rw [hS1]
      show (spF _ _ _ _ S).toInt = _
      rw [hspr S hS]
      have := hc S
      unfold sI; omega
    · rw [hS1]; exact h.2.2.2
  · refine Or.inr ⟨w, hw, e, hq, hn, ?_⟩
    have hS1 : fiS v W (fiL v W) (k + 1) = (upd (fiS v W (fiL v W) k).1 w ((fiS v W (fiL v W) k).1 w - nI 1), spF (spF (fiS v W (fiL v W) k).2.1 (ftI v W k) (-1) (2 ^ W)) (oneJ (nI w)) (nI 1) (2 ^ W), (fiS v W (fiL v W) k).2.2 + 1) := by
      have e : fiW v W (fiL v W) (fiS v W (fiL v W) k) k = nI w := e
      show (if fiW v W (fiL v W) (fiS v W (fiL v W) k) k = -1 then _ else (upd _ (ix (fiW v W (fiL v W) (fiS v W (fiL v W) k) k)) _, _, _)) = _
      rw [e, if_neg (nI_m1 (by omega)), ix_nI (by omega)]
    have hlw := (h.1 w hw)
    refine ⟨fun i hi => ?_, fun S hS => ?_, fit_M hc h.2.2.1 hw hq.1 hq.2.1 hq.2.2, ?_⟩
    · rw [hS1]
      show upd _ w _ i = nI (dcN l w i) ∧ _
      by_cases z : i = w
      · subst z
        rw [pk_us, dc_w, hlw.1, pk_sub hq.2.1]
        exact ⟨rfl, by omega⟩
      · rw [pk_un z, dc_n z]; exact h.1 i hi
    · rw [hS1]
      show (spF _ (oneJ (nI w)) _ _ S).toInt = _
      have hb := sI_b (v := v) (k := k) (S := S) hW hl20
      have hi := ind_01 (S := S) (m := mkN v W k)
      have hp : 2 ^ w ≤ 256 := pw_8 (by omega)
      rw [oneJ_n, one_p (by omega), sp_ti (F := fun S => sI (cvK v W k) l W S - indN S (mkN v W k)) (B := 1) (by omega) (by omega) hS (hspr S hS) (by decide) (by omega) (by omega), fit_s hc hw hq.2.1]
      by_cases z : S.testBit w = true
      · rw [ind_1 (mt_p.mpr z), if_pos z]; omega
      · rw [ind_0 (fun q => z (mt_p.mp q)), if_neg z]; omega
    · rw [hS1]
      have h1 := to_dc (l := l) hq.2.1 W
      rw [if_pos hw] at h1
      have := h.2.2.2
      show toN (dcN l w) W + ((fiS v W (fiL v W) k).2.2 + 1) = _
      omega
theorem ws_all {l : Nat → Nat} {W : Nat} : ∀ w, w ≤ W → wsN l (2 ^ W - 1) w = toN l w
  | 0, _ => rfl
  | w + 1, hw => by
    show wsN l (2 ^ W - 1) w + _ = toN l w + l w
    rw [ws_all w (by omega), Nat.testBit_two_pow_sub_one, decide_eq_true (show w < W by omega)]; rfl
theorem FS_e {v : Sto} {W : Nat} {l : Nat → Nat} {L : Int} (h : FS v W 168 l L) : (fiN v W : Int) = toN (lw0 v) W + L := by
  have hp : 0 < 2 ^ W := Nat.two_pow_pos _
  have h1 := h.2.2.1.1 (2 ^ W - 1) (by omega)
  obtain ⟨S, hS, tS⟩ := h.2.2.1.2
  have h2 := ws_co (l := l) (S := S) W
  have h3 := ws_all (l := l) W (Nat.le_refl _)
  have h4 := h.2.2.2
  have hz : ∀ S, cvK v W 168 S = 0 := fun S => rfl
  unfold sI at h1 tS
  rw [hz] at h1 tS
  unfold fiN
  omega
