-- after: a6.pk
theorem J_tx {v : Sto} {g : Nat → Int32} {T W : Nat} (h : J v g T W) (x : Int32) : J (su v 10 11 x) (upd g 0 x) T W := by
  have hT := h.r.hT
  have hW := h.r.hW
  obtain ⟨b1, b2, b3, b4, b5, b6, b7, b8, b9, b10, b11, b12, b13, b14, b15, b16, b17⟩ := h.r
  have hri := h.ri
  have c : ∀ k, k ≠ 10 → su v 10 11 x k = v k := fun k hk => su_cell _ _ hk
  refine J_ro h (fun k hk => c k (by omega)) (fun j hj => pk_un (fun q => by
    subst q
    rcases hj with hj | hj | hj | hj
    · exact absurd hj (by decide)
    · omega
    · omega
    · omega)) ⟨?_, ?_, ?_, b4, ?_, ?_, ?_, ?_, b9, fun a ha => ?_, fun a ha => ?_, fun a ha => ?_, fun m hm => ?_, fun k hk => ?_, fun k hk => ?_, fun k hk => ?_, fun k hk => ?_⟩ ?_
  · rw [pk_us, su_k]
  · rw [pk_un (by omega)]; exact b2
  · rw [su_i (by omega)]; exact b3
  · rw [pk_un (by omega), su_i (by omega)]; exact b5
  · rw [pk_un (by omega), su_i (by omega)]; exact b6
  · rw [pk_un (by omega)]; exact b7
  · rw [su_i (by omega)]; exact b8
  · rw [pk_un (by omega)]; exact (b10 a ha).trans (congrFun (c 11 (by omega)) a).symm
  · rw [pk_un (by omega)]; exact (b11 a ha).trans (congrFun (c 12 (by omega)) a).symm
  · rw [pk_un (by omega)]; exact (b12 a ha).trans (congrFun (c 13 (by omega)) a).symm
  · rw [pk_un (by omega)]; exact (b13 m hm).trans (congrFun (c 14 (by omega)) m).symm
  · rw [pk_un (by omega)]; exact (b14 k hk).trans (congrFun (c 15 (by omega)) k).symm
  · rw [pk_un (by omega)]; exact (b15 k hk).trans (congrFun (c 16 (by omega)) k).symm
  · rw [pk_un (by omega)]; exact (b16 k hk).trans (congrFun (c 17 (by omega)) k).symm
  · rw [pk_un (by omega)]; exact (b17 k hk).trans (congrFun (c 18 (by omega)) k).symm
  · show (∀ a, a < T → su v 10 11 x 13 a = -1 ∨ ∃ m, m < a ∧ su v 10 11 x 13 a = nI m ∧ su v 10 11 x 13 m = -1) ∧ (∀ m, m < 168 → su v 10 11 x 14 m = nI 0 ∨ su v 10 11 x 14 m = nI 1) ∧ (∀ k, k < W → ∃ a, a < T ∧ su v 10 11 x 15 k = nI a ∧ su v 10 11 x 13 a = -1) ∧ (∀ k, k < W → ∃ n, n ≤ 20 ∧ su v 10 11 x 16 k = nI n)
    rw [c 13 (by omega), c 14 (by omega), c 15 (by omega), c 16 (by omega)]; exact hri
theorem pl_tn {t t' d j : Nat} (ht : t ∈ townL) (ht' : t' ∈ townL) (hd : d < 7) (h : plc (shp (t + d)) j = true) : plc (shp (t' + d)) j = true := by
  obtain ⟨s0, s1, s2, s3, s4, s5, s6, -⟩ := sh_town t ht
  obtain ⟨z0, z1, z2, z3, z4, z5, z6, -⟩ := sh_town t' ht'
  have : d = 0 ∨ d = 1 ∨ d = 2 ∨ d = 3 ∨ d = 4 ∨ d = 5 ∨ d = 6 := by omega
  rcases this with rfl | rfl | rfl | rfl | rfl | rfl | rfl
  · rw [show t + 0 = t from rfl, s0] at h
    rw [show t' + 0 = t' from rfl, z0]
    rcases pl_tw h with rfl | rfl | rfl | rfl | rfl | rfl <;> rfl
  · rw [s1] at h; rw [z1]; exact h
  · rw [s2] at h; rw [z2]; exact h
  · rw [s3] at h; rw [z3]; exact h
  · rw [s4] at h; rw [z4]; exact h
  · rw [s5] at h; rw [z5]; exact h
  · rw [s6] at h; rw [z6]; exact h
theorem cpR_d {u : Sto} {k j : Nat} (h1 : 10 ≤ k) (h2 : k ≤ 18) (hp : plc (shp k) j = true) : cpR u 34 10 (k + 24) j = u k j := by
  have hk : k = 10 ∨ k = 11 ∨ k = 12 ∨ k = 13 ∨ k = 14 ∨ k = 15 ∨ k = 16 ∨ k = 17 ∨ k = 18 := by omega
  rcases hk with rfl | rfl | rfl | rfl | rfl | rfl | rfl | rfl | rfl
  · rcases pl_ro (a := [some 11, some 12, some 13, some 14, some 15, some 16, some 17, some 18]) (by rw [sh_10] at hp; exact hp) with rfl | rfl | rfl | rfl | rfl
    · exact cpR_s8 (by omega)
    · exact cpR_s9 (by omega)
    · exact cpR_s10 (by omega)
    · exact cpR_s11 (by omega)
    · exact cpR_s12 (by omega)
  · rw [sh_11] at hp; exact cpR_1 (t := 34) (o := 10) (by omega) (of_decide_eq_true hp)
  · rw [sh_12] at hp; exact cpR_2 (t := 34) (o := 10) (by omega) (of_decide_eq_true hp)
  · rw [sh_13] at hp; exact cpR_3 (t := 34) (o := 10) (by omega) (of_decide_eq_true hp)
  · rw [sh_14] at hp; exact cpR_4 (t := 34) (o := 10) (by omega) (of_decide_eq_true hp)
  · rw [sh_15] at hp; exact cpR_5 (t := 34) (o := 10) (by omega) (of_decide_eq_true hp)
  · rw [sh_16] at hp; exact cpR_6 (t := 34) (o := 10) (by omega) (of_decide_eq_true hp)
  · rw [sh_17] at hp; exact cpR_7 (t := 34) (o := 10) (by omega) (of_decide_eq_true hp)
  · rw [sh_18] at hp; exact cpR_8 (t := 34) (o := 10) (by omega) (of_decide_eq_true hp)
theorem cpR_f {u : Sto} {k j : Nat} (h1 : 10 ≤ k) (h2 : k ≤ 18) (hp : plc (shp k) j = true) : cpR u 10 34 k j = u (k + 24) j := by
  have hk : k = 10 ∨ k = 11 ∨ k = 12 ∨ k = 13 ∨ k = 14 ∨ k = 15 ∨ k = 16 ∨ k = 17 ∨ k = 18 := by omega
  rcases hk with rfl | rfl | rfl | rfl | rfl | rfl | rfl | rfl | rfl
  · rcases pl_ro (a := [some 11, some 12, some 13, some 14, some 15, some 16, some 17, some 18]) (by rw [sh_10] at hp; exact hp) with rfl | rfl | rfl | rfl | rfl
    · exact cpR_s8 (by omega)
    · exact cpR_s9 (by omega)
    · exact cpR_s10 (by omega)
    · exact cpR_s11 (by omega)
    · exact cpR_s12 (by omega)
  · rw [sh_11] at hp; exact cpR_1 (t := 10) (o := 34) (by omega) (of_decide_eq_true hp)
  · rw [sh_12] at hp; exact cpR_2 (t := 10) (o := 34) (by omega) (of_decide_eq_true hp)
  · rw [sh_13] at hp; exact cpR_3 (t := 10) (o := 34) (by omega) (of_decide_eq_true hp)
  · rw [sh_14] at hp; exact cpR_4 (t := 10) (o := 34) (by omega) (of_decide_eq_true hp)
  · rw [sh_15] at hp; exact cpR_5 (t := 10) (o := 34) (by omega) (of_decide_eq_true hp)
  · rw [sh_16] at hp; exact cpR_6 (t := 10) (o := 34) (by omega) (of_decide_eq_true hp)
  · rw [sh_17] at hp; exact cpR_7 (t := 10) (o := 34) (by omega) (of_decide_eq_true hp)
  · rw [sh_18] at hp; exact cpR_8 (t := 10) (o := 34) (by omega) (of_decide_eq_true hp)
theorem dft_o {u : Sto} {k : Nat} (h : k < 27 ∨ 42 < k) (h0 : k ≠ 0) : dft u k = u k := by
  unfold dft
  rw [su_cell _ _ h0, cpR_c (by omega), cpT_c (by omega)]
theorem dft_i {u : Sto} {k j : Nat} (h1 : 3 ≤ k) (h2 : k ≤ 18) (hp : plc (shp k) j = true) : dft u (k + 24) j = u k j := by
  unfold dft
  rw [su_cell _ _ (by omega)]
  by_cases z : k ≤ 9
  · rw [cpR_c (by omega)]
    obtain ⟨d, hd, rfl⟩ : ∃ d, d < 7 ∧ k = 3 + d := ⟨k - 3, by omega, by omega⟩
    rw [show 3 + d + 24 = 27 + d by omega, cp_in (by decide) (by omega) (pl_tn (t := 3) (t' := 27) (by decide) (by decide) hd hp), cx_i hd]
  · rw [cpR_d (by omega) h2 hp, cpT_c (by omega)]
theorem J_dft {u : Sto} {g : Nat → Int32} {T W : Nat} (h : J u g T W) : J (dlw (dft u)) g T W := J_in h (fun k j h1 h2 hp => by
  by_cases z : k ≤ 18
  · rw [dl_i h1 z]; exact dft_i h1 z hp
  · rw [dl_o (by omega), dft_o (by omega) (by omega)])
theorem fin_i {v : Sto} {k j : Nat} (h1 : 3 ≤ k) (h2 : k ≤ 23) (hp : plc (shp k) j = true) : fin v k j = su (dlw v) 10 11 (v 34 11 + nI 1) k j := by
  unfold fin
  rw [su_cell _ _ (by omega)]
  by_cases z : k ≤ 9
  · rw [cpR_c (by omega), cp_in (t := 3) (by decide) (by omega) hp]
    obtain ⟨d, hd, rfl⟩ : ∃ d, d < 7 ∧ k = 3 + d := ⟨k - 3, by omega, by omega⟩
    rw [cx_i hd, su_cell _ _ (by omega), su_cell _ _ (by omega), su_cell _ _ (by omega), dl_i (by omega) (by omega), show 3 + d + 24 = 27 + d by omega]
  · by_cases y : k ≤ 18
    · rw [cpR_f (by omega) y hp, cpT_c (by omega)]
      by_cases x : k = 10
      · subst x
        show su (su v 0 2 (-1)) 34 11 (v 34 11 + nI 1) 34 j = _
        rw [su_at, su_at, su_cell _ _ (by decide), dl_i (by omega) (by omega)]
      · rw [su_cell _ _ (by omega), su_cell _ _ (by omega), su_cell _ _ (by omega), dl_i (by omega) (by omega)]
    · rw [cpR_c (by omega), cpT_c (by omega), su_cell _ _ (by omega), su_cell _ _ (by omega), su_cell _ _ (by omega), dl_o (by omega)]
theorem fin_c {v : Sto} {k : Nat} (h : ¬ (3 ≤ k ∧ k ≤ 18)) (h0 : k ≠ 0) (h34 : k ≠ 34) : fin v k = v k := by
  unfold fin
  rw [su_cell _ _ h0, cpR_c (by omega), cpT_c (by omega), su_cell _ _ h34, su_cell _ _ h0]
theorem fin_0 {v : Sto} {j : Nat} : fin v 0 j = if j = 9 then nI 0 else if j = 2 then -1 else v 0 j := by
  unfold fin
  by_cases z : j = 9
  · rw [if_pos z, z, su_k]
  · rw [if_neg z, su_i z, cpR_c (by omega), cpT_c (by omega), su_cell _ _ (by decide)]
    by_cases y : j = 2
    · rw [if_pos y, y, su_k]
    · rw [if_neg y, su_i y]
theorem N_IB {a b : Sto} (h : N181 a b) : IB a b := ⟨fun k hk => funext fun j => h k j (by unfold ibK at hk; omega) (ibK_s hk (by unfold ibK at hk; omega)), h 178 3 (by decide) (by decide), h 178 6 (by decide) (by decide), h 178 8 (by decide) (by decide), h 178 12 (by decide) (by decide)⟩
theorem JD_twn {f : Nat → Int32} {L T W : Nat} {v u : Sto} (h : J (dlw v) (u 179) T W) : (∃ e, twnT f L T W v = .error e ∧ twnM f L T W u = .error e) ∨ ∃ v' u' T' W', twnT f L T W v = .ok v' ∧ twnM f L T W u = .ok u' ∧ J (dlw v') (u' 179) T' W' ∧ (∀ c, c < 26 ∨ 42 < c → v' c = v c) ∧ v' 27 = v 27 ∧ v' 34 11 = v 34 11 := by
  unfold twnT twnM
  by_cases c : kdN f L (skp f L 0) = 0
  · rw [if_pos c, if_pos c]
    exact Or.inr ⟨v, u, T, W, rfl, rfl, h, fun _ _ => rfl, rfl, rfl⟩
  · rw [if_neg c, if_neg c]; exact JD_tls 14 T W v u _ h
