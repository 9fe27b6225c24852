-- after: 9u.oy
theorem pl_tw {t j : Nat} (h : plc (townD t) j = true) : j = 6 ∨ j = 7 ∨ j = 8 ∨ j = 9 ∨ j = 10 ∨ j = 11 := by
  have : j = 0 ∨ j = 1 ∨ j = 2 ∨ j = 3 ∨ j = 4 ∨ j = 5 ∨ (j = 6 ∨ j = 7 ∨ j = 8 ∨ j = 9 ∨ j = 10 ∨ j = 11) ∨ 12 ≤ j := by omega
  rcases this with rfl | rfl | rfl | rfl | rfl | rfl | q | q
  · exact absurd h (by simp [plc, townD])
  · exact absurd h (by simp [plc, townD])
  · exact absurd h (by simp [plc, townD])
  · exact absurd h (by simp [plc, townD])
  · exact absurd h (by simp [plc, townD])
  · exact absurd h (by simp [plc, townD])
  · exact q
  exfalso
  unfold plc townD at h
  simp only at h
  rw [List.getElem?_eq_none (by simpa using q)] at h
  exact absurd h (by decide)
theorem cx_o {u : Sto} {t o k : Nat} (h : k < t ∨ t + 6 < k) : cxT u t o k = u k := if_neg (by omega)
theorem cx_i {u : Sto} {t o d : Nat} (h : d < 7) : cxT u t o (t + d) = u (o + d) := by
  unfold cxT
  rw [if_pos (by omega), show t + d - t + o = o + d by omega]
theorem cp_in {u : Sto} {t o k j : Nat} (ht : t ∈ townL) (h : o + 6 < t ∨ t + 6 < o) (hp : plc (shp k) j = true) : cpT u t o k j = cxT u t o k j := by
  obtain ⟨s0, s1, s2, s3, s4, s5, s6, -⟩ := sh_town t ht
  by_cases q : k < t ∨ t + 6 < k
  · rw [cpT_c q, cx_o q]
  · obtain ⟨d, hd, rfl⟩ : ∃ d, d < 7 ∧ k = t + d := ⟨k - t, by omega, by omega⟩
    rw [cx_i hd]
    have : d = 0 ∨ d = 1 ∨ d = 2 ∨ d = 3 ∨ d = 4 ∨ d = 5 ∨ d = 6 := by omega
    rcases this with rfl | rfl | rfl | rfl | rfl | rfl | rfl
    · rw [show t + 0 = t from rfl, s0] at hp
      rcases pl_tw hp with rfl | rfl | rfl | rfl | rfl | rfl
      · exact cpT_s6 h
      · exact cpT_s7 h
      · exact cpT_s8 h
      · exact cpT_s9 h
      · exact cpT_s10 h
      · exact cpT_s11 h
    · rw [s1] at hp; exact cpT_1 h (of_decide_eq_true hp)
    · rw [s2] at hp; exact cpT_2 h (of_decide_eq_true hp)
    · rw [s3] at hp; exact cpT_3 h (of_decide_eq_true hp)
    · rw [s4] at hp; exact cpT_4 h (of_decide_eq_true hp)
    · rw [s5] at hp; exact cpT_5 h (of_decide_eq_true hp)
    · rw [s6] at hp; exact cpT_6 h (of_decide_eq_true hp)
theorem tw_m {m : Nat} (h : m < 12) : 75 + 7 * m ∈ townL := by
  have : m = 0 ∨ m = 1 ∨ m = 2 ∨ m = 3 ∨ m = 4 ∨ m = 5 ∨ m = 6 ∨ m = 7 ∨ m = 8 ∨ m = 9 ∨ m = 10 ∨ m = 11 := by omega
  rcases this with rfl | rfl | rfl | rfl | rfl | rfl | rfl | rfl | rfl | rfl | rfl | rfl <;> decide
/-- where the new act lies -/
def nwA (pf pc : Nat) : Nat := if pc = 12 then pf else (pf + pc) % 12
theorem rmS_o {u : Sto} {pf pc k : Nat} (hf : pf < 12) (h0 : k ≠ 0) (h : k < 75 + 7 * nwA pf pc ∨ 75 + 7 * nwA pf pc + 6 < k) : rmS u pf pc k = u k := by
  unfold rmS
  unfold nwA at h
  by_cases c : pc = 12
  · rw [if_pos c] at h ⊢
    rw [show ((pf + 1) % 12 + 11) % 12 = pf by omega, su_c h0, cpT_c (by omega), su_c h0, su_c h0]
  · rw [if_neg c] at h ⊢
    rw [su_c h0, cpT_c (by omega)]
theorem rmS_i {u : Sto} {pf pc d j : Nat} (hf : pf < 12) (hd : d < 7) (hp : plc (shp (75 + 7 * nwA pf pc + d)) j = true) : rmS u pf pc (75 + 7 * nwA pf pc + d) j = u (3 + d) j := by
  have hm : (pf + pc) % 12 < 12 := Nat.mod_lt _ (by decide)
  unfold rmS
  unfold nwA at *
  by_cases c : pc = 12
  · rw [if_pos c] at hp ⊢
    rw [if_pos c, show ((pf + 1) % 12 + 11) % 12 = pf by omega, su_c (by omega), cp_in (tw_m hf) (by omega) hp, cx_i hd, su_c (by omega), su_c (by omega)]
  · rw [if_neg c] at hp ⊢
    rw [if_neg c, su_c (by omega), cp_in (tw_m hm) (by omega) hp, cx_i hd]
theorem rmS_8 {u : Sto} {pf pc : Nat} (h : u 0 8 = nI pf) : rmS u pf pc 0 8 = nI (if pc = 12 then (pf + 1) % 12 else pf) := by
  have hm : (pf + pc) % 12 < 12 := Nat.mod_lt _ (by decide)
  unfold rmS
  by_cases c : pc = 12
  · rw [if_pos c, if_pos c, su_i (by decide), cpT_c (by omega), su_i (by decide), su_k]
  · rw [if_neg c, if_neg c, su_i (by decide), cpT_c (by omega), h]
theorem rmS_9 {u : Sto} {pf pc : Nat} : rmS u pf pc 0 9 = nI (if pc = 12 then 12 else pc + 1) := by
  unfold rmS
  by_cases c : pc = 12
  · rw [if_pos c, if_pos c, su_k]
  · rw [if_neg c, if_neg c, su_k]
theorem rmS_j {u : Sto} {pf pc j : Nat} (h8 : j ≠ 8) (h9 : j ≠ 9) : rmS u pf pc 0 j = u 0 j := by
  unfold rmS
  split
  · rw [su_i h9, cpT_c (by omega), su_i h9, su_i h8]
  · rw [su_i h9, cpT_c (by omega)]
/-- one more act remembered: as the class keeps it, in the places that there are -/
def rmX (u : Sto) (pf pc : Nat) : Sto := cxT u (75 + 7 * nwA pf pc) 3
theorem rmX_in {u : Sto} {pf pc k j : Nat} (hf : pf < 12) (hk : 75 ≤ k) (hp : plc (shp k) j = true) : rmS u pf pc k j = rmX u pf pc k j := by
  have hm : nwA pf pc < 12 := by unfold nwA; split <;> omega
  unfold rmX
  by_cases q : k < 75 + 7 * nwA pf pc ∨ 75 + 7 * nwA pf pc + 6 < k
  · rw [rmS_o hf (by omega) q, cx_o q]
  · obtain ⟨d, hd, rfl⟩ : ∃ d, d < 7 ∧ k = 75 + 7 * nwA pf pc + d := ⟨k - (75 + 7 * nwA pf pc), by omega, by omega⟩
    rw [rmS_i hf hd hp, cx_i hd]
