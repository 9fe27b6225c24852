-- after: b2.cw
theorem tc_iae : Cond.castable iae iae ∈ TW := inTW (in_t4 (List.mem_of_getElem? (i := 139) rfl)) (by decide +kernel)
theorem tc_uoe : Cond.castable uoe uoe ∈ TW := inTW (in_t4 (List.mem_of_getElem? (i := 209) rfl)) (by decide +kernel)
theorem tc_ioob : Cond.castable ioob ioob ∈ TW := inTW (in_t5 (List.mem_of_getElem? (i := 125) rfl)) (by decide +kernel)
theorem tc_nsee : Cond.castable nsee nsee ∈ TW := inTW (in_t5 (List.mem_of_getElem? (i := 161) rfl)) (by decide +kernel)
theorem tc_ise : Cond.castable ise ise ∈ TW := inTW (in_t5 (List.mem_of_getElem? (i := 232) rfl)) (by decide +kernel)
set_option maxHeartbeats 1000000 in
theorem c_L_town {E : EE} (u : Sto) {P : Res → Sto → Prop} (hP : ∀ o w, P o w → okO [iae, uoe] o) (hc : CtP E 12 1 yX10_town cX10_town 1 (some .int) [.ref (E.ad 0)] u P) : CtW E 20 1 yL_town cL_town 3 (some .int) [(0, 8, 11, 13), (0, 8, 14, 15)] [.ref (E.ad 0), .ref (E.ad 197)] u (HP (cdL [iae, uoe]) P) := by
  refine ctw_of (by decide) (Nat.le_of_ble_eq_true rfl) (fun X h hR hrt ht hN => ?_)
  refine g_aload_n h dL_town_0 rfl rfl ?_
  refine g_iconst (v := nI 0) h dL_town_1 (by decide) ?_
  refine g_aload_n h dL_town_2 rfl rfl ?_
  refine g_VW h lv_L_7_X10 lv_L_7_X10_p sh_0 (by decide) rfl hc (fitR hR (by decide) (by decide) (by decide)) rfl rfl (Nat.le_of_ble_eq_true rfl) dL_town_3 (fun v w hv => ?_) (fun Ex w hv => ?_)
  · obtain ⟨x9, rfl⟩ := hP _ _ hv
    refine g_i2l h dL_town_6 ?_
    refine g_last h dL_town_7 ?_
    refine g_goto (tgt := 17) h dL_town_8 rfl ?_
    refine g_iconst (v := nI 0) h dL_town_17 (by decide) ?_
    exact g_iretP h hrt dL_town_18 (by decide) ⟨_, _, hv, x9, rfl, rfl, rfl⟩
  · have hm : Ex ∈ [iae, uoe] := hP _ _ hv
    simp only [List.mem_cons, List.not_mem_nil, or_false] at hm
    rcases hm with rfl | rfl
    · refine ⟨tableOf [], tableOf [(0, 8, 14, 15)], _, iae, ht, (fun z hz => nomatch hz), by decide, by decide, env_w h tw_3_141, env_w h tc_iae, fun q => ?_⟩
      refine g_astore_n h dL_town_11 rfl (by decide) rfl rfl ?_
      refine g_iconst (v := nI 1) h dL_town_12 (by decide) ?_
      exact g_iretP h hrt dL_town_13 (by decide) ⟨_, _, hv, rfl, rfl⟩
    · refine ⟨tableOf [(0, 8, 11, 13)], tableOf [], _, uoe, ht, (fun z hz => Or.inr (by
          simp only [tableOf, List.map, List.mem_cons, List.not_mem_nil, or_false] at hz
          rcases hz with rfl
          · exact ⟨by decide, _, env_w h tw_3_141, hN uoe (by decide) iae (by decide) (by decide)⟩)), by decide, by decide, env_w h tw_3_142, env_w h tc_uoe, fun q => ?_⟩
      refine g_astore_n h dL_town_14 rfl (by decide) rfl rfl ?_
      refine g_iconst (v := nI 2) h dL_town_15 (by decide) ?_
      exact g_iretP h hrt dL_town_16 (by decide) ⟨_, _, hv, rfl, rfl⟩
set_option maxHeartbeats 1000000 in
theorem c_L_law {E : EE} (u : Sto) {P : Res → Sto → Prop} (hP : ∀ o w, P o w → okO [iae] o) (hc : CtP E 12 1 yX10_law cX10_law 1 (some .int) [.ref (E.ad 0)] u P) : CtW E 20 1 yL_law cL_law 3 (some .int) [(0, 8, 11, 13)] [.ref (E.ad 0), .ref (E.ad 197)] u (HP (cdL [iae]) P) := by
  refine ctw_of (by decide) (Nat.le_of_ble_eq_true rfl) (fun X h hR hrt ht hN => ?_)
  refine g_aload_n h dL_law_0 rfl rfl ?_
  refine g_iconst (v := nI 0) h dL_law_1 (by decide) ?_
  refine g_aload_n h dL_law_2 rfl rfl ?_
  refine g_VW h lv_L_17_X10 lv_L_17_X10_p sh_0 (by decide) rfl hc (fitR hR (by decide) (by decide) (by decide)) rfl rfl (Nat.le_of_ble_eq_true rfl) dL_law_3 (fun v w hv => ?_) (fun Ex w hv => ?_)
  · obtain ⟨x9, rfl⟩ := hP _ _ hv
    refine g_i2l h dL_law_6 ?_
    refine g_last h dL_law_7 ?_
    refine g_goto (tgt := 14) h dL_law_8 rfl ?_
    refine g_iconst (v := nI 0) h dL_law_14 (by decide) ?_
    exact g_iretP h hrt dL_law_15 (by decide) ⟨_, _, hv, x9, rfl, rfl, rfl⟩
  · obtain rfl : Ex = iae := List.mem_singleton.mp (hP _ _ hv)
    refine ⟨tableOf [], tableOf [], _, iae, ht, (fun z hz => nomatch hz), by decide, by decide, env_w h tw_3_141, env_w h tc_iae, fun q => ?_⟩
    refine g_astore_n h dL_law_11 rfl (by decide) rfl rfl ?_
    refine g_iconst (v := nI 1) h dL_law_12 (by decide) ?_
    exact g_iretP h hrt dL_law_13 (by decide) ⟨_, _, hv, rfl, rfl⟩
set_option maxHeartbeats 1000000 in
theorem c_L_tenant {E : EE} (x0 x1 : Int32) (u : Sto) {P : Res → Sto → Prop} (hP : ∀ o w, P o w → okO [ioob, nsee] o) (hc : CtP E 9 1 yX10_tenant cX10_tenant 3 (some .int) [.ref (E.ad 0), .int x0, .int x1] u P) : CtW E 20 1 yL_tenant cL_tenant 5 (some .int) [(0, 10, 13, 24), (0, 10, 17, 26)] [.ref (E.ad 0), .int x0, .int x1, .ref (E.ad 197)] u (HP (cdL [ioob, nsee]) P) := by
  refine ctw_of (by decide) (Nat.le_of_ble_eq_true rfl) (fun X h hR hrt ht hN => ?_)
  refine g_aload_n h dL_tenant_0 rfl rfl ?_
  refine g_iconst (v := nI 0) h dL_tenant_1 (by decide) ?_
  refine g_aload_n h dL_tenant_2 rfl rfl ?_
  refine g_iload_n h dL_tenant_3 rfl rfl ?_
  refine g_iload_n h dL_tenant_4 rfl rfl ?_
  refine g_VW h lv_L_20_X10 lv_L_20_X10_p sh_0 (by decide) rfl hc (fitR hR (by decide) (by decide) (by decide)) rfl rfl (Nat.le_of_ble_eq_true rfl) dL_tenant_5 (fun v w hv => ?_) (fun Ex w hv => ?_)
  · obtain ⟨x9, rfl⟩ := hP _ _ hv
    refine g_i2l h dL_tenant_8 ?_
    refine g_last h dL_tenant_9 ?_
    refine g_goto (tgt := 21) h dL_tenant_10 rfl ?_
    refine g_iconst (v := nI 0) h dL_tenant_21 (by decide) ?_
    exact g_iretP h hrt dL_tenant_22 (by decide) ⟨_, _, hv, x9, rfl, rfl, rfl⟩
  · have hm : Ex ∈ [ioob, nsee] := hP _ _ hv
    simp only [List.mem_cons, List.not_mem_nil, or_false] at hm
    rcases hm with rfl | rfl
    · refine ⟨tableOf [], tableOf [(0, 10, 17, 26)], _, ioob, ht, (fun z hz => nomatch hz), by decide, by decide, env_w h tw_5_103, env_w h tc_ioob, fun q => ?_⟩
      refine g_astore h dL_tenant_13 (by decide) rfl rfl ?_
      refine g_iconst (v := nI 1) h dL_tenant_15 (by decide) ?_
      exact g_iretP h hrt dL_tenant_16 (by decide) ⟨_, _, hv, rfl, rfl⟩
    · refine ⟨tableOf [(0, 10, 13, 24)], tableOf [], _, nsee, ht, (fun z hz => Or.inr (by
          simp only [tableOf, List.map, List.mem_cons, List.not_mem_nil, or_false] at hz
          rcases hz with rfl
          · exact ⟨by decide, _, env_w h tw_5_103, hN nsee (by decide) ioob (by decide) (by decide)⟩)), by decide, by decide, env_w h tw_5_104, env_w h tc_nsee, fun q => ?_⟩
      refine g_astore h dL_tenant_17 (by decide) rfl rfl ?_
      refine g_iconst (v := nI 2) h dL_tenant_19 (by decide) ?_
      exact g_iretP h hrt dL_tenant_20 (by decide) ⟨_, _, hv, rfl, rfl⟩
set_option maxHeartbeats 1000000 in
theorem c_L_room {E : EE} (x0 x1 : Int32) (u : Sto) {P : Res → Sto → Prop} (hP : ∀ o w, P o w → okO [ioob, nsee] o) (hc : CtP E 9 1 yX10_room cX10_room 3 (some .int) [.ref (E.ad 0), .int x0, .int x1] u P) : CtW E 20 1 yL_room cL_room 5 (some .int) [(0, 10, 13, 24), (0, 10, 17, 26)] [.ref (E.ad 0), .int x0, .int x1, .ref (E.ad 197)] u (HP (cdL [ioob, nsee]) P) := by
  refine ctw_of (by decide) (Nat.le_of_ble_eq_true rfl) (fun X h hR hrt ht hN => ?_)
  refine g_aload_n h dL_room_0 rfl rfl ?_
  refine g_iconst (v := nI 0) h dL_room_1 (by decide) ?_
  refine g_aload_n h dL_room_2 rfl rfl ?_
  refine g_iload_n h dL_room_3 rfl rfl ?_
  refine g_iload_n h dL_room_4 rfl rfl ?_
  refine g_VW h lv_L_28_X10 lv_L_28_X10_p sh_0 (by decide) rfl hc (fitR hR (by decide) (by decide) (by decide)) rfl rfl (Nat.le_of_ble_eq_true rfl) dL_room_5 (fun v w hv => ?_) (fun Ex w hv => ?_)
  · obtain ⟨x9, rfl⟩ := hP _ _ hv
    refine g_i2l h dL_room_8 ?_
    refine g_last h dL_room_9 ?_
    refine g_goto (tgt := 21) h dL_room_10 rfl ?_
    refine g_iconst (v := nI 0) h dL_room_21 (by decide) ?_
    exact g_iretP h hrt dL_room_22 (by decide) ⟨_, _, hv, x9, rfl, rfl, rfl⟩
  · have hm : Ex ∈ [ioob, nsee] := hP _ _ hv
    simp only [List.mem_cons, List.not_mem_nil, or_false] at hm
    rcases hm with rfl | rfl
    · refine ⟨tableOf [], tableOf [(0, 10, 17, 26)], _, ioob, ht, (fun z hz => nomatch hz), by decide, by decide, env_w h tw_5_103, env_w h tc_ioob, fun q => ?_⟩
      refine g_astore h dL_room_13 (by decide) rfl rfl ?_
      refine g_iconst (v := nI 1) h dL_room_15 (by decide) ?_
      exact g_iretP h hrt dL_room_16 (by decide) ⟨_, _, hv, rfl, rfl⟩
    · refine ⟨tableOf [(0, 10, 13, 24)], tableOf [], _, nsee, ht, (fun z hz => Or.inr (by
          simp only [tableOf, List.map, List.mem_cons, List.not_mem_nil, or_false] at hz
          rcases hz with rfl
          · exact ⟨by decide, _, env_w h tw_5_103, hN nsee (by decide) ioob (by decide) (by decide)⟩)), by decide, by decide, env_w h tw_5_104, env_w h tc_nsee, fun q => ?_⟩
      refine g_astore h dL_room_17 (by decide) rfl rfl ?_
      refine g_iconst (v := nI 2) h dL_room_19 (by decide) ?_
      exact g_iretP h hrt dL_room_20 (by decide) ⟨_, _, hv, rfl, rfl⟩
set_option maxHeartbeats 1000000 in
theorem c_L_rule {E : EE} (x0 x1 x2 : Int32) (u : Sto) {P : Res → Sto → Prop} (hP : ∀ o w, P o w → okO [ioob, nsee] o) (hc : CtP E 9 1 yX10_rule cX10_rule 4 (some .int) [.ref (E.ad 0), .int x0, .int x1, .int x2] u P) : CtW E 20 1 yL_rule cL_rule 6 (some .int) [(0, 12, 15, 24), (0, 12, 19, 26)] [.ref (E.ad 0), .int x0, .int x1, .int x2, .ref (E.ad 197)] u (HP (cdL [ioob, nsee]) P) := by
  refine ctw_of (by decide) (Nat.le_of_ble_eq_true rfl) (fun X h hR hrt ht hN => ?_)
  refine g_aload h dL_rule_0 rfl ?_
  refine g_iconst (v := nI 0) h dL_rule_2 (by decide) ?_
  refine g_aload_n h dL_rule_3 rfl rfl ?_
  refine g_iload_n h dL_rule_4 rfl rfl ?_
  refine g_iload_n h dL_rule_5 rfl rfl ?_
  refine g_iload_n h dL_rule_6 rfl rfl ?_
  refine g_VW h lv_L_31_X10 lv_L_31_X10_p sh_0 (by decide) rfl hc (fitR hR (by decide) (by decide) (by decide)) rfl rfl (Nat.le_of_ble_eq_true rfl) dL_rule_7 (fun v w hv => ?_) (fun Ex w hv => ?_)
  · obtain ⟨x9, rfl⟩ := hP _ _ hv
    refine g_i2l h dL_rule_10 ?_
    refine g_last h dL_rule_11 ?_
    refine g_goto (tgt := 23) h dL_rule_12 rfl ?_
    refine g_iconst (v := nI 0) h dL_rule_23 (by decide) ?_
    exact g_iretP h hrt dL_rule_24 (by decide) ⟨_, _, hv, x9, rfl, rfl, rfl⟩
  · have hm : Ex ∈ [ioob, nsee] := hP _ _ hv
    simp only [List.mem_cons, List.not_mem_nil, or_false] at hm
    rcases hm with rfl | rfl
    · refine ⟨tableOf [], tableOf [(0, 12, 19, 26)], _, ioob, ht, (fun z hz => nomatch hz), by decide, by decide, env_w h tw_5_103, env_w h tc_ioob, fun q => ?_⟩
      refine g_astore h dL_rule_15 (by decide) rfl rfl ?_
      refine g_iconst (v := nI 1) h dL_rule_17 (by decide) ?_
      exact g_iretP h hrt dL_rule_18 (by decide) ⟨_, _, hv, rfl, rfl⟩
    · refine ⟨tableOf [(0, 12, 15, 24)], tableOf [], _, nsee, ht, (fun z hz => Or.inr (by
          simp only [tableOf, List.map, List.mem_cons, List.not_mem_nil, or_false] at hz
          rcases hz with rfl
          · exact ⟨by decide, _, env_w h tw_5_103, hN nsee (by decide) ioob (by decide) (by decide)⟩)), by decide, by decide, env_w h tw_5_104, env_w h tc_nsee, fun q => ?_⟩
      refine g_astore h dL_rule_19 (by decide) rfl rfl ?_
      refine g_iconst (v := nI 2) h dL_rule_21 (by decide) ?_
      exact g_iretP h hrt dL_rule_22 (by decide) ⟨_, _, hv, rfl, rfl⟩
set_option maxHeartbeats 1000000 in
theorem c_L_roomOf {E : EE} (x0 x1 x2 : Int32) (u : Sto) {P : Res → Sto → Prop} (hP : ∀ o w, P o w → okO [ioob] o) (hc : CtP E 9 1 yX10_roomOf cX10_roomOf 8 (some .int) [.ref (E.ad 0), .int x0, .int x1, .int x2] u P) : CtW E 20 1 yL_roomOf cL_roomOf 6 (some .int) [(0, 12, 15, 24)] [.ref (E.ad 0), .int x0, .int x1, .int x2, .ref (E.ad 197)] u (HP (cdL [ioob]) P) := by
  refine ctw_of (by decide) (Nat.le_of_ble_eq_true rfl) (fun X h hR hrt ht hN => ?_)
  refine g_aload h dL_roomOf_0 rfl ?_
  refine g_iconst (v := nI 0) h dL_roomOf_2 (by decide) ?_
  refine g_aload_n h dL_roomOf_3 rfl rfl ?_
  refine g_iload_n h dL_roomOf_4 rfl rfl ?_
  refine g_iload_n h dL_roomOf_5 rfl rfl ?_
  refine g_iload_n h dL_roomOf_6 rfl rfl ?_
  refine g_VW h lv_L_35_X10 lv_L_35_X10_p sh_0 (by decide) rfl hc (fitR hR (by decide) (by decide) (by decide)) rfl rfl (Nat.le_of_ble_eq_true rfl) dL_roomOf_7 (fun v w hv => ?_) (fun Ex w hv => ?_)
  · obtain ⟨x9, rfl⟩ := hP _ _ hv
    refine g_i2l h dL_roomOf_10 ?_
    refine g_last h dL_roomOf_11 ?_
    refine g_goto (tgt := 19) h dL_roomOf_12 rfl ?_
    refine g_iconst (v := nI 0) h dL_roomOf_19 (by decide) ?_
    exact g_iretP h hrt dL_roomOf_20 (by decide) ⟨_, _, hv, x9, rfl, rfl, rfl⟩
  · obtain rfl : Ex = ioob := List.mem_singleton.mp (hP _ _ hv)
    refine ⟨tableOf [], tableOf [], _, ioob, ht, (fun z hz => nomatch hz), by decide, by decide, env_w h tw_5_103, env_w h tc_ioob, fun q => ?_⟩
    refine g_astore h dL_roomOf_15 (by decide) rfl rfl ?_
    refine g_iconst (v := nI 1) h dL_roomOf_17 (by decide) ?_
    exact g_iretP h hrt dL_roomOf_18 (by decide) ⟨_, _, hv, rfl, rfl⟩
set_option maxHeartbeats 1000000 in
theorem c_L_take {E : EE} (x0 x1 : Int32) (u : Sto) {P : Res → Sto → Prop} (hP : ∀ o w, P o w → okO [ioob, ise] o) (hc : CtP E 9 1 yX10_take cX10_take 3 (some .int) [.ref (E.ad 0), .int x0, .int x1] u P) : CtW E 20 1 yL_take cL_take 5 (some .int) [(0, 10, 13, 24), (0, 10, 17, 42)] [.ref (E.ad 0), .int x0, .int x1, .ref (E.ad 197)] u (HP (cdL [ioob, ise]) P) := by
  refine ctw_of (by decide) (Nat.le_of_ble_eq_true rfl) (fun X h hR hrt ht hN => ?_)
  refine g_aload_n h dL_take_0 rfl rfl ?_
  refine g_iconst (v := nI 0) h dL_take_1 (by decide) ?_
  refine g_aload_n h dL_take_2 rfl rfl ?_
  refine g_iload_n h dL_take_3 rfl rfl ?_
  refine g_iload_n h dL_take_4 rfl rfl ?_
  refine g_VW h lv_L_39_X10 lv_L_39_X10_p sh_0 (by decide) rfl hc (fitR hR (by decide) (by decide) (by decide)) rfl rfl (Nat.le_of_ble_eq_true rfl) dL_take_5 (fun v w hv => ?_) (fun Ex w hv => ?_)
  · obtain ⟨x9, rfl⟩ := hP _ _ hv
    refine g_i2l h dL_take_8 ?_
    refine g_last h dL_take_9 ?_
    refine g_goto (tgt := 21) h dL_take_10 rfl ?_
    refine g_iconst (v := nI 0) h dL_take_21 (by decide) ?_
    exact g_iretP h hrt dL_take_22 (by decide) ⟨_, _, hv, x9, rfl, rfl, rfl⟩
  · have hm : Ex ∈ [ioob, ise] := hP _ _ hv
    simp only [List.mem_cons, List.not_mem_nil, or_false] at hm
    rcases hm with rfl | rfl
    · refine ⟨tableOf [], tableOf [(0, 10, 17, 42)], _, ioob, ht, (fun z hz => nomatch hz), by decide, by decide, env_w h tw_5_103, env_w h tc_ioob, fun q => ?_⟩
      refine g_astore h dL_take_13 (by decide) rfl rfl ?_
      refine g_iconst (v := nI 1) h dL_take_15 (by decide) ?_
      exact g_iretP h hrt dL_take_16 (by decide) ⟨_, _, hv, rfl, rfl⟩
    · refine ⟨tableOf [(0, 10, 13, 24)], tableOf [], _, ise, ht, (fun z hz => Or.inr (by
          simp only [tableOf, List.map, List.mem_cons, List.not_mem_nil, or_false] at hz
          rcases hz with rfl
          · exact ⟨by decide, _, env_w h tw_5_103, hN ise (by decide) ioob (by decide) (by decide)⟩)), by decide, by decide, env_w h tw_5_206, env_w h tc_ise, fun q => ?_⟩
      refine g_astore h dL_take_17 (by decide) rfl rfl ?_
      refine g_iconst (v := nI 2) h dL_take_19 (by decide) ?_
      exact g_iretP h hrt dL_take_20 (by decide) ⟨_, _, hv, rfl, rfl⟩
set_option maxHeartbeats 1000000 in
theorem c_L_leave {E : EE} (x0 : Int32) (u : Sto) {P : Res → Sto → Prop} (hP : ∀ o w, P o w → okO [ioob, ise] o) (hc : CtP E 9 1 yX10_leave cX10_leave 3 (some .int) [.ref (E.ad 0), .int x0] u P) : CtW E 20 1 yL_leave cL_leave 4 (some .int) [(0, 9, 12, 24), (0, 9, 15, 42)] [.ref (E.ad 0), .int x0, .ref (E.ad 197)] u (HP (cdL [ioob, ise]) P) := by
  refine ctw_of (by decide) (Nat.le_of_ble_eq_true rfl) (fun X h hR hrt ht hN => ?_)
  refine g_aload_n h dL_leave_0 rfl rfl ?_
  refine g_iconst (v := nI 0) h dL_leave_1 (by decide) ?_
  refine g_aload_n h dL_leave_2 rfl rfl ?_
  refine g_iload_n h dL_leave_3 rfl rfl ?_
  refine g_VW h lv_L_44_X10 lv_L_44_X10_p sh_0 (by decide) rfl hc (fitR hR (by decide) (by decide) (by decide)) rfl rfl (Nat.le_of_ble_eq_true rfl) dL_leave_4 (fun v w hv => ?_) (fun Ex w hv => ?_)
  · obtain ⟨x9, rfl⟩ := hP _ _ hv
    refine g_i2l h dL_leave_7 ?_
    refine g_last h dL_leave_8 ?_
    refine g_goto (tgt := 18) h dL_leave_9 rfl ?_
    refine g_iconst (v := nI 0) h dL_leave_18 (by decide) ?_
    exact g_iretP h hrt dL_leave_19 (by decide) ⟨_, _, hv, x9, rfl, rfl, rfl⟩
  · have hm : Ex ∈ [ioob, ise] := hP _ _ hv
    simp only [List.mem_cons, List.not_mem_nil, or_false] at hm
    rcases hm with rfl | rfl
    · refine ⟨tableOf [], tableOf [(0, 9, 15, 42)], _, ioob, ht, (fun z hz => nomatch hz), by decide, by decide, env_w h tw_5_103, env_w h tc_ioob, fun q => ?_⟩
      refine g_astore_n h dL_leave_12 rfl (by decide) rfl rfl ?_
      refine g_iconst (v := nI 1) h dL_leave_13 (by decide) ?_
      exact g_iretP h hrt dL_leave_14 (by decide) ⟨_, _, hv, rfl, rfl⟩
    · refine ⟨tableOf [(0, 9, 12, 24)], tableOf [], _, ise, ht, (fun z hz => Or.inr (by
          simp only [tableOf, List.map, List.mem_cons, List.not_mem_nil, or_false] at hz
          rcases hz with rfl
          · exact ⟨by decide, _, env_w h tw_5_103, hN ise (by decide) ioob (by decide) (by decide)⟩)), by decide, by decide, env_w h tw_5_206, env_w h tc_ise, fun q => ?_⟩
      refine g_astore_n h dL_leave_15 rfl (by decide) rfl rfl ?_
      refine g_iconst (v := nI 2) h dL_leave_16 (by decide) ?_
      exact g_iretP h hrt dL_leave_17 (by decide) ⟨_, _, hv, rfl, rfl⟩
set_option maxHeartbeats 1000000 in
theorem c_L_sublet {E : EE} (x0 x1 x2 : Int32) (u : Sto) {P : Res → Sto → Prop} (hP : ∀ o w, P o w → okO [ioob, iae, ise] o) (hc : CtP E 9 1 yX10_sublet cX10_sublet 4 (some .int) [.ref (E.ad 0), .int x0, .int x1, .int x2] u P) : CtW E 20 1 yL_sublet cL_sublet 6 (some .int) [(0, 12, 15, 24), (0, 12, 19, 13), (0, 12, 23, 42)] [.ref (E.ad 0), .int x0, .int x1, .int x2, .ref (E.ad 197)] u (HP (cdL [ioob, iae, ise]) P) := by
  refine ctw_of (by decide) (Nat.le_of_ble_eq_true rfl) (fun X h hR hrt ht hN => ?_)
  refine g_aload h dL_sublet_0 rfl ?_
  refine g_iconst (v := nI 0) h dL_sublet_2 (by decide) ?_
  refine g_aload_n h dL_sublet_3 rfl rfl ?_
  refine g_iload_n h dL_sublet_4 rfl rfl ?_
  refine g_iload_n h dL_sublet_5 rfl rfl ?_
  refine g_iload_n h dL_sublet_6 rfl rfl ?_
  refine g_VW h lv_L_48_X10 lv_L_48_X10_p sh_0 (by decide) rfl hc (fitR hR (by decide) (by decide) (by decide)) rfl rfl (Nat.le_of_ble_eq_true rfl) dL_sublet_7 (fun v w hv => ?_) (fun Ex w hv => ?_)
  · obtain ⟨x9, rfl⟩ := hP _ _ hv
    refine g_i2l h dL_sublet_10 ?_
    refine g_last h dL_sublet_11 ?_
    refine g_goto (tgt := 27) h dL_sublet_12 rfl ?_
    refine g_iconst (v := nI 0) h dL_sublet_27 (by decide) ?_
    exact g_iretP h hrt dL_sublet_28 (by decide) ⟨_, _, hv, x9, rfl, rfl, rfl⟩
  · have hm : Ex ∈ [ioob, iae, ise] := hP _ _ hv
    simp only [List.mem_cons, List.not_mem_nil, or_false] at hm
    rcases hm with rfl | rfl | rfl
    · refine ⟨tableOf [], tableOf [(0, 12, 19, 13), (0, 12, 23, 42)], _, ioob, ht, (fun z hz => nomatch hz), by decide, by decide, env_w h tw_5_103, env_w h tc_ioob, fun q => ?_⟩
      refine g_astore h dL_sublet_15 (by decide) rfl rfl ?_
      refine g_iconst (v := nI 1) h dL_sublet_17 (by decide) ?_
      exact g_iretP h hrt dL_sublet_18 (by decide) ⟨_, _, hv, rfl, rfl⟩
    · refine ⟨tableOf [(0, 12, 15, 24)], tableOf [(0, 12, 23, 42)], _, iae, ht, (fun z hz => Or.inr (by
          simp only [tableOf, List.map, List.mem_cons, List.not_mem_nil, or_false] at hz
          rcases hz with rfl
          · exact ⟨by decide, _, env_w h tw_5_103, hN iae (by decide) ioob (by decide) (by decide)⟩)), by decide, by decide, env_w h tw_3_141, env_w h tc_iae, fun q => ?_⟩
      refine g_astore h dL_sublet_19 (by decide) rfl rfl ?_
      refine g_iconst (v := nI 2) h dL_sublet_21 (by decide) ?_
      exact g_iretP h hrt dL_sublet_22 (by decide) ⟨_, _, hv, rfl, rfl⟩
    · refine ⟨tableOf [(0, 12, 15, 24), (0, 12, 19, 13)], tableOf [], _, ise, ht, (fun z hz => Or.inr (by
          simp only [tableOf, List.map, List.mem_cons, List.not_mem_nil, or_false] at hz
          rcases hz with rfl | rfl
          · exact ⟨by decide, _, env_w h tw_5_103, hN ise (by decide) ioob (by decide) (by decide)⟩
          · exact ⟨by decide, _, env_w h tw_3_141, hN ise (by decide) iae (by decide) (by decide)⟩)), by decide, by decide, env_w h tw_5_206, env_w h tc_ise, fun q => ?_⟩
      refine g_astore h dL_sublet_23 (by decide) rfl rfl ?_
      refine g_iconst (v := nI 3) h dL_sublet_25 (by decide) ?_
      exact g_iretP h hrt dL_sublet_26 (by decide) ⟨_, _, hv, rfl, rfl⟩
set_option maxHeartbeats 1000000 in
theorem c_L_ends {E : EE} (x0 : Int32) (u : Sto) {P : Res → Sto → Prop} (hP : ∀ o w, P o w → okO [ioob, ise] o) (hc : CtP E 9 1 yX10_ends cX10_ends 3 (some .int) [.ref (E.ad 0), .int x0] u P) : CtW E 20 1 yL_ends cL_ends 4 (some .int) [(0, 9, 12, 24), (0, 9, 15, 42)] [.ref (E.ad 0), .int x0, .ref (E.ad 197)] u (HP (cdL [ioob, ise]) P) := by
  refine ctw_of (by decide) (Nat.le_of_ble_eq_true rfl) (fun X h hR hrt ht hN => ?_)
  refine g_aload_n h dL_ends_0 rfl rfl ?_
  refine g_iconst (v := nI 0) h dL_ends_1 (by decide) ?_
  refine g_aload_n h dL_ends_2 rfl rfl ?_
  refine g_iload_n h dL_ends_3 rfl rfl ?_
  refine g_VW h lv_L_51_X10 lv_L_51_X10_p sh_0 (by decide) rfl hc (fitR hR (by decide) (by decide) (by decide)) rfl rfl (Nat.le_of_ble_eq_true rfl) dL_ends_4 (fun v w hv => ?_) (fun Ex w hv => ?_)
  · obtain ⟨x9, rfl⟩ := hP _ _ hv
    refine g_i2l h dL_ends_7 ?_
    refine g_last h dL_ends_8 ?_
    refine g_goto (tgt := 18) h dL_ends_9 rfl ?_
    refine g_iconst (v := nI 0) h dL_ends_18 (by decide) ?_
    exact g_iretP h hrt dL_ends_19 (by decide) ⟨_, _, hv, x9, rfl, rfl, rfl⟩
  · have hm : Ex ∈ [ioob, ise] := hP _ _ hv
    simp only [List.mem_cons, List.not_mem_nil, or_false] at hm
    rcases hm with rfl | rfl
    · refine ⟨tableOf [], tableOf [(0, 9, 15, 42)], _, ioob, ht, (fun z hz => nomatch hz), by decide, by decide, env_w h tw_5_103, env_w h tc_ioob, fun q => ?_⟩
      refine g_astore_n h dL_ends_12 rfl (by decide) rfl rfl ?_
      refine g_iconst (v := nI 1) h dL_ends_13 (by decide) ?_
      exact g_iretP h hrt dL_ends_14 (by decide) ⟨_, _, hv, rfl, rfl⟩
    · refine ⟨tableOf [(0, 9, 12, 24)], tableOf [], _, ise, ht, (fun z hz => Or.inr (by
          simp only [tableOf, List.map, List.mem_cons, List.not_mem_nil, or_false] at hz
          rcases hz with rfl
          · exact ⟨by decide, _, env_w h tw_5_103, hN ise (by decide) ioob (by decide) (by decide)⟩)), by decide, by decide, env_w h tw_5_206, env_w h tc_ise, fun q => ?_⟩
      refine g_astore_n h dL_ends_15 rfl (by decide) rfl rfl ?_
      refine g_iconst (v := nI 2) h dL_ends_16 (by decide) ?_
      exact g_iretP h hrt dL_ends_17 (by decide) ⟨_, _, hv, rfl, rfl⟩
set_option maxHeartbeats 1000000 in
theorem c_L_evict {E : EE} (x0 : Int32) (u : Sto) {P : Res → Sto → Prop} (hP : ∀ o w, P o w → okO [ioob, ise] o) (hc : CtP E 9 1 yX10_evict cX10_evict 2 (some .int) [.ref (E.ad 0), .int x0] u P) : CtW E 20 1 yL_evict cL_evict 4 (some .int) [(0, 9, 12, 24), (0, 9, 15, 42)] [.ref (E.ad 0), .int x0, .ref (E.ad 197)] u (HP (cdL [ioob, ise]) P) := by
  refine ctw_of (by decide) (Nat.le_of_ble_eq_true rfl) (fun X h hR hrt ht hN => ?_)
  refine g_aload_n h dL_evict_0 rfl rfl ?_
  refine g_iconst (v := nI 0) h dL_evict_1 (by decide) ?_
  refine g_aload_n h dL_evict_2 rfl rfl ?_
  refine g_iload_n h dL_evict_3 rfl rfl ?_
  refine g_VW h lv_L_54_X10 lv_L_54_X10_p sh_0 (by decide) rfl hc (fitR hR (by decide) (by decide) (by decide)) rfl rfl (Nat.le_of_ble_eq_true rfl) dL_evict_4 (fun v w hv => ?_) (fun Ex w hv => ?_)
  · obtain ⟨x9, rfl⟩ := hP _ _ hv
    refine g_i2l h dL_evict_7 ?_
    refine g_last h dL_evict_8 ?_
    refine g_goto (tgt := 18) h dL_evict_9 rfl ?_
    refine g_iconst (v := nI 0) h dL_evict_18 (by decide) ?_
    exact g_iretP h hrt dL_evict_19 (by decide) ⟨_, _, hv, x9, rfl, rfl, rfl⟩
  · have hm : Ex ∈ [ioob, ise] := hP _ _ hv
    simp only [List.mem_cons, List.not_mem_nil, or_false] at hm
    rcases hm with rfl | rfl
    · refine ⟨tableOf [], tableOf [(0, 9, 15, 42)], _, ioob, ht, (fun z hz => nomatch hz), by decide, by decide, env_w h tw_5_103, env_w h tc_ioob, fun q => ?_⟩
      refine g_astore_n h dL_evict_12 rfl (by decide) rfl rfl ?_
      refine g_iconst (v := nI 1) h dL_evict_13 (by decide) ?_
      exact g_iretP h hrt dL_evict_14 (by decide) ⟨_, _, hv, rfl, rfl⟩
    · refine ⟨tableOf [(0, 9, 12, 24)], tableOf [], _, ise, ht, (fun z hz => Or.inr (by
          simp only [tableOf, List.map, List.mem_cons, List.not_mem_nil, or_false] at hz
          rcases hz with rfl
          · exact ⟨by decide, _, env_w h tw_5_103, hN ise (by decide) ioob (by decide) (by decide)⟩)), by decide, by decide, env_w h tw_5_206, env_w h tc_ise, fun q => ?_⟩
      refine g_astore_n h dL_evict_15 rfl (by decide) rfl rfl ?_
      refine g_iconst (v := nI 2) h dL_evict_16 (by decide) ?_
      exact g_iretP h hrt dL_evict_17 (by decide) ⟨_, _, hv, rfl, rfl⟩
set_option maxHeartbeats 1000000 in
theorem c_L_carry {E : EE} (x0 x1 x2 x3 : Int32) (u : Sto) {P : Res → Sto → Prop} (hP : ∀ o w, P o w → okO [ioob, iae, ise] o) (hc : CtP E 9 1 yX10_carry cX10_carry 7 (some .int) [.ref (E.ad 0), .int x0, .int x1, .int x2, .int x3] u P) : CtW E 20 1 yL_carry cL_carry 7 (some .int) [(0, 14, 17, 24), (0, 14, 21, 13), (0, 14, 25, 42)] [.ref (E.ad 0), .int x0, .int x1, .int x2, .int x3, .ref (E.ad 197)] u (HP (cdL [ioob, iae, ise]) P) := by
  refine ctw_of (by decide) (Nat.le_of_ble_eq_true rfl) (fun X h hR hrt ht hN => ?_)
  refine g_aload h dL_carry_0 rfl ?_
  refine g_iconst (v := nI 0) h dL_carry_2 (by decide) ?_
  refine g_aload_n h dL_carry_3 rfl rfl ?_
  refine g_iload_n h dL_carry_4 rfl rfl ?_
  refine g_iload_n h dL_carry_5 rfl rfl ?_
  refine g_iload_n h dL_carry_6 rfl rfl ?_
  refine g_iload h dL_carry_7 rfl ?_
  refine g_VW h lv_L_57_X10 lv_L_57_X10_p sh_0 (by decide) rfl hc (fitR hR (by decide) (by decide) (by decide)) rfl rfl (Nat.le_of_ble_eq_true rfl) dL_carry_9 (fun v w hv => ?_) (fun Ex w hv => ?_)
  · obtain ⟨x9, rfl⟩ := hP _ _ hv
    refine g_i2l h dL_carry_12 ?_
    refine g_last h dL_carry_13 ?_
    refine g_goto (tgt := 29) h dL_carry_14 rfl ?_
    refine g_iconst (v := nI 0) h dL_carry_29 (by decide) ?_
    exact g_iretP h hrt dL_carry_30 (by decide) ⟨_, _, hv, x9, rfl, rfl, rfl⟩
  · have hm : Ex ∈ [ioob, iae, ise] := hP _ _ hv
    simp only [List.mem_cons, List.not_mem_nil, or_false] at hm
    rcases hm with rfl | rfl | rfl
    · refine ⟨tableOf [], tableOf [(0, 14, 21, 13), (0, 14, 25, 42)], _, ioob, ht, (fun z hz => nomatch hz), by decide, by decide, env_w h tw_5_103, env_w h tc_ioob, fun q => ?_⟩
      refine g_astore h dL_carry_17 (by decide) rfl rfl ?_
      refine g_iconst (v := nI 1) h dL_carry_19 (by decide) ?_
      exact g_iretP h hrt dL_carry_20 (by decide) ⟨_, _, hv, rfl, rfl⟩
    · refine ⟨tableOf [(0, 14, 17, 24)], tableOf [(0, 14, 25, 42)], _, iae, ht, (fun z hz => Or.inr (by
          simp only [tableOf, List.map, List.mem_cons, List.not_mem_nil, or_false] at hz
          rcases hz with rfl
          · exact ⟨by decide, _, env_w h tw_5_103, hN iae (by decide) ioob (by decide) (by decide)⟩)), by decide, by decide, env_w h tw_3_141, env_w h tc_iae, fun q => ?_⟩
      refine g_astore h dL_carry_21 (by decide) rfl rfl ?_
      refine g_iconst (v := nI 2) h dL_carry_23 (by decide) ?_
      exact g_iretP h hrt dL_carry_24 (by decide) ⟨_, _, hv, rfl, rfl⟩
    · refine ⟨tableOf [(0, 14, 17, 24), (0, 14, 21, 13)], tableOf [], _, ise, ht, (fun z hz => Or.inr (by
          simp only [tableOf, List.map, List.mem_cons, List.not_mem_nil, or_false] at hz
          rcases hz with rfl | rfl
          · exact ⟨by decide, _, env_w h tw_5_103, hN ise (by decide) ioob (by decide) (by decide)⟩
          · exact ⟨by decide, _, env_w h tw_3_141, hN ise (by decide) iae (by decide) (by decide)⟩)), by decide, by decide, env_w h tw_5_206, env_w h tc_ise, fun q => ?_⟩
      refine g_astore h dL_carry_25 (by decide) rfl rfl ?_
      refine g_iconst (v := nI 3) h dL_carry_27 (by decide) ?_
      exact g_iretP h hrt dL_carry_28 (by decide) ⟨_, _, hv, rfl, rfl⟩
set_option maxHeartbeats 1000000 in
theorem c_L_swap {E : EE} (x0 x1 : Int32) (u : Sto) {P : Res → Sto → Prop} (hP : ∀ o w, P o w → okO [ioob, iae, ise] o) (hc : CtP E 9 1 yX10_swap cX10_swap 5 (some .int) [.ref (E.ad 0), .int x0, .int x1] u P) : CtW E 20 1 yL_swap cL_swap 5 (some .int) [(0, 10, 13, 24), (0, 10, 17, 13), (0, 10, 21, 42)] [.ref (E.ad 0), .int x0, .int x1, .ref (E.ad 197)] u (HP (cdL [ioob, iae, ise]) P) := by
  refine ctw_of (by decide) (Nat.le_of_ble_eq_true rfl) (fun X h hR hrt ht hN => ?_)
  refine g_aload_n h dL_swap_0 rfl rfl ?_
  refine g_iconst (v := nI 0) h dL_swap_1 (by decide) ?_
  refine g_aload_n h dL_swap_2 rfl rfl ?_
  refine g_iload_n h dL_swap_3 rfl rfl ?_
  refine g_iload_n h dL_swap_4 rfl rfl ?_
  refine g_VW h lv_L_61_X10 lv_L_61_X10_p sh_0 (by decide) rfl hc (fitR hR (by decide) (by decide) (by decide)) rfl rfl (Nat.le_of_ble_eq_true rfl) dL_swap_5 (fun v w hv => ?_) (fun Ex w hv => ?_)
  · obtain ⟨x9, rfl⟩ := hP _ _ hv
    refine g_i2l h dL_swap_8 ?_
    refine g_last h dL_swap_9 ?_
    refine g_goto (tgt := 25) h dL_swap_10 rfl ?_
    refine g_iconst (v := nI 0) h dL_swap_25 (by decide) ?_
    exact g_iretP h hrt dL_swap_26 (by decide) ⟨_, _, hv, x9, rfl, rfl, rfl⟩
  · have hm : Ex ∈ [ioob, iae, ise] := hP _ _ hv
    simp only [List.mem_cons, List.not_mem_nil, or_false] at hm
    rcases hm with rfl | rfl | rfl
    · refine ⟨tableOf [], tableOf [(0, 10, 17, 13), (0, 10, 21, 42)], _, ioob, ht, (fun z hz => nomatch hz), by decide, by decide, env_w h tw_5_103, env_w h tc_ioob, fun q => ?_⟩
      refine g_astore h dL_swap_13 (by decide) rfl rfl ?_
      refine g_iconst (v := nI 1) h dL_swap_15 (by decide) ?_
      exact g_iretP h hrt dL_swap_16 (by decide) ⟨_, _, hv, rfl, rfl⟩
    · refine ⟨tableOf [(0, 10, 13, 24)], tableOf [(0, 10, 21, 42)], _, iae, ht, (fun z hz => Or.inr (by
          simp only [tableOf, List.map, List.mem_cons, List.not_mem_nil, or_false] at hz
          rcases hz with rfl
          · exact ⟨by decide, _, env_w h tw_5_103, hN iae (by decide) ioob (by decide) (by decide)⟩)), by decide, by decide, env_w h tw_3_141, env_w h tc_iae, fun q => ?_⟩
      refine g_astore h dL_swap_17 (by decide) rfl rfl ?_
      refine g_iconst (v := nI 2) h dL_swap_19 (by decide) ?_
      exact g_iretP h hrt dL_swap_20 (by decide) ⟨_, _, hv, rfl, rfl⟩
    · refine ⟨tableOf [(0, 10, 13, 24), (0, 10, 17, 13)], tableOf [], _, ise, ht, (fun z hz => Or.inr (by
          simp only [tableOf, List.map, List.mem_cons, List.not_mem_nil, or_false] at hz
          rcases hz with rfl | rfl
          · exact ⟨by decide, _, env_w h tw_5_103, hN ise (by decide) ioob (by decide) (by decide)⟩
          · exact ⟨by decide, _, env_w h tw_3_141, hN ise (by decide) iae (by decide) (by decide)⟩)), by decide, by decide, env_w h tw_5_206, env_w h tc_ise, fun q => ?_⟩
      refine g_astore h dL_swap_21 (by decide) rfl rfl ?_
      refine g_iconst (v := nI 3) h dL_swap_23 (by decide) ?_
      exact g_iretP h hrt dL_swap_24 (by decide) ⟨_, _, hv, rfl, rfl⟩
set_option maxHeartbeats 1000000 in
theorem c_L_ticks {E : EE} (x0 : Int32) (u : Sto) {P : Res → Sto → Prop} (hP : ∀ o w, P o w → okO [iae] o) (hc : CtP E 9 1 yX10_ticks cX10_ticks 4 (some .int) [.ref (E.ad 0), .int x0] u P) : CtW E 20 1 yL_ticks cL_ticks 4 (some .int) [(0, 9, 12, 13)] [.ref (E.ad 0), .int x0, .ref (E.ad 197)] u (HP (cdL [iae]) P) := by
  refine ctw_of (by decide) (Nat.le_of_ble_eq_true rfl) (fun X h hR hrt ht hN => ?_)
  refine g_aload_n h dL_ticks_0 rfl rfl ?_
  refine g_iconst (v := nI 0) h dL_ticks_1 (by decide) ?_
  refine g_aload_n h dL_ticks_2 rfl rfl ?_
  refine g_iload_n h dL_ticks_3 rfl rfl ?_
  refine g_VW h lv_L_64_X10 lv_L_64_X10_p sh_0 (by decide) rfl hc (fitR hR (by decide) (by decide) (by decide)) rfl rfl (Nat.le_of_ble_eq_true rfl) dL_ticks_4 (fun v w hv => ?_) (fun Ex w hv => ?_)
  · obtain ⟨x9, rfl⟩ := hP _ _ hv
    refine g_i2l h dL_ticks_7 ?_
    refine g_last h dL_ticks_8 ?_
    refine g_goto (tgt := 15) h dL_ticks_9 rfl ?_
    refine g_iconst (v := nI 0) h dL_ticks_15 (by decide) ?_
    exact g_iretP h hrt dL_ticks_16 (by decide) ⟨_, _, hv, x9, rfl, rfl, rfl⟩
  · obtain rfl : Ex = iae := List.mem_singleton.mp (hP _ _ hv)
    refine ⟨tableOf [], tableOf [], _, iae, ht, (fun z hz => nomatch hz), by decide, by decide, env_w h tw_3_141, env_w h tc_iae, fun q => ?_⟩
    refine g_astore_n h dL_ticks_12 rfl (by decide) rfl rfl ?_
    refine g_iconst (v := nI 1) h dL_ticks_13 (by decide) ?_
    exact g_iretP h hrt dL_ticks_14 (by decide) ⟨_, _, hv, rfl, rfl⟩
set_option maxHeartbeats 1000000 in
theorem c_L_neighbours {E : EE} (x0 x1 x2 : Int32) (u : Sto) {P : Res → Sto → Prop} (hP : ∀ o w, P o w → okO [ioob] o) (hc : CtP E 9 1 yX10_neighbours cX10_neighbours 4 (some .int) [.ref (E.ad 0), .int x0, .int x1, .int x2] u P) : CtW E 20 1 yL_neighbours cL_neighbours 6 (some .int) [(0, 12, 15, 24)] [.ref (E.ad 0), .int x0, .int x1, .int x2, .ref (E.ad 197)] u (HP (cdL [ioob]) P) := by
  refine ctw_of (by decide) (Nat.le_of_ble_eq_true rfl) (fun X h hR hrt ht hN => ?_)
  refine g_aload h dL_neighbours_0 rfl ?_
  refine g_iconst (v := nI 0) h dL_neighbours_2 (by decide) ?_
  refine g_aload_n h dL_neighbours_3 rfl rfl ?_
  refine g_iload_n h dL_neighbours_4 rfl rfl ?_
  refine g_iload_n h dL_neighbours_5 rfl rfl ?_
  refine g_iload_n h dL_neighbours_6 rfl rfl ?_
  refine g_VW h lv_L_67_X10 lv_L_67_X10_p sh_0 (by decide) rfl hc (fitR hR (by decide) (by decide) (by decide)) rfl rfl (Nat.le_of_ble_eq_true rfl) dL_neighbours_7 (fun v w hv => ?_) (fun Ex w hv => ?_)
  · obtain ⟨x9, rfl⟩ := hP _ _ hv
    refine g_i2l h dL_neighbours_10 ?_
    refine g_last h dL_neighbours_11 ?_
    refine g_goto (tgt := 19) h dL_neighbours_12 rfl ?_
    refine g_iconst (v := nI 0) h dL_neighbours_19 (by decide) ?_
    exact g_iretP h hrt dL_neighbours_20 (by decide) ⟨_, _, hv, x9, rfl, rfl, rfl⟩
  · obtain rfl : Ex = ioob := List.mem_singleton.mp (hP _ _ hv)
    refine ⟨tableOf [], tableOf [], _, ioob, ht, (fun z hz => nomatch hz), by decide, by decide, env_w h tw_5_103, env_w h tc_ioob, fun q => ?_⟩
    refine g_astore h dL_neighbours_15 (by decide) rfl rfl ?_
    refine g_iconst (v := nI 1) h dL_neighbours_17 (by decide) ?_
    exact g_iretP h hrt dL_neighbours_18 (by decide) ⟨_, _, hv, rfl, rfl⟩
set_option maxHeartbeats 1000000 in
theorem c_L_run {E : EE} (x0 x1 : Int32) (u : Sto) {P : Res → Sto → Prop} (hP : ∀ o w, P o w → okO [ioob] o) (hc : CtP E 9 1 yX10_run cX10_run 3 (some .int) [.ref (E.ad 0), .int x0, .int x1] u P) : CtW E 20 1 yL_run cL_run 5 (some .int) [(0, 10, 13, 24)] [.ref (E.ad 0), .int x0, .int x1, .ref (E.ad 197)] u (HP (cdL [ioob]) P) := by
  refine ctw_of (by decide) (Nat.le_of_ble_eq_true rfl) (fun X h hR hrt ht hN => ?_)
  refine g_aload_n h dL_run_0 rfl rfl ?_
  refine g_iconst (v := nI 0) h dL_run_1 (by decide) ?_
  refine g_aload_n h dL_run_2 rfl rfl ?_
  refine g_iload_n h dL_run_3 rfl rfl ?_
  refine g_iload_n h dL_run_4 rfl rfl ?_
  refine g_VW h lv_L_70_X10 lv_L_70_X10_p sh_0 (by decide) rfl hc (fitR hR (by decide) (by decide) (by decide)) rfl rfl (Nat.le_of_ble_eq_true rfl) dL_run_5 (fun v w hv => ?_) (fun Ex w hv => ?_)
  · obtain ⟨x9, rfl⟩ := hP _ _ hv
    refine g_i2l h dL_run_8 ?_
    refine g_last h dL_run_9 ?_
    refine g_goto (tgt := 17) h dL_run_10 rfl ?_
    refine g_iconst (v := nI 0) h dL_run_17 (by decide) ?_
    exact g_iretP h hrt dL_run_18 (by decide) ⟨_, _, hv, x9, rfl, rfl, rfl⟩
  · obtain rfl : Ex = ioob := List.mem_singleton.mp (hP _ _ hv)
    refine ⟨tableOf [], tableOf [], _, ioob, ht, (fun z hz => nomatch hz), by decide, by decide, env_w h tw_5_103, env_w h tc_ioob, fun q => ?_⟩
    refine g_astore h dL_run_13 (by decide) rfl rfl ?_
    refine g_iconst (v := nI 1) h dL_run_15 (by decide) ?_
    exact g_iretP h hrt dL_run_16 (by decide) ⟨_, _, hv, rfl, rfl⟩
set_option maxHeartbeats 1000000 in
theorem c_L_wedding {E : EE} (x0 x1 : Int32) (u : Sto) {P : Res → Sto → Prop} (hP : ∀ o w, P o w → okO [ioob, iae] o) (hc : CtP E 9 1 yX10_wedding cX10_wedding 3 (some .int) [.ref (E.ad 0), .int x0, .int x1] u P) : CtW E 20 1 yL_wedding cL_wedding 5 (some .int) [(0, 10, 13, 24), (0, 10, 17, 13)] [.ref (E.ad 0), .int x0, .int x1, .ref (E.ad 197)] u (HP (cdL [ioob, iae]) P) := by
  refine ctw_of (by decide) (Nat.le_of_ble_eq_true rfl) (fun X h hR hrt ht hN => ?_)
  refine g_aload_n h dL_wedding_0 rfl rfl ?_
  refine g_iconst (v := nI 0) h dL_wedding_1 (by decide) ?_
  refine g_aload_n h dL_wedding_2 rfl rfl ?_
  refine g_iload_n h dL_wedding_3 rfl rfl ?_
  refine g_iload_n h dL_wedding_4 rfl rfl ?_
  refine g_VW h lv_L_74_X10 lv_L_74_X10_p sh_0 (by decide) rfl hc (fitR hR (by decide) (by decide) (by decide)) rfl rfl (Nat.le_of_ble_eq_true rfl) dL_wedding_5 (fun v w hv => ?_) (fun Ex w hv => ?_)
  · obtain ⟨x9, rfl⟩ := hP _ _ hv
    refine g_i2l h dL_wedding_8 ?_
    refine g_last h dL_wedding_9 ?_
    refine g_goto (tgt := 21) h dL_wedding_10 rfl ?_
    refine g_iconst (v := nI 0) h dL_wedding_21 (by decide) ?_
    exact g_iretP h hrt dL_wedding_22 (by decide) ⟨_, _, hv, x9, rfl, rfl, rfl⟩
  · have hm : Ex ∈ [ioob, iae] := hP _ _ hv
    simp only [List.mem_cons, List.not_mem_nil, or_false] at hm
    rcases hm with rfl | rfl
    · refine ⟨tableOf [], tableOf [(0, 10, 17, 13)], _, ioob, ht, (fun z hz => nomatch hz), by decide, by decide, env_w h tw_5_103, env_w h tc_ioob, fun q => ?_⟩
      refine g_astore h dL_wedding_13 (by decide) rfl rfl ?_
      refine g_iconst (v := nI 1) h dL_wedding_15 (by decide) ?_
      exact g_iretP h hrt dL_wedding_16 (by decide) ⟨_, _, hv, rfl, rfl⟩
    · refine ⟨tableOf [(0, 10, 13, 24)], tableOf [], _, iae, ht, (fun z hz => Or.inr (by
          simp only [tableOf, List.map, List.mem_cons, List.not_mem_nil, or_false] at hz
          rcases hz with rfl
          · exact ⟨by decide, _, env_w h tw_5_103, hN iae (by decide) ioob (by decide) (by decide)⟩)), by decide, by decide, env_w h tw_3_141, env_w h tc_iae, fun q => ?_⟩
      refine g_astore h dL_wedding_17 (by decide) rfl rfl ?_
      refine g_iconst (v := nI 2) h dL_wedding_19 (by decide) ?_
      exact g_iretP h hrt dL_wedding_20 (by decide) ⟨_, _, hv, rfl, rfl⟩
set_option maxHeartbeats 1000000 in
theorem c_L_cheap {E : EE} (x0 x1 x2 : Int32) (u : Sto) {P : Res → Sto → Prop} (hP : ∀ o w, P o w → okO [ioob, iae] o) (hc : CtP E 9 1 yX10_cheap cX10_cheap 4 (some .int) [.ref (E.ad 0), .int x0, .int x1, .int x2] u P) : CtW E 20 1 yL_cheap cL_cheap 6 (some .int) [(0, 12, 15, 24), (0, 12, 19, 13)] [.ref (E.ad 0), .int x0, .int x1, .int x2, .ref (E.ad 197)] u (HP (cdL [ioob, iae]) P) := by
  refine ctw_of (by decide) (Nat.le_of_ble_eq_true rfl) (fun X h hR hrt ht hN => ?_)
  refine g_aload h dL_cheap_0 rfl ?_
  refine g_iconst (v := nI 0) h dL_cheap_2 (by decide) ?_
  refine g_aload_n h dL_cheap_3 rfl rfl ?_
  refine g_iload_n h dL_cheap_4 rfl rfl ?_
  refine g_iload_n h dL_cheap_5 rfl rfl ?_
  refine g_iload_n h dL_cheap_6 rfl rfl ?_
  refine g_VW h lv_L_77_X10 lv_L_77_X10_p sh_0 (by decide) rfl hc (fitR hR (by decide) (by decide) (by decide)) rfl rfl (Nat.le_of_ble_eq_true rfl) dL_cheap_7 (fun v w hv => ?_) (fun Ex w hv => ?_)
  · obtain ⟨x9, rfl⟩ := hP _ _ hv
    refine g_i2l h dL_cheap_10 ?_
    refine g_last h dL_cheap_11 ?_
    refine g_goto (tgt := 23) h dL_cheap_12 rfl ?_
    refine g_iconst (v := nI 0) h dL_cheap_23 (by decide) ?_
    exact g_iretP h hrt dL_cheap_24 (by decide) ⟨_, _, hv, x9, rfl, rfl, rfl⟩
  · have hm : Ex ∈ [ioob, iae] := hP _ _ hv
    simp only [List.mem_cons, List.not_mem_nil, or_false] at hm
    rcases hm with rfl | rfl
    · refine ⟨tableOf [], tableOf [(0, 12, 19, 13)], _, ioob, ht, (fun z hz => nomatch hz), by decide, by decide, env_w h tw_5_103, env_w h tc_ioob, fun q => ?_⟩
      refine g_astore h dL_cheap_15 (by decide) rfl rfl ?_
      refine g_iconst (v := nI 1) h dL_cheap_17 (by decide) ?_
      exact g_iretP h hrt dL_cheap_18 (by decide) ⟨_, _, hv, rfl, rfl⟩
    · refine ⟨tableOf [(0, 12, 15, 24)], tableOf [], _, iae, ht, (fun z hz => Or.inr (by
          simp only [tableOf, List.map, List.mem_cons, List.not_mem_nil, or_false] at hz
          rcases hz with rfl
          · exact ⟨by decide, _, env_w h tw_5_103, hN iae (by decide) ioob (by decide) (by decide)⟩)), by decide, by decide, env_w h tw_3_141, env_w h tc_iae, fun q => ?_⟩
      refine g_astore h dL_cheap_19 (by decide) rfl rfl ?_
      refine g_iconst (v := nI 2) h dL_cheap_21 (by decide) ?_
      exact g_iretP h hrt dL_cheap_22 (by decide) ⟨_, _, hv, rfl, rfl⟩
set_option maxHeartbeats 1000000 in
theorem c_L_given {E : EE} (x0 : Int32) (u : Sto) {P : Res → Sto → Prop} (hP : ∀ o w, P o w → okO [ioob] o) (hc : CtP E 9 1 yX10_given cX10_given 2 (some .int) [.ref (E.ad 0), .int x0] u P) : CtW E 20 1 yL_given cL_given 4 (some .int) [(0, 9, 12, 24)] [.ref (E.ad 0), .int x0, .ref (E.ad 197)] u (HP (cdL [ioob]) P) := by
  refine ctw_of (by decide) (Nat.le_of_ble_eq_true rfl) (fun X h hR hrt ht hN => ?_)
  refine g_aload_n h dL_given_0 rfl rfl ?_
  refine g_iconst (v := nI 0) h dL_given_1 (by decide) ?_
  refine g_aload_n h dL_given_2 rfl rfl ?_
  refine g_iload_n h dL_given_3 rfl rfl ?_
  refine g_VW h lv_L_80_X10 lv_L_80_X10_p sh_0 (by decide) rfl hc (fitR hR (by decide) (by decide) (by decide)) rfl rfl (Nat.le_of_ble_eq_true rfl) dL_given_4 (fun v w hv => ?_) (fun Ex w hv => ?_)
  · obtain ⟨x9, rfl⟩ := hP _ _ hv
    refine g_i2l h dL_given_7 ?_
    refine g_last h dL_given_8 ?_
    refine g_goto (tgt := 15) h dL_given_9 rfl ?_
    refine g_iconst (v := nI 0) h dL_given_15 (by decide) ?_
    exact g_iretP h hrt dL_given_16 (by decide) ⟨_, _, hv, x9, rfl, rfl, rfl⟩
  · obtain rfl : Ex = ioob := List.mem_singleton.mp (hP _ _ hv)
    refine ⟨tableOf [], tableOf [], _, ioob, ht, (fun z hz => nomatch hz), by decide, by decide, env_w h tw_5_103, env_w h tc_ioob, fun q => ?_⟩
    refine g_astore_n h dL_given_12 rfl (by decide) rfl rfl ?_
    refine g_iconst (v := nI 1) h dL_given_13 (by decide) ?_
    exact g_iretP h hrt dL_given_14 (by decide) ⟨_, _, hv, rfl, rfl⟩
set_option maxHeartbeats 1000000 in
theorem c_L_envies {E : EE} (x0 : Int32) (u : Sto) {P : Res → Sto → Prop} (hP : ∀ o w, P o w → okO [ioob] o) (hc : CtP E 9 1 yX10_envies cX10_envies 2 (some .int) [.ref (E.ad 0), .int x0] u P) : CtW E 20 1 yL_envies cL_envies 4 (some .int) [(0, 9, 12, 24)] [.ref (E.ad 0), .int x0, .ref (E.ad 197)] u (HP (cdL [ioob]) P) := by
  refine ctw_of (by decide) (Nat.le_of_ble_eq_true rfl) (fun X h hR hrt ht hN => ?_)
  refine g_aload_n h dL_envies_0 rfl rfl ?_
  refine g_iconst (v := nI 0) h dL_envies_1 (by decide) ?_
  refine g_aload_n h dL_envies_2 rfl rfl ?_
  refine g_iload_n h dL_envies_3 rfl rfl ?_
  refine g_VW h lv_L_83_X10 lv_L_83_X10_p sh_0 (by decide) rfl hc (fitR hR (by decide) (by decide) (by decide)) rfl rfl (Nat.le_of_ble_eq_true rfl) dL_envies_4 (fun v w hv => ?_) (fun Ex w hv => ?_)
  · obtain ⟨x9, rfl⟩ := hP _ _ hv
    refine g_i2l h dL_envies_7 ?_
    refine g_last h dL_envies_8 ?_
    refine g_goto (tgt := 15) h dL_envies_9 rfl ?_
    refine g_iconst (v := nI 0) h dL_envies_15 (by decide) ?_
    exact g_iretP h hrt dL_envies_16 (by decide) ⟨_, _, hv, x9, rfl, rfl, rfl⟩
  · obtain rfl : Ex = ioob := List.mem_singleton.mp (hP _ _ hv)
    refine ⟨tableOf [], tableOf [], _, ioob, ht, (fun z hz => nomatch hz), by decide, by decide, env_w h tw_5_103, env_w h tc_ioob, fun q => ?_⟩
    refine g_astore_n h dL_envies_12 rfl (by decide) rfl rfl ?_
    refine g_iconst (v := nI 1) h dL_envies_13 (by decide) ?_
    exact g_iretP h hrt dL_envies_14 (by decide) ⟨_, _, hv, rfl, rfl⟩
set_option maxHeartbeats 1000000 in
theorem c_L_fair {E : EE} (x0 x1 x2 : Int32) (u : Sto) {P : Res → Sto → Prop} (hP : ∀ o w, P o w → okO [iae] o) (hc : CtP E 9 1 yX10_fair cX10_fair 5 (some .int) [.ref (E.ad 0), .int x0, .int x1, .int x2] u P) : CtW E 20 1 yL_fair cL_fair 6 (some .int) [(0, 12, 15, 13)] [.ref (E.ad 0), .int x0, .int x1, .int x2, .ref (E.ad 197)] u (HP (cdL [iae]) P) := by
  refine ctw_of (by decide) (Nat.le_of_ble_eq_true rfl) (fun X h hR hrt ht hN => ?_)
  refine g_aload h dL_fair_0 rfl ?_
  refine g_iconst (v := nI 0) h dL_fair_2 (by decide) ?_
  refine g_aload_n h dL_fair_3 rfl rfl ?_
  refine g_iload_n h dL_fair_4 rfl rfl ?_
  refine g_iload_n h dL_fair_5 rfl rfl ?_
  refine g_iload_n h dL_fair_6 rfl rfl ?_
  refine g_VW h lv_L_86_X10 lv_L_86_X10_p sh_0 (by decide) rfl hc (fitR hR (by decide) (by decide) (by decide)) rfl rfl (Nat.le_of_ble_eq_true rfl) dL_fair_7 (fun v w hv => ?_) (fun Ex w hv => ?_)
  · obtain ⟨x9, rfl⟩ := hP _ _ hv
    refine g_i2l h dL_fair_10 ?_
    refine g_last h dL_fair_11 ?_
    refine g_goto (tgt := 19) h dL_fair_12 rfl ?_
    refine g_iconst (v := nI 0) h dL_fair_19 (by decide) ?_
    exact g_iretP h hrt dL_fair_20 (by decide) ⟨_, _, hv, x9, rfl, rfl, rfl⟩
  · obtain rfl : Ex = iae := List.mem_singleton.mp (hP _ _ hv)
    refine ⟨tableOf [], tableOf [], _, iae, ht, (fun z hz => nomatch hz), by decide, by decide, env_w h tw_3_141, env_w h tc_iae, fun q => ?_⟩
    refine g_astore h dL_fair_15 (by decide) rfl rfl ?_
    refine g_iconst (v := nI 1) h dL_fair_17 (by decide) ?_
    exact g_iretP h hrt dL_fair_18 (by decide) ⟨_, _, hv, rfl, rfl⟩
set_option maxHeartbeats 1000000 in
theorem c_L_ring {E : EE} (x0 x1 : Int32) (u : Sto) {P : Res → Sto → Prop} (hP : ∀ o w, P o w → okO [ioob, iae] o) (hc : CtP E 9 1 yX10_ring cX10_ring 4 (some .int) [.ref (E.ad 0), .int x0, .int x1] u P) : CtW E 20 1 yL_ring cL_ring 5 (some .int) [(0, 10, 13, 24), (0, 10, 17, 13)] [.ref (E.ad 0), .int x0, .int x1, .ref (E.ad 197)] u (HP (cdL [ioob, iae]) P) := by
  refine ctw_of (by decide) (Nat.le_of_ble_eq_true rfl) (fun X h hR hrt ht hN => ?_)
  refine g_aload_n h dL_ring_0 rfl rfl ?_
  refine g_iconst (v := nI 0) h dL_ring_1 (by decide) ?_
  refine g_aload_n h dL_ring_2 rfl rfl ?_
  refine g_iload_n h dL_ring_3 rfl rfl ?_
  refine g_iload_n h dL_ring_4 rfl rfl ?_
  refine g_VW h lv_L_89_X10 lv_L_89_X10_p sh_0 (by decide) rfl hc (fitR hR (by decide) (by decide) (by decide)) rfl rfl (Nat.le_of_ble_eq_true rfl) dL_ring_5 (fun v w hv => ?_) (fun Ex w hv => ?_)
  · obtain ⟨x9, rfl⟩ := hP _ _ hv
    refine g_i2l h dL_ring_8 ?_
    refine g_last h dL_ring_9 ?_
    refine g_goto (tgt := 21) h dL_ring_10 rfl ?_
    refine g_iconst (v := nI 0) h dL_ring_21 (by decide) ?_
    exact g_iretP h hrt dL_ring_22 (by decide) ⟨_, _, hv, x9, rfl, rfl, rfl⟩
  · have hm : Ex ∈ [ioob, iae] := hP _ _ hv
    simp only [List.mem_cons, List.not_mem_nil, or_false] at hm
    rcases hm with rfl | rfl
    · refine ⟨tableOf [], tableOf [(0, 10, 17, 13)], _, ioob, ht, (fun z hz => nomatch hz), by decide, by decide, env_w h tw_5_103, env_w h tc_ioob, fun q => ?_⟩
      refine g_astore h dL_ring_13 (by decide) rfl rfl ?_
      refine g_iconst (v := nI 1) h dL_ring_15 (by decide) ?_
      exact g_iretP h hrt dL_ring_16 (by decide) ⟨_, _, hv, rfl, rfl⟩
    · refine ⟨tableOf [(0, 10, 13, 24)], tableOf [], _, iae, ht, (fun z hz => Or.inr (by
          simp only [tableOf, List.map, List.mem_cons, List.not_mem_nil, or_false] at hz
          rcases hz with rfl
          · exact ⟨by decide, _, env_w h tw_5_103, hN iae (by decide) ioob (by decide) (by decide)⟩)), by decide, by decide, env_w h tw_3_141, env_w h tc_iae, fun q => ?_⟩
      refine g_astore h dL_ring_17 (by decide) rfl rfl ?_
      refine g_iconst (v := nI 2) h dL_ring_19 (by decide) ?_
      exact g_iretP h hrt dL_ring_20 (by decide) ⟨_, _, hv, rfl, rfl⟩
set_option maxHeartbeats 1000000 in
theorem c_L_turn {E : EE} (x0 : Int32) (u : Sto) {P : Res → Sto → Prop} (hP : ∀ o w, P o w → okO [ioob, ise] o) (hc : CtP E 9 1 yX10_turn cX10_turn 3 (some .int) [.ref (E.ad 0), .int x0] u P) : CtW E 20 1 yL_turn cL_turn 4 (some .int) [(0, 9, 12, 24), (0, 9, 15, 42)] [.ref (E.ad 0), .int x0, .ref (E.ad 197)] u (HP (cdL [ioob, ise]) P) := by
  refine ctw_of (by decide) (Nat.le_of_ble_eq_true rfl) (fun X h hR hrt ht hN => ?_)
  refine g_aload_n h dL_turn_0 rfl rfl ?_
  refine g_iconst (v := nI 0) h dL_turn_1 (by decide) ?_
  refine g_aload_n h dL_turn_2 rfl rfl ?_
  refine g_iload_n h dL_turn_3 rfl rfl ?_
  refine g_VW h lv_L_92_X10 lv_L_92_X10_p sh_0 (by decide) rfl hc (fitR hR (by decide) (by decide) (by decide)) rfl rfl (Nat.le_of_ble_eq_true rfl) dL_turn_4 (fun v w hv => ?_) (fun Ex w hv => ?_)
  · obtain ⟨x9, rfl⟩ := hP _ _ hv
    refine g_i2l h dL_turn_7 ?_
    refine g_last h dL_turn_8 ?_
    refine g_goto (tgt := 18) h dL_turn_9 rfl ?_
    refine g_iconst (v := nI 0) h dL_turn_18 (by decide) ?_
    exact g_iretP h hrt dL_turn_19 (by decide) ⟨_, _, hv, x9, rfl, rfl, rfl⟩
  · have hm : Ex ∈ [ioob, ise] := hP _ _ hv
    simp only [List.mem_cons, List.not_mem_nil, or_false] at hm
    rcases hm with rfl | rfl
    · refine ⟨tableOf [], tableOf [(0, 9, 15, 42)], _, ioob, ht, (fun z hz => nomatch hz), by decide, by decide, env_w h tw_5_103, env_w h tc_ioob, fun q => ?_⟩
      refine g_astore_n h dL_turn_12 rfl (by decide) rfl rfl ?_
      refine g_iconst (v := nI 1) h dL_turn_13 (by decide) ?_
      exact g_iretP h hrt dL_turn_14 (by decide) ⟨_, _, hv, rfl, rfl⟩
    · refine ⟨tableOf [(0, 9, 12, 24)], tableOf [], _, ise, ht, (fun z hz => Or.inr (by
          simp only [tableOf, List.map, List.mem_cons, List.not_mem_nil, or_false] at hz
          rcases hz with rfl
          · exact ⟨by decide, _, env_w h tw_5_103, hN ise (by decide) ioob (by decide) (by decide)⟩)), by decide, by decide, env_w h tw_5_206, env_w h tc_ise, fun q => ?_⟩
      refine g_astore_n h dL_turn_15 rfl (by decide) rfl rfl ?_
      refine g_iconst (v := nI 2) h dL_turn_16 (by decide) ?_
      exact g_iretP h hrt dL_turn_17 (by decide) ⟨_, _, hv, rfl, rfl⟩
set_option maxHeartbeats 1000000 in
theorem c_L_soonest {E : EE} (x0 x1 : Int32) (u : Sto) {P : Res → Sto → Prop} (hP : ∀ o w, P o w → okO [ioob] o) (hc : CtP E 9 1 yX10_soonest cX10_soonest 3 (some .int) [.ref (E.ad 0), .int x0, .int x1] u P) : CtW E 20 1 yL_soonest cL_soonest 5 (some .int) [(0, 10, 13, 24)] [.ref (E.ad 0), .int x0, .int x1, .ref (E.ad 197)] u (HP (cdL [ioob]) P) := by
  refine ctw_of (by decide) (Nat.le_of_ble_eq_true rfl) (fun X h hR hrt ht hN => ?_)
  refine g_aload_n h dL_soonest_0 rfl rfl ?_
  refine g_iconst (v := nI 0) h dL_soonest_1 (by decide) ?_
  refine g_aload_n h dL_soonest_2 rfl rfl ?_
  refine g_iload_n h dL_soonest_3 rfl rfl ?_
  refine g_iload_n h dL_soonest_4 rfl rfl ?_
  refine g_VW h lv_L_95_X10 lv_L_95_X10_p sh_0 (by decide) rfl hc (fitR hR (by decide) (by decide) (by decide)) rfl rfl (Nat.le_of_ble_eq_true rfl) dL_soonest_5 (fun v w hv => ?_) (fun Ex w hv => ?_)
  · obtain ⟨x9, rfl⟩ := hP _ _ hv
    refine g_i2l h dL_soonest_8 ?_
    refine g_last h dL_soonest_9 ?_
    refine g_goto (tgt := 17) h dL_soonest_10 rfl ?_
    refine g_iconst (v := nI 0) h dL_soonest_17 (by decide) ?_
    exact g_iretP h hrt dL_soonest_18 (by decide) ⟨_, _, hv, x9, rfl, rfl, rfl⟩
  · obtain rfl : Ex = ioob := List.mem_singleton.mp (hP _ _ hv)
    refine ⟨tableOf [], tableOf [], _, ioob, ht, (fun z hz => nomatch hz), by decide, by decide, env_w h tw_5_103, env_w h tc_ioob, fun q => ?_⟩
    refine g_astore h dL_soonest_13 (by decide) rfl rfl ?_
    refine g_iconst (v := nI 1) h dL_soonest_15 (by decide) ?_
    exact g_iretP h hrt dL_soonest_16 (by decide) ⟨_, _, hv, rfl, rfl⟩
set_option maxHeartbeats 1000000 in
theorem c_L_heard {E : EE} (x0 x1 : Int32) (u : Sto) {P : Res → Sto → Prop} (hP : ∀ o w, P o w → okO [ioob, iae] o) (hc : CtP E 9 1 yX10_heard cX10_heard 3 (some .int) [.ref (E.ad 0), .int x0, .int x1] u P) : CtW E 20 1 yL_heard cL_heard 5 (some .int) [(0, 10, 13, 24), (0, 10, 17, 13)] [.ref (E.ad 0), .int x0, .int x1, .ref (E.ad 197)] u (HP (cdL [ioob, iae]) P) := by
  refine ctw_of (by decide) (Nat.le_of_ble_eq_true rfl) (fun X h hR hrt ht hN => ?_)
  refine g_aload_n h dL_heard_0 rfl rfl ?_
  refine g_iconst (v := nI 0) h dL_heard_1 (by decide) ?_
  refine g_aload_n h dL_heard_2 rfl rfl ?_
  refine g_iload_n h dL_heard_3 rfl rfl ?_
  refine g_iload_n h dL_heard_4 rfl rfl ?_
  refine g_VW h lv_L_98_X10 lv_L_98_X10_p sh_0 (by decide) rfl hc (fitR hR (by decide) (by decide) (by decide)) rfl rfl (Nat.le_of_ble_eq_true rfl) dL_heard_5 (fun v w hv => ?_) (fun Ex w hv => ?_)
  · obtain ⟨x9, rfl⟩ := hP _ _ hv
    refine g_i2l h dL_heard_8 ?_
    refine g_last h dL_heard_9 ?_
    refine g_goto (tgt := 21) h dL_heard_10 rfl ?_
    refine g_iconst (v := nI 0) h dL_heard_21 (by decide) ?_
    exact g_iretP h hrt dL_heard_22 (by decide) ⟨_, _, hv, x9, rfl, rfl, rfl⟩
  · have hm : Ex ∈ [ioob, iae] := hP _ _ hv
    simp only [List.mem_cons, List.not_mem_nil, or_false] at hm
    rcases hm with rfl | rfl
    · refine ⟨tableOf [], tableOf [(0, 10, 17, 13)], _, ioob, ht, (fun z hz => nomatch hz), by decide, by decide, env_w h tw_5_103, env_w h tc_ioob, fun q => ?_⟩
      refine g_astore h dL_heard_13 (by decide) rfl rfl ?_
      refine g_iconst (v := nI 1) h dL_heard_15 (by decide) ?_
      exact g_iretP h hrt dL_heard_16 (by decide) ⟨_, _, hv, rfl, rfl⟩
    · refine ⟨tableOf [(0, 10, 13, 24)], tableOf [], _, iae, ht, (fun z hz => Or.inr (by
          simp only [tableOf, List.map, List.mem_cons, List.not_mem_nil, or_false] at hz
          rcases hz with rfl
          · exact ⟨by decide, _, env_w h tw_5_103, hN iae (by decide) ioob (by decide) (by decide)⟩)), by decide, by decide, env_w h tw_3_141, env_w h tc_iae, fun q => ?_⟩
      refine g_astore h dL_heard_17 (by decide) rfl rfl ?_
      refine g_iconst (v := nI 2) h dL_heard_19 (by decide) ?_
      exact g_iretP h hrt dL_heard_20 (by decide) ⟨_, _, hv, rfl, rfl⟩
set_option maxHeartbeats 1000000 in
theorem c_L_roomsFor {E : EE} (x0 x1 x2 : Int32) (u : Sto) {P : Res → Sto → Prop} (hP : ∀ o w, P o w → okO [ioob, iae] o) (hc : CtP E 9 1 yX10_roomsFor cX10_roomsFor 4 (some .int) [.ref (E.ad 0), .int x0, .int x1, .int x2] u P) : CtW E 20 1 yL_roomsFor cL_roomsFor 6 (some .int) [(0, 12, 15, 24), (0, 12, 19, 13)] [.ref (E.ad 0), .int x0, .int x1, .int x2, .ref (E.ad 197)] u (HP (cdL [ioob, iae]) P) := by
  refine ctw_of (by decide) (Nat.le_of_ble_eq_true rfl) (fun X h hR hrt ht hN => ?_)
  refine g_aload h dL_roomsFor_0 rfl ?_
  refine g_iconst (v := nI 0) h dL_roomsFor_2 (by decide) ?_
  refine g_aload_n h dL_roomsFor_3 rfl rfl ?_
  refine g_iload_n h dL_roomsFor_4 rfl rfl ?_
  refine g_iload_n h dL_roomsFor_5 rfl rfl ?_
  refine g_iload_n h dL_roomsFor_6 rfl rfl ?_
  refine g_VW h lv_L_101_X10 lv_L_101_X10_p sh_0 (by decide) rfl hc (fitR hR (by decide) (by decide) (by decide)) rfl rfl (Nat.le_of_ble_eq_true rfl) dL_roomsFor_7 (fun v w hv => ?_) (fun Ex w hv => ?_)
  · obtain ⟨x9, rfl⟩ := hP _ _ hv
    refine g_i2l h dL_roomsFor_10 ?_
    refine g_last h dL_roomsFor_11 ?_
    refine g_goto (tgt := 23) h dL_roomsFor_12 rfl ?_
    refine g_iconst (v := nI 0) h dL_roomsFor_23 (by decide) ?_
    exact g_iretP h hrt dL_roomsFor_24 (by decide) ⟨_, _, hv, x9, rfl, rfl, rfl⟩
  · have hm : Ex ∈ [ioob, iae] := hP _ _ hv
    simp only [List.mem_cons, List.not_mem_nil, or_false] at hm
    rcases hm with rfl | rfl
    · refine ⟨tableOf [], tableOf [(0, 12, 19, 13)], _, ioob, ht, (fun z hz => nomatch hz), by decide, by decide, env_w h tw_5_103, env_w h tc_ioob, fun q => ?_⟩
      refine g_astore h dL_roomsFor_15 (by decide) rfl rfl ?_
      refine g_iconst (v := nI 1) h dL_roomsFor_17 (by decide) ?_
      exact g_iretP h hrt dL_roomsFor_18 (by decide) ⟨_, _, hv, rfl, rfl⟩
    · refine ⟨tableOf [(0, 12, 15, 24)], tableOf [], _, iae, ht, (fun z hz => Or.inr (by
          simp only [tableOf, List.map, List.mem_cons, List.not_mem_nil, or_false] at hz
          rcases hz with rfl
          · exact ⟨by decide, _, env_w h tw_5_103, hN iae (by decide) ioob (by decide) (by decide)⟩)), by decide, by decide, env_w h tw_3_141, env_w h tc_iae, fun q => ?_⟩
      refine g_astore h dL_roomsFor_19 (by decide) rfl rfl ?_
      refine g_iconst (v := nI 2) h dL_roomsFor_21 (by decide) ?_
      exact g_iretP h hrt dL_roomsFor_22 (by decide) ⟨_, _, hv, rfl, rfl⟩
set_option maxHeartbeats 1000000 in
theorem c_L_thieves {E : EE} (u : Sto) {P : Res → Sto → Prop} (hP : ∀ o w, P o w → okO [iae] o) (hc : CtP E 10 1 yX10_thieves cX10_thieves 4 (some .int) [.ref (E.ad 0)] u P) : CtW E 20 1 yL_thieves cL_thieves 3 (some .int) [(0, 8, 11, 13)] [.ref (E.ad 0), .ref (E.ad 197)] u (HP (cdL [iae]) P) := by
  refine ctw_of (by decide) (Nat.le_of_ble_eq_true rfl) (fun X h hR hrt ht hN => ?_)
  refine g_aload_n h dL_thieves_0 rfl rfl ?_
  refine g_iconst (v := nI 0) h dL_thieves_1 (by decide) ?_
  refine g_aload_n h dL_thieves_2 rfl rfl ?_
  refine g_VW h lv_L_104_X10 lv_L_104_X10_p sh_0 (by decide) rfl hc (fitR hR (by decide) (by decide) (by decide)) rfl rfl (Nat.le_of_ble_eq_true rfl) dL_thieves_3 (fun v w hv => ?_) (fun Ex w hv => ?_)
  · obtain ⟨x9, rfl⟩ := hP _ _ hv
    refine g_i2l h dL_thieves_6 ?_
    refine g_last h dL_thieves_7 ?_
    refine g_goto (tgt := 14) h dL_thieves_8 rfl ?_
    refine g_iconst (v := nI 0) h dL_thieves_14 (by decide) ?_
    exact g_iretP h hrt dL_thieves_15 (by decide) ⟨_, _, hv, x9, rfl, rfl, rfl⟩
  · obtain rfl : Ex = iae := List.mem_singleton.mp (hP _ _ hv)
    refine ⟨tableOf [], tableOf [], _, iae, ht, (fun z hz => nomatch hz), by decide, by decide, env_w h tw_3_141, env_w h tc_iae, fun q => ?_⟩
    refine g_astore_n h dL_thieves_11 rfl (by decide) rfl rfl ?_
    refine g_iconst (v := nI 1) h dL_thieves_12 (by decide) ?_
    exact g_iretP h hrt dL_thieves_13 (by decide) ⟨_, _, hv, rfl, rfl⟩
set_option maxHeartbeats 1000000 in
theorem c_L_seen {E : EE} (u : Sto) {P : Res → Sto → Prop} (hP : ∀ o w, P o w → okO [iae] o) (hc : CtP E 10 1 yX10_seen cX10_seen 3 (some .int) [.ref (E.ad 0)] u P) : CtW E 20 1 yL_seen cL_seen 3 (some .int) [(0, 8, 11, 13)] [.ref (E.ad 0), .ref (E.ad 197)] u (HP (cdL [iae]) P) := by
  refine ctw_of (by decide) (Nat.le_of_ble_eq_true rfl) (fun X h hR hrt ht hN => ?_)
  refine g_aload_n h dL_seen_0 rfl rfl ?_
  refine g_iconst (v := nI 0) h dL_seen_1 (by decide) ?_
  refine g_aload_n h dL_seen_2 rfl rfl ?_
  refine g_VW h lv_L_107_X10 lv_L_107_X10_p sh_0 (by decide) rfl hc (fitR hR (by decide) (by decide) (by decide)) rfl rfl (Nat.le_of_ble_eq_true rfl) dL_seen_3 (fun v w hv => ?_) (fun Ex w hv => ?_)
  · obtain ⟨x9, rfl⟩ := hP _ _ hv
    refine g_i2l h dL_seen_6 ?_
    refine g_last h dL_seen_7 ?_
    refine g_goto (tgt := 14) h dL_seen_8 rfl ?_
    refine g_iconst (v := nI 0) h dL_seen_14 (by decide) ?_
    exact g_iretP h hrt dL_seen_15 (by decide) ⟨_, _, hv, x9, rfl, rfl, rfl⟩
  · obtain rfl : Ex = iae := List.mem_singleton.mp (hP _ _ hv)
    refine ⟨tableOf [], tableOf [], _, iae, ht, (fun z hz => nomatch hz), by decide, by decide, env_w h tw_3_141, env_w h tc_iae, fun q => ?_⟩
    refine g_astore_n h dL_seen_11 rfl (by decide) rfl rfl ?_
    refine g_iconst (v := nI 1) h dL_seen_12 (by decide) ?_
    exact g_iretP h hrt dL_seen_13 (by decide) ⟨_, _, hv, rfl, rfl⟩
set_option maxHeartbeats 1000000 in
theorem c_L_changed {E : EE} (x0 x1 x2 : Int32) (u : Sto) {P : Res → Sto → Prop} (hP : ∀ o w, P o w → okO [ioob, iae] o) (hc : CtP E 9 1 yX10_changed cX10_changed 4 (some .int) [.ref (E.ad 0), .int x0, .int x1, .int x2] u P) : CtW E 20 1 yL_changed cL_changed 6 (some .int) [(0, 12, 15, 24), (0, 12, 19, 13)] [.ref (E.ad 0), .int x0, .int x1, .int x2, .ref (E.ad 197)] u (HP (cdL [ioob, iae]) P) := by
  refine ctw_of (by decide) (Nat.le_of_ble_eq_true rfl) (fun X h hR hrt ht hN => ?_)
  refine g_aload h dL_changed_0 rfl ?_
  refine g_iconst (v := nI 0) h dL_changed_2 (by decide) ?_
  refine g_aload_n h dL_changed_3 rfl rfl ?_
  refine g_iload_n h dL_changed_4 rfl rfl ?_
  refine g_iload_n h dL_changed_5 rfl rfl ?_
  refine g_iload_n h dL_changed_6 rfl rfl ?_
  refine g_VW h lv_L_110_X10 lv_L_110_X10_p sh_0 (by decide) rfl hc (fitR hR (by decide) (by decide) (by decide)) rfl rfl (Nat.le_of_ble_eq_true rfl) dL_changed_7 (fun v w hv => ?_) (fun Ex w hv => ?_)
  · obtain ⟨x9, rfl⟩ := hP _ _ hv
    refine g_i2l h dL_changed_10 ?_
    refine g_last h dL_changed_11 ?_
    refine g_goto (tgt := 23) h dL_changed_12 rfl ?_
    refine g_iconst (v := nI 0) h dL_changed_23 (by decide) ?_
    exact g_iretP h hrt dL_changed_24 (by decide) ⟨_, _, hv, x9, rfl, rfl, rfl⟩
  · have hm : Ex ∈ [ioob, iae] := hP _ _ hv
    simp only [List.mem_cons, List.not_mem_nil, or_false] at hm
    rcases hm with rfl | rfl
    · refine ⟨tableOf [], tableOf [(0, 12, 19, 13)], _, ioob, ht, (fun z hz => nomatch hz), by decide, by decide, env_w h tw_5_103, env_w h tc_ioob, fun q => ?_⟩
      refine g_astore h dL_changed_15 (by decide) rfl rfl ?_
      refine g_iconst (v := nI 1) h dL_changed_17 (by decide) ?_
      exact g_iretP h hrt dL_changed_18 (by decide) ⟨_, _, hv, rfl, rfl⟩
    · refine ⟨tableOf [(0, 12, 15, 24)], tableOf [], _, iae, ht, (fun z hz => Or.inr (by
          simp only [tableOf, List.map, List.mem_cons, List.not_mem_nil, or_false] at hz
          rcases hz with rfl
          · exact ⟨by decide, _, env_w h tw_5_103, hN iae (by decide) ioob (by decide) (by decide)⟩)), by decide, by decide, env_w h tw_3_141, env_w h tc_iae, fun q => ?_⟩
      refine g_astore h dL_changed_19 (by decide) rfl rfl ?_
      refine g_iconst (v := nI 2) h dL_changed_21 (by decide) ?_
      exact g_iretP h hrt dL_changed_22 (by decide) ⟨_, _, hv, rfl, rfl⟩
set_option maxHeartbeats 1000000 in
theorem c_L_log {E : EE} (x0 x1 : Int32) (u : Sto) {P : Res → Sto → Prop} (hP : ∀ o w, P o w → okO [nsee] o) (hc : CtP E 9 1 yX10_log cX10_log 4 (some .int) [.ref (E.ad 0), .int x0, .int x1] u P) : CtW E 20 1 yL_log cL_log 5 (some .int) [(0, 10, 13, 26)] [.ref (E.ad 0), .int x0, .int x1, .ref (E.ad 197)] u (HP (cdL [nsee]) P) := by
  refine ctw_of (by decide) (Nat.le_of_ble_eq_true rfl) (fun X h hR hrt ht hN => ?_)
  refine g_aload_n h dL_log_0 rfl rfl ?_
  refine g_iconst (v := nI 0) h dL_log_1 (by decide) ?_
  refine g_aload_n h dL_log_2 rfl rfl ?_
  refine g_iload_n h dL_log_3 rfl rfl ?_
  refine g_iload_n h dL_log_4 rfl rfl ?_
  refine g_VW h lv_L_113_X10 lv_L_113_X10_p sh_0 (by decide) rfl hc (fitR hR (by decide) (by decide) (by decide)) rfl rfl (Nat.le_of_ble_eq_true rfl) dL_log_5 (fun v w hv => ?_) (fun Ex w hv => ?_)
  · obtain ⟨x9, rfl⟩ := hP _ _ hv
    refine g_i2l h dL_log_8 ?_
    refine g_last h dL_log_9 ?_
    refine g_goto (tgt := 17) h dL_log_10 rfl ?_
    refine g_iconst (v := nI 0) h dL_log_17 (by decide) ?_
    exact g_iretP h hrt dL_log_18 (by decide) ⟨_, _, hv, x9, rfl, rfl, rfl⟩
  · obtain rfl : Ex = nsee := List.mem_singleton.mp (hP _ _ hv)
    refine ⟨tableOf [], tableOf [], _, nsee, ht, (fun z hz => nomatch hz), by decide, by decide, env_w h tw_5_104, env_w h tc_nsee, fun q => ?_⟩
    refine g_astore h dL_log_13 (by decide) rfl rfl ?_
    refine g_iconst (v := nI 1) h dL_log_15 (by decide) ?_
    exact g_iretP h hrt dL_log_16 (by decide) ⟨_, _, hv, rfl, rfl⟩
set_option maxHeartbeats 1000000 in
theorem c_L_led {E : EE} (x0 x1 : Int32) (u : Sto) {P : Res → Sto → Prop} (hP : ∀ o w, P o w → okO [ioob, iae] o) (hc : CtP E 9 1 yX10_led cX10_led 6 (some .int) [.ref (E.ad 0), .int x0, .int x1] u P) : CtW E 20 1 yL_led cL_led 5 (some .int) [(0, 10, 13, 24), (0, 10, 17, 13)] [.ref (E.ad 0), .int x0, .int x1, .ref (E.ad 197)] u (HP (cdL [ioob, iae]) P) := by
  refine ctw_of (by decide) (Nat.le_of_ble_eq_true rfl) (fun X h hR hrt ht hN => ?_)
  refine g_aload_n h dL_led_0 rfl rfl ?_
  refine g_iconst (v := nI 0) h dL_led_1 (by decide) ?_
  refine g_aload_n h dL_led_2 rfl rfl ?_
  refine g_iload_n h dL_led_3 rfl rfl ?_
  refine g_iload_n h dL_led_4 rfl rfl ?_
  refine g_VW h lv_L_116_X10 lv_L_116_X10_p sh_0 (by decide) rfl hc (fitR hR (by decide) (by decide) (by decide)) rfl rfl (Nat.le_of_ble_eq_true rfl) dL_led_5 (fun v w hv => ?_) (fun Ex w hv => ?_)
  · obtain ⟨x9, rfl⟩ := hP _ _ hv
    refine g_i2l h dL_led_8 ?_
    refine g_last h dL_led_9 ?_
    refine g_goto (tgt := 21) h dL_led_10 rfl ?_
    refine g_iconst (v := nI 0) h dL_led_21 (by decide) ?_
    exact g_iretP h hrt dL_led_22 (by decide) ⟨_, _, hv, x9, rfl, rfl, rfl⟩
  · have hm : Ex ∈ [ioob, iae] := hP _ _ hv
    simp only [List.mem_cons, List.not_mem_nil, or_false] at hm
    rcases hm with rfl | rfl
    · refine ⟨tableOf [], tableOf [(0, 10, 17, 13)], _, ioob, ht, (fun z hz => nomatch hz), by decide, by decide, env_w h tw_5_103, env_w h tc_ioob, fun q => ?_⟩
      refine g_astore h dL_led_13 (by decide) rfl rfl ?_
      refine g_iconst (v := nI 1) h dL_led_15 (by decide) ?_
      exact g_iretP h hrt dL_led_16 (by decide) ⟨_, _, hv, rfl, rfl⟩
    · refine ⟨tableOf [(0, 10, 13, 24)], tableOf [], _, iae, ht, (fun z hz => Or.inr (by
          simp only [tableOf, List.map, List.mem_cons, List.not_mem_nil, or_false] at hz
          rcases hz with rfl
          · exact ⟨by decide, _, env_w h tw_5_103, hN iae (by decide) ioob (by decide) (by decide)⟩)), by decide, by decide, env_w h tw_3_141, env_w h tc_iae, fun q => ?_⟩
      refine g_astore h dL_led_17 (by decide) rfl rfl ?_
      refine g_iconst (v := nI 2) h dL_led_19 (by decide) ?_
      exact g_iretP h hrt dL_led_20 (by decide) ⟨_, _, hv, rfl, rfl⟩
theorem lw_L_133 : LkW RL 133 yL_town 2 cL_town 3 (some .int) [(0, 8, 11, 13), (0, 8, 14, 15)] := ⟨tw_3_140, tw_3_139, tw_1_0, ⟨by decide, by decide⟩, by decide +kernel, tw_3_138⟩
theorem lw_L_142 : LkW RL 142 yL_law 2 cL_law 3 (some .int) [(0, 8, 11, 13)] := ⟨tw_4_219, tw_4_218, tw_1_0, ⟨by decide, by decide⟩, by decide +kernel, tw_4_217⟩
theorem lw_L_149 : LkW RL 149 yL_tenant 4 cL_tenant 5 (some .int) [(0, 10, 13, 24), (0, 10, 17, 26)] := ⟨tw_5_102, tw_5_101, tw_1_0, ⟨by decide, by decide⟩, by decide +kernel, tw_5_100⟩
theorem lw_L_153 : LkW RL 153 yL_room 4 cL_room 5 (some .int) [(0, 10, 13, 24), (0, 10, 17, 26)] := ⟨tw_5_167, tw_5_166, tw_1_0, ⟨by decide, by decide⟩, by decide +kernel, tw_5_165⟩
theorem lw_L_156 : LkW RL 156 yL_rule 5 cL_rule 6 (some .int) [(0, 12, 15, 24), (0, 12, 19, 26)] := ⟨tw_5_184, tw_5_183, tw_1_0, ⟨by decide, by decide⟩, by decide +kernel, tw_5_182⟩
theorem lw_L_160 : LkW RL 160 yL_roomOf 5 cL_roomOf 6 (some .int) [(0, 12, 15, 24)] := ⟨tw_5_198, tw_5_197, tw_1_0, ⟨by decide, by decide⟩, by decide +kernel, tw_5_196⟩
theorem lw_L_164 : LkW RL 164 yL_take 4 cL_take 5 (some .int) [(0, 10, 13, 24), (0, 10, 17, 42)] := ⟨tw_5_205, tw_5_204, tw_1_0, ⟨by decide, by decide⟩, by decide +kernel, tw_5_203⟩
theorem lw_L_167 : LkW RL 167 yL_leave 3 cL_leave 4 (some .int) [(0, 9, 12, 24), (0, 9, 15, 42)] := ⟨tw_6_20, tw_6_19, tw_1_0, ⟨by decide, by decide⟩, by decide +kernel, tw_6_18⟩
theorem lw_L_171 : LkW RL 171 yL_sublet 5 cL_sublet 6 (some .int) [(0, 12, 15, 24), (0, 12, 19, 13), (0, 12, 23, 42)] := ⟨tw_6_28, tw_6_27, tw_1_0, ⟨by decide, by decide⟩, by decide +kernel, tw_6_26⟩
theorem lw_L_174 : LkW RL 174 yL_ends 3 cL_ends 4 (some .int) [(0, 9, 12, 24), (0, 9, 15, 42)] := ⟨tw_6_49, tw_6_48, tw_1_0, ⟨by decide, by decide⟩, by decide +kernel, tw_6_47⟩
theorem lw_L_177 : LkW RL 177 yL_evict 3 cL_evict 4 (some .int) [(0, 9, 12, 24), (0, 9, 15, 42)] := ⟨tw_6_56, tw_6_55, tw_1_0, ⟨by decide, by decide⟩, by decide +kernel, tw_6_54⟩
theorem lw_L_180 : LkW RL 180 yL_carry 6 cL_carry 7 (some .int) [(0, 14, 17, 24), (0, 14, 21, 13), (0, 14, 25, 42)] := ⟨tw_6_68, tw_6_67, tw_1_0, ⟨by decide, by decide⟩, by decide +kernel, tw_6_66⟩
theorem lw_L_184 : LkW RL 184 yL_swap 4 cL_swap 5 (some .int) [(0, 10, 13, 24), (0, 10, 17, 13), (0, 10, 21, 42)] := ⟨tw_6_80, tw_6_79, tw_1_0, ⟨by decide, by decide⟩, by decide +kernel, tw_6_78⟩
theorem lw_L_187 : LkW RL 187 yL_ticks 3 cL_ticks 4 (some .int) [(0, 9, 12, 13)] := ⟨tw_6_92, tw_6_91, tw_1_0, ⟨by decide, by decide⟩, by decide +kernel, tw_6_90⟩
theorem lw_L_190 : LkW RL 190 yL_neighbours 5 cL_neighbours 6 (some .int) [(0, 12, 15, 24)] := ⟨tw_6_118, tw_6_117, tw_1_0, ⟨by decide, by decide⟩, by decide +kernel, tw_6_116⟩
theorem lw_L_193 : LkW RL 193 yL_run 4 cL_run 5 (some .int) [(0, 10, 13, 24)] := ⟨tw_6_129, tw_6_128, tw_1_0, ⟨by decide, by decide⟩, by decide +kernel, tw_6_127⟩
theorem lw_L_202 : LkW RL 202 yL_wedding 4 cL_wedding 5 (some .int) [(0, 10, 13, 24), (0, 10, 17, 13)] := ⟨tw_6_136, tw_6_135, tw_1_0, ⟨by decide, by decide⟩, by decide +kernel, tw_6_134⟩
theorem lw_L_209 : LkW RL 209 yL_cheap 5 cL_cheap 6 (some .int) [(0, 12, 15, 24), (0, 12, 19, 13)] := ⟨tw_6_147, tw_6_146, tw_1_0, ⟨by decide, by decide⟩, by decide +kernel, tw_6_145⟩
theorem lw_L_216 : LkW RL 216 yL_given 3 cL_given 4 (some .int) [(0, 9, 12, 24)] := ⟨tw_6_169, tw_6_168, tw_1_0, ⟨by decide, by decide⟩, by decide +kernel, tw_6_167⟩
theorem lw_L_219 : LkW RL 219 yL_envies 3 cL_envies 4 (some .int) [(0, 9, 12, 24)] := ⟨tw_6_180, tw_6_179, tw_1_0, ⟨by decide, by decide⟩, by decide +kernel, tw_6_178⟩
theorem lw_L_222 : LkW RL 222 yL_fair 5 cL_fair 6 (some .int) [(0, 12, 15, 13)] := ⟨tw_6_195, tw_6_194, tw_1_0, ⟨by decide, by decide⟩, by decide +kernel, tw_6_193⟩
theorem lw_L_225 : LkW RL 225 yL_ring 4 cL_ring 5 (some .int) [(0, 10, 13, 24), (0, 10, 17, 13)] := ⟨tw_6_233, tw_6_232, tw_1_0, ⟨by decide, by decide⟩, by decide +kernel, tw_6_231⟩
theorem lw_L_228 : LkW RL 228 yL_turn 3 cL_turn 4 (some .int) [(0, 9, 12, 24), (0, 9, 15, 42)] := ⟨tw_7_21, tw_7_20, tw_1_0, ⟨by decide, by decide⟩, by decide +kernel, tw_7_19⟩
theorem lw_L_231 : LkW RL 231 yL_soonest 4 cL_soonest 5 (some .int) [(0, 10, 13, 24)] := ⟨tw_7_33, tw_7_32, tw_1_0, ⟨by decide, by decide⟩, by decide +kernel, tw_7_31⟩
theorem lw_L_234 : LkW RL 234 yL_heard 4 cL_heard 5 (some .int) [(0, 10, 13, 24), (0, 10, 17, 13)] := ⟨tw_7_48, tw_7_47, tw_1_0, ⟨by decide, by decide⟩, by decide +kernel, tw_7_46⟩
theorem lw_L_237 : LkW RL 237 yL_roomsFor 5 cL_roomsFor 6 (some .int) [(0, 12, 15, 24), (0, 12, 19, 13)] := ⟨tw_7_64, tw_7_63, tw_1_0, ⟨by decide, by decide⟩, by decide +kernel, tw_7_62⟩
theorem lw_L_240 : LkW RL 240 yL_thieves 2 cL_thieves 3 (some .int) [(0, 8, 11, 13)] := ⟨tw_7_85, tw_7_84, tw_1_0, ⟨by decide, by decide⟩, by decide +kernel, tw_7_83⟩
theorem lw_L_243 : LkW RL 243 yL_seen 2 cL_seen 3 (some .int) [(0, 8, 11, 13)] := ⟨tw_7_105, tw_7_104, tw_1_0, ⟨by decide, by decide⟩, by decide +kernel, tw_7_103⟩
theorem lw_L_246 : LkW RL 246 yL_changed 5 cL_changed 6 (some .int) [(0, 12, 15, 24), (0, 12, 19, 13)] := ⟨tw_7_113, tw_7_112, tw_1_0, ⟨by decide, by decide⟩, by decide +kernel, tw_7_111⟩
theorem lw_L_249 : LkW RL 249 yL_log 4 cL_log 5 (some .int) [(0, 10, 13, 26)] := ⟨tw_7_129, tw_7_128, tw_1_0, ⟨by decide, by decide⟩, by decide +kernel, tw_7_127⟩
theorem lw_L_252 : LkW RL 252 yL_led 4 cL_led 5 (some .int) [(0, 10, 13, 24), (0, 10, 17, 13)] := ⟨tw_7_155, tw_7_154, tw_1_0, ⟨by decide, by decide⟩, by decide +kernel, tw_7_153⟩
