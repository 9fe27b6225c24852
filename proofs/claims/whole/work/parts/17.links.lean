theorem in_p1 {q : MethodName × Nat} (h : q ∈ lw_privs_1) : Cond.selects q.1.cls q.1 q.1 ∈ lw_tbl := List.mem_append_left _ (List.mem_map.mpr ⟨q, show q ∈ lw_privs from List.mem_append_left _ h, rfl⟩)
theorem in_p2 {q : MethodName × Nat} (h : q ∈ lw_privs_2) : Cond.selects q.1.cls q.1 q.1 ∈ lw_tbl := List.mem_append_left _ (List.mem_map.mpr ⟨q, show q ∈ lw_privs from List.mem_append_right _ (List.mem_append_left _ h), rfl⟩)
theorem in_p3 {q : MethodName × Nat} (h : q ∈ lw_privs_3) : Cond.selects q.1.cls q.1 q.1 ∈ lw_tbl := List.mem_append_left _ (List.mem_map.mpr ⟨q, show q ∈ lw_privs from List.mem_append_right _ (List.mem_append_right _ (List.mem_append_left _ h)), rfl⟩)
theorem in_p4 {q : MethodName × Nat} (h : q ∈ lw_privs_4) : Cond.selects q.1.cls q.1 q.1 ∈ lw_tbl := List.mem_append_left _ (List.mem_map.mpr ⟨q, show q ∈ lw_privs from List.mem_append_right _ (List.mem_append_right _ (List.mem_append_right _ (List.mem_append_left _ h))), rfl⟩)
theorem in_p5 {q : MethodName × Nat} (h : q ∈ lw_privs_5) : Cond.selects q.1.cls q.1 q.1 ∈ lw_tbl := List.mem_append_left _ (List.mem_map.mpr ⟨q, show q ∈ lw_privs from List.mem_append_right _ (List.mem_append_right _ (List.mem_append_right _ (List.mem_append_right _ (List.mem_append_left _ h)))), rfl⟩)
theorem in_p6 {q : MethodName × Nat} (h : q ∈ lw_privs_6) : Cond.selects q.1.cls q.1 q.1 ∈ lw_tbl := List.mem_append_left _ (List.mem_map.mpr ⟨q, show q ∈ lw_privs from List.mem_append_right _ (List.mem_append_right _ (List.mem_append_right _ (List.mem_append_right _ (List.mem_append_right _ (List.mem_append_left _ h))))), rfl⟩)
theorem in_p7 {q : MethodName × Nat} (h : q ∈ lw_privs_7) : Cond.selects q.1.cls q.1 q.1 ∈ lw_tbl := List.mem_append_left _ (List.mem_map.mpr ⟨q, show q ∈ lw_privs from List.mem_append_right _ (List.mem_append_right _ (List.mem_append_right _ (List.mem_append_right _ (List.mem_append_right _ (List.mem_append_right _ (List.mem_append_left _ h)))))), rfl⟩)
theorem in_p8 {q : MethodName × Nat} (h : q ∈ lw_privs_8) : Cond.selects q.1.cls q.1 q.1 ∈ lw_tbl := List.mem_append_left _ (List.mem_map.mpr ⟨q, show q ∈ lw_privs from List.mem_append_right _ (List.mem_append_right _ (List.mem_append_right _ (List.mem_append_right _ (List.mem_append_right _ (List.mem_append_right _ (List.mem_append_right _ (List.mem_append_left _ h))))))), rfl⟩)
theorem in_p9 {q : MethodName × Nat} (h : q ∈ lw_privs_9) : Cond.selects q.1.cls q.1 q.1 ∈ lw_tbl := List.mem_append_left _ (List.mem_map.mpr ⟨q, show q ∈ lw_privs from List.mem_append_right _ (List.mem_append_right _ (List.mem_append_right _ (List.mem_append_right _ (List.mem_append_right _ (List.mem_append_right _ (List.mem_append_right _ (List.mem_append_right _ (List.mem_append_left _ h)))))))), rfl⟩)
theorem in_p10 {q : MethodName × Nat} (h : q ∈ lw_privs_10) : Cond.selects q.1.cls q.1 q.1 ∈ lw_tbl := List.mem_append_left _ (List.mem_map.mpr ⟨q, show q ∈ lw_privs from List.mem_append_right _ (List.mem_append_right _ (List.mem_append_right _ (List.mem_append_right _ (List.mem_append_right _ (List.mem_append_right _ (List.mem_append_right _ (List.mem_append_right _ (List.mem_append_right _ (List.mem_append_left _ h))))))))), rfl⟩)
theorem in_p11 {q : MethodName × Nat} (h : q ∈ lw_privs_11) : Cond.selects q.1.cls q.1 q.1 ∈ lw_tbl := List.mem_append_left _ (List.mem_map.mpr ⟨q, show q ∈ lw_privs from List.mem_append_right _ (List.mem_append_right _ (List.mem_append_right _ (List.mem_append_right _ (List.mem_append_right _ (List.mem_append_right _ (List.mem_append_right _ (List.mem_append_right _ (List.mem_append_right _ (List.mem_append_right _ (List.mem_append_left _ h)))))))))), rfl⟩)
theorem in_p12 {q : MethodName × Nat} (h : q ∈ lw_privs_12) : Cond.selects q.1.cls q.1 q.1 ∈ lw_tbl := List.mem_append_left _ (List.mem_map.mpr ⟨q, show q ∈ lw_privs from List.mem_append_right _ (List.mem_append_right _ (List.mem_append_right _ (List.mem_append_right _ (List.mem_append_right _ (List.mem_append_right _ (List.mem_append_right _ (List.mem_append_right _ (List.mem_append_right _ (List.mem_append_right _ (List.mem_append_right _ h)))))))))), rfl⟩)
theorem ps_1_0 : Cond.selects "HourLets" ⟨"HourLets", "feedNumber", "(I)V"⟩ ⟨"HourLets", "feedNumber", "(I)V"⟩ ∈ TW := inTW (in_p1 (List.mem_of_getElem? (i := 0) rfl)) (by decide +kernel)
theorem ps_1_1 : Cond.selects "HourLets$Streets" ⟨"HourLets$Streets", "longestRow", "(IZ)I"⟩ ⟨"HourLets$Streets", "longestRow", "(IZ)I"⟩ ∈ TW := inTW (in_p1 (List.mem_of_getElem? (i := 1) rfl)) (by decide +kernel)
theorem ps_1_2 : Cond.selects "HourLets$Town" ⟨"HourLets$Town", "livesIn", "(I)I"⟩ ⟨"HourLets$Town", "livesIn", "(I)I"⟩ ∈ TW := inTW (in_p1 (List.mem_of_getElem? (i := 2) rfl)) (by decide +kernel)
theorem ps_1_3 : Cond.selects "HourLets$World" ⟨"HourLets$World", "grownUps", "(I)I"⟩ ⟨"HourLets$World", "grownUps", "(I)I"⟩ ∈ TW := inTW (in_p1 (List.mem_of_getElem? (i := 3) rfl)) (by decide +kernel)
theorem ps_1_4 : Cond.selects "HourLets$World" ⟨"HourLets$World", "isChild", "(I)Z"⟩ ⟨"HourLets$World", "isChild", "(I)Z"⟩ ∈ TW := inTW (in_p1 (List.mem_of_getElem? (i := 4) rfl)) (by decide +kernel)
theorem ps_1_5 : Cond.selects "HourLets$Streets" ⟨"HourLets$Streets", "rowOfDifferent", "(IZ)I"⟩ ⟨"HourLets$Streets", "rowOfDifferent", "(IZ)I"⟩ ∈ TW := inTW (in_p1 (List.mem_of_getElem? (i := 5) rfl)) (by decide +kernel)
theorem ps_1_6 : Cond.selects "HourLets$Streets" ⟨"HourLets$Streets", "differentFrom", "(II)I"⟩ ⟨"HourLets$Streets", "differentFrom", "(II)I"⟩ ∈ TW := inTW (in_p1 (List.mem_of_getElem? (i := 6) rfl)) (by decide +kernel)
theorem ps_1_7 : Cond.selects "HourLets$Fitting" ⟨"HourLets$Fitting", "fillWants", "()I"⟩ ⟨"HourLets$Fitting", "fillWants", "()I"⟩ ∈ TW := inTW (in_p1 (List.mem_of_getElem? (i := 7) rfl)) (by decide +kernel)
theorem ps_1_8 : Cond.selects "HourLets$Fitting" ⟨"HourLets$Fitting", "prepare", "()V"⟩ ⟨"HourLets$Fitting", "prepare", "()V"⟩ ∈ TW := inTW (in_p1 (List.mem_of_getElem? (i := 8) rfl)) (by decide +kernel)
theorem ps_1_9 : Cond.selects "HourLets$Fitting" ⟨"HourLets$Fitting", "change", "(II)V"⟩ ⟨"HourLets$Fitting", "change", "(II)V"⟩ ∈ TW := inTW (in_p1 (List.mem_of_getElem? (i := 9) rfl)) (by decide +kernel)
theorem ps_1_10 : Cond.selects "HourLets$World" ⟨"HourLets$World", "isFree", "(I)Z"⟩ ⟨"HourLets$World", "isFree", "(I)Z"⟩ ∈ TW := inTW (in_p1 (List.mem_of_getElem? (i := 10) rfl)) (by decide +kernel)
theorem ps_1_11 : Cond.selects "HourLets$Fitting" ⟨"HourLets$Fitting", "wantsThatFit", "(I)I"⟩ ⟨"HourLets$Fitting", "wantsThatFit", "(I)I"⟩ ∈ TW := inTW (in_p1 (List.mem_of_getElem? (i := 11) rfl)) (by decide +kernel)
theorem ps_1_12 : Cond.selects "HourLets$World" ⟨"HourLets$World", "isBarred", "(II)Z"⟩ ⟨"HourLets$World", "isBarred", "(II)Z"⟩ ∈ TW := inTW (in_p1 (List.mem_of_getElem? (i := 12) rfl)) (by decide +kernel)
theorem ps_1_13 : Cond.selects "HourLets$World" ⟨"HourLets$World", "lookAt", "(II)[I"⟩ ⟨"HourLets$World", "lookAt", "(II)[I"⟩ ∈ TW := inTW (in_p1 (List.mem_of_getElem? (i := 13) rfl)) (by decide +kernel)
theorem ps_1_14 : Cond.selects "HourLets$Roll" ⟨"HourLets$Roll", "likesHour", "(II)Z"⟩ ⟨"HourLets$Roll", "likesHour", "(II)Z"⟩ ∈ TW := inTW (in_p1 (List.mem_of_getElem? (i := 14) rfl)) (by decide +kernel)
theorem ps_1_15 : Cond.selects "HourLets$Law" ⟨"HourLets$Law", "bars", "([I)Z"⟩ ⟨"HourLets$Law", "bars", "([I)Z"⟩ ∈ TW := inTW (in_p1 (List.mem_of_getElem? (i := 15) rfl)) (by decide +kernel)
theorem ps_2_0 : Cond.selects "HourLets$Law" ⟨"HourLets$Law", "holds", "(I[I)Z"⟩ ⟨"HourLets$Law", "holds", "(I[I)Z"⟩ ∈ TW := inTW (in_p2 (List.mem_of_getElem? (i := 0) rfl)) (by decide +kernel)
theorem ps_2_1 : Cond.selects "HourLets$Fitting" ⟨"HourLets$Fitting", "leastSpare", "()I"⟩ ⟨"HourLets$Fitting", "leastSpare", "()I"⟩ ∈ TW := inTW (in_p2 (List.mem_of_getElem? (i := 1) rfl)) (by decide +kernel)
theorem ps_2_2 : Cond.selects "HourLets$Fitting" ⟨"HourLets$Fitting", "firstWant", "(II)I"⟩ ⟨"HourLets$Fitting", "firstWant", "(II)I"⟩ ∈ TW := inTW (in_p2 (List.mem_of_getElem? (i := 2) rfl)) (by decide +kernel)
theorem ps_2_3 : Cond.selects "HourLets$Roll" ⟨"HourLets$Roll", "wantedRooms", "()I"⟩ ⟨"HourLets$Roll", "wantedRooms", "()I"⟩ ∈ TW := inTW (in_p2 (List.mem_of_getElem? (i := 3) rfl)) (by decide +kernel)
theorem ps_2_4 : Cond.selects "HourLets$Town" ⟨"HourLets$Town", "copyFrom", "(LHourLets$Town;)V"⟩ ⟨"HourLets$Town", "copyFrom", "(LHourLets$Town;)V"⟩ ∈ TW := inTW (in_p2 (List.mem_of_getElem? (i := 4) rfl)) (by decide +kernel)
theorem ps_2_5 : Cond.selects "HourLets$World" ⟨"HourLets$World", "copyFrom", "(LHourLets$World;)V"⟩ ⟨"HourLets$World", "copyFrom", "(LHourLets$World;)V"⟩ ∈ TW := inTW (in_p2 (List.mem_of_getElem? (i := 5) rfl)) (by decide +kernel)
theorem ps_2_6 : Cond.selects "HourLets$Roll" ⟨"HourLets$Roll", "copyFrom", "(LHourLets$Roll;)V"⟩ ⟨"HourLets$Roll", "copyFrom", "(LHourLets$Roll;)V"⟩ ∈ TW := inTW (in_p2 (List.mem_of_getElem? (i := 6) rfl)) (by decide +kernel)
theorem ps_2_7 : Cond.selects "HourLets$Law" ⟨"HourLets$Law", "copyFrom", "(LHourLets$Law;)V"⟩ ⟨"HourLets$Law", "copyFrom", "(LHourLets$Law;)V"⟩ ∈ TW := inTW (in_p2 (List.mem_of_getElem? (i := 7) rfl)) (by decide +kernel)
theorem ps_2_8 : Cond.selects "HourLets$World" ⟨"HourLets$World", "livedIn", "(I)I"⟩ ⟨"HourLets$World", "livedIn", "(I)I"⟩ ∈ TW := inTW (in_p2 (List.mem_of_getElem? (i := 8) rfl)) (by decide +kernel)
theorem ps_2_9 : Cond.selects "HourLets$World" ⟨"HourLets$World", "subletRooms", "()I"⟩ ⟨"HourLets$World", "subletRooms", "()I"⟩ ∈ TW := inTW (in_p2 (List.mem_of_getElem? (i := 9) rfl)) (by decide +kernel)
theorem ps_2_10 : Cond.selects "HourLets" ⟨"HourLets", "useTape", "()I"⟩ ⟨"HourLets", "useTape", "()I"⟩ ∈ TW := inTW (in_p2 (List.mem_of_getElem? (i := 10) rfl)) (by decide +kernel)
theorem ps_2_11 : Cond.selects "HourLets$TownText" ⟨"HourLets$TownText", "readTown", "(I)I"⟩ ⟨"HourLets$TownText", "readTown", "(I)I"⟩ ∈ TW := inTW (in_p2 (List.mem_of_getElem? (i := 11) rfl)) (by decide +kernel)
theorem ps_2_12 : Cond.selects "HourLets$TownText" ⟨"HourLets$TownText", "readLine", "()Z"⟩ ⟨"HourLets$TownText", "readLine", "()Z"⟩ ∈ TW := inTW (in_p2 (List.mem_of_getElem? (i := 12) rfl)) (by decide +kernel)
theorem ps_2_13 : Cond.selects "HourLets$TownText" ⟨"HourLets$TownText", "readTenant", "()Z"⟩ ⟨"HourLets$TownText", "readTenant", "()Z"⟩ ∈ TW := inTW (in_p2 (List.mem_of_getElem? (i := 13) rfl)) (by decide +kernel)
theorem ps_2_14 : Cond.selects "HourLets$TownText" ⟨"HourLets$TownText", "passFirstHour", "()Z"⟩ ⟨"HourLets$TownText", "passFirstHour", "()Z"⟩ ∈ TW := inTW (in_p2 (List.mem_of_getElem? (i := 14) rfl)) (by decide +kernel)
theorem ps_2_15 : Cond.selects "HourLets$TownText" ⟨"HourLets$TownText", "isSecondHour", "()Z"⟩ ⟨"HourLets$TownText", "isSecondHour", "()Z"⟩ ∈ TW := inTW (in_p2 (List.mem_of_getElem? (i := 15) rfl)) (by decide +kernel)
theorem ps_3_0 : Cond.selects "HourLets$Roll" ⟨"HourLets$Roll", "addTenant", "(III)V"⟩ ⟨"HourLets$Roll", "addTenant", "(III)V"⟩ ∈ TW := inTW (in_p3 (List.mem_of_getElem? (i := 0) rfl)) (by decide +kernel)
theorem ps_3_1 : Cond.selects "HourLets$TownText" ⟨"HourLets$TownText", "readChild", "()Z"⟩ ⟨"HourLets$TownText", "readChild", "()Z"⟩ ∈ TW := inTW (in_p3 (List.mem_of_getElem? (i := 1) rfl)) (by decide +kernel)
theorem ps_3_2 : Cond.selects "HourLets$TownText" ⟨"HourLets$TownText", "isTenant", "()Z"⟩ ⟨"HourLets$TownText", "isTenant", "()Z"⟩ ∈ TW := inTW (in_p3 (List.mem_of_getElem? (i := 2) rfl)) (by decide +kernel)
theorem ps_3_3 : Cond.selects "HourLets$TownText" ⟨"HourLets$TownText", "readLet", "()Z"⟩ ⟨"HourLets$TownText", "readLet", "()Z"⟩ ∈ TW := inTW (in_p3 (List.mem_of_getElem? (i := 3) rfl)) (by decide +kernel)
theorem ps_3_4 : Cond.selects "HourLets$TownText" ⟨"HourLets$TownText", "passDay", "()Z"⟩ ⟨"HourLets$TownText", "passDay", "()Z"⟩ ∈ TW := inTW (in_p3 (List.mem_of_getElem? (i := 4) rfl)) (by decide +kernel)
theorem ps_3_5 : Cond.selects "HourLets$Town" ⟨"HourLets$Town", "setOwner", "(II)V"⟩ ⟨"HourLets$Town", "setOwner", "(II)V"⟩ ∈ TW := inTW (in_p3 (List.mem_of_getElem? (i := 5) rfl)) (by decide +kernel)
theorem ps_3_6 : Cond.selects "HourLets$Town" ⟨"HourLets$Town", "free", "(I)V"⟩ ⟨"HourLets$Town", "free", "(I)V"⟩ ∈ TW := inTW (in_p3 (List.mem_of_getElem? (i := 6) rfl)) (by decide +kernel)
theorem ps_3_7 : Cond.selects "HourLets$TownText" ⟨"HourLets$TownText", "readGoods", "()Z"⟩ ⟨"HourLets$TownText", "readGoods", "()Z"⟩ ∈ TW := inTW (in_p3 (List.mem_of_getElem? (i := 7) rfl)) (by decide +kernel)
theorem ps_3_8 : Cond.selects "HourLets$TownText" ⟨"HourLets$TownText", "isHour", "()Z"⟩ ⟨"HourLets$TownText", "isHour", "()Z"⟩ ∈ TW := inTW (in_p3 (List.mem_of_getElem? (i := 8) rfl)) (by decide +kernel)
theorem ps_3_9 : Cond.selects "HourLets$TownText" ⟨"HourLets$TownText", "readShut", "()Z"⟩ ⟨"HourLets$TownText", "readShut", "()Z"⟩ ∈ TW := inTW (in_p3 (List.mem_of_getElem? (i := 9) rfl)) (by decide +kernel)
theorem ps_3_10 : Cond.selects "HourLets$TownText" ⟨"HourLets$TownText", "readSub", "()Z"⟩ ⟨"HourLets$TownText", "readSub", "()Z"⟩ ∈ TW := inTW (in_p3 (List.mem_of_getElem? (i := 10) rfl)) (by decide +kernel)
theorem ps_3_11 : Cond.selects "HourLets$TownText" ⟨"HourLets$TownText", "readWant", "()Z"⟩ ⟨"HourLets$TownText", "readWant", "()Z"⟩ ∈ TW := inTW (in_p3 (List.mem_of_getElem? (i := 11) rfl)) (by decide +kernel)
theorem ps_3_12 : Cond.selects "HourLets$Roll" ⟨"HourLets$Roll", "addWant", "(IIII)V"⟩ ⟨"HourLets$Roll", "addWant", "(IIII)V"⟩ ∈ TW := inTW (in_p3 (List.mem_of_getElem? (i := 12) rfl)) (by decide +kernel)
theorem ps_3_13 : Cond.selects "HourLets$TownText" ⟨"HourLets$TownText", "readChance", "()Z"⟩ ⟨"HourLets$TownText", "readChance", "()Z"⟩ ∈ TW := inTW (in_p3 (List.mem_of_getElem? (i := 13) rfl)) (by decide +kernel)
theorem ps_3_14 : Cond.selects "java/lang/Throwable" ⟨"java/lang/Throwable", "fillInStackTrace", "(I)Ljava/lang/Throwable;"⟩ ⟨"java/lang/Throwable", "fillInStackTrace", "(I)Ljava/lang/Throwable;"⟩ ∈ TW := inTW (in_p3 (List.mem_of_getElem? (i := 14) rfl)) (by decide +kernel)
theorem ps_3_15 : Cond.selects "HourLets$LawText" ⟨"HourLets$LawText", "readLaw", "(I)I"⟩ ⟨"HourLets$LawText", "readLaw", "(I)I"⟩ ∈ TW := inTW (in_p3 (List.mem_of_getElem? (i := 15) rfl)) (by decide +kernel)
theorem ps_4_0 : Cond.selects "HourLets$Law" ⟨"HourLets$Law", "clearLines", "()V"⟩ ⟨"HourLets$Law", "clearLines", "()V"⟩ ∈ TW := inTW (in_p4 (List.mem_of_getElem? (i := 0) rfl)) (by decide +kernel)
theorem ps_4_1 : Cond.selects "HourLets$LawText" ⟨"HourLets$LawText", "readHead", "()Z"⟩ ⟨"HourLets$LawText", "readHead", "()Z"⟩ ∈ TW := inTW (in_p4 (List.mem_of_getElem? (i := 1) rfl)) (by decide +kernel)
theorem ps_4_2 : Cond.selects "HourLets$Law" ⟨"HourLets$Law", "addLine", "(II)V"⟩ ⟨"HourLets$Law", "addLine", "(II)V"⟩ ∈ TW := inTW (in_p4 (List.mem_of_getElem? (i := 2) rfl)) (by decide +kernel)
theorem ps_4_3 : Cond.selects "HourLets$LawText" ⟨"HourLets$LawText", "readCondition", "()Z"⟩ ⟨"HourLets$LawText", "readCondition", "()Z"⟩ ∈ TW := inTW (in_p4 (List.mem_of_getElem? (i := 3) rfl)) (by decide +kernel)
theorem ps_4_4 : Cond.selects "HourLets$LawText" ⟨"HourLets$LawText", "goDeeper", "()V"⟩ ⟨"HourLets$LawText", "goDeeper", "()V"⟩ ∈ TW := inTW (in_p4 (List.mem_of_getElem? (i := 4) rfl)) (by decide +kernel)
theorem ps_4_5 : Cond.selects "HourLets$LawText" ⟨"HourLets$LawText", "push", "(I)V"⟩ ⟨"HourLets$LawText", "push", "(I)V"⟩ ∈ TW := inTW (in_p4 (List.mem_of_getElem? (i := 5) rfl)) (by decide +kernel)
theorem ps_4_6 : Cond.selects "HourLets$LawText" ⟨"HourLets$LawText", "readAtom", "()Z"⟩ ⟨"HourLets$LawText", "readAtom", "()Z"⟩ ∈ TW := inTW (in_p4 (List.mem_of_getElem? (i := 6) rfl)) (by decide +kernel)
theorem ps_4_7 : Cond.selects "HourLets$Law" ⟨"HourLets$Law", "addWord", "(I)V"⟩ ⟨"HourLets$Law", "addWord", "(I)V"⟩ ∈ TW := inTW (in_p4 (List.mem_of_getElem? (i := 7) rfl)) (by decide +kernel)
theorem ps_4_8 : Cond.selects "HourLets$LawText" ⟨"HourLets$LawText", "readSum", "()Z"⟩ ⟨"HourLets$LawText", "readSum", "()Z"⟩ ∈ TW := inTW (in_p4 (List.mem_of_getElem? (i := 8) rfl)) (by decide +kernel)
theorem ps_4_9 : Cond.selects "HourLets$LawText" ⟨"HourLets$LawText", "partThere", "()I"⟩ ⟨"HourLets$LawText", "partThere", "()I"⟩ ∈ TW := inTW (in_p4 (List.mem_of_getElem? (i := 9) rfl)) (by decide +kernel)
theorem ps_4_10 : Cond.selects "HourLets$LawText" ⟨"HourLets$LawText", "closeAll", "()V"⟩ ⟨"HourLets$LawText", "closeAll", "()V"⟩ ∈ TW := inTW (in_p4 (List.mem_of_getElem? (i := 10) rfl)) (by decide +kernel)
theorem ps_4_11 : Cond.selects "HourLets$LawText" ⟨"HourLets$LawText", "unwind", "(I)V"⟩ ⟨"HourLets$LawText", "unwind", "(I)V"⟩ ∈ TW := inTW (in_p4 (List.mem_of_getElem? (i := 11) rfl)) (by decide +kernel)
theorem ps_4_12 : Cond.selects "HourLets$LawText" ⟨"HourLets$LawText", "endCondition", "()Z"⟩ ⟨"HourLets$LawText", "endCondition", "()Z"⟩ ∈ TW := inTW (in_p4 (List.mem_of_getElem? (i := 12) rfl)) (by decide +kernel)
theorem ps_4_13 : Cond.selects "HourLets$LawText" ⟨"HourLets$LawText", "joinOn", "(I)V"⟩ ⟨"HourLets$LawText", "joinOn", "(I)V"⟩ ∈ TW := inTW (in_p4 (List.mem_of_getElem? (i := 13) rfl)) (by decide +kernel)
theorem ps_4_14 : Cond.selects "HourLets" ⟨"HourLets", "needTenant", "(I)V"⟩ ⟨"HourLets", "needTenant", "(I)V"⟩ ∈ TW := inTW (in_p4 (List.mem_of_getElem? (i := 14) rfl)) (by decide +kernel)
theorem ps_4_15 : Cond.selects "HourLets$World" ⟨"HourLets$World", "homeOf", "(I)I"⟩ ⟨"HourLets$World", "homeOf", "(I)I"⟩ ∈ TW := inTW (in_p4 (List.mem_of_getElem? (i := 15) rfl)) (by decide +kernel)
theorem ps_5_0 : Cond.selects "HourLets$World" ⟨"HourLets$World", "rentOfAll", "(I)I"⟩ ⟨"HourLets$World", "rentOfAll", "(I)I"⟩ ∈ TW := inTW (in_p5 (List.mem_of_getElem? (i := 0) rfl)) (by decide +kernel)
theorem ps_5_1 : Cond.selects "HourLets$World" ⟨"HourLets$World", "rentOf", "(II)I"⟩ ⟨"HourLets$World", "rentOf", "(II)I"⟩ ∈ TW := inTW (in_p5 (List.mem_of_getElem? (i := 1) rfl)) (by decide +kernel)
theorem ps_5_2 : Cond.selects "HourLets$Law" ⟨"HourLets$Law", "sumOfLines", "(I[I)I"⟩ ⟨"HourLets$Law", "sumOfLines", "(I[I)I"⟩ ∈ TW := inTW (in_p5 (List.mem_of_getElem? (i := 2) rfl)) (by decide +kernel)
theorem ps_5_3 : Cond.selects "HourLets$World" ⟨"HourLets$World", "goodsOfAll", "(I)I"⟩ ⟨"HourLets$World", "goodsOfAll", "(I)I"⟩ ∈ TW := inTW (in_p5 (List.mem_of_getElem? (i := 3) rfl)) (by decide +kernel)
theorem ps_5_4 : Cond.selects "HourLets$World" ⟨"HourLets$World", "valueOf", "(II)I"⟩ ⟨"HourLets$World", "valueOf", "(II)I"⟩ ∈ TW := inTW (in_p5 (List.mem_of_getElem? (i := 4) rfl)) (by decide +kernel)
theorem ps_5_5 : Cond.selects "HourLets$World" ⟨"HourLets$World", "mayTake", "(III)Z"⟩ ⟨"HourLets$World", "mayTake", "(III)Z"⟩ ∈ TW := inTW (in_p5 (List.mem_of_getElem? (i := 5) rfl)) (by decide +kernel)
theorem ps_5_6 : Cond.selects "HourLets" ⟨"HourLets", "remember", "()V"⟩ ⟨"HourLets", "remember", "()V"⟩ ∈ TW := inTW (in_p5 (List.mem_of_getElem? (i := 6) rfl)) (by decide +kernel)
theorem ps_5_7 : Cond.selects "HourLets$World" ⟨"HourLets$World", "giveTo", "(III)I"⟩ ⟨"HourLets$World", "giveTo", "(III)I"⟩ ∈ TW := inTW (in_p5 (List.mem_of_getElem? (i := 7) rfl)) (by decide +kernel)
theorem ps_5_8 : Cond.selects "HourLets$World" ⟨"HourLets$World", "pay", "(II)V"⟩ ⟨"HourLets$World", "pay", "(II)V"⟩ ∈ TW := inTW (in_p5 (List.mem_of_getElem? (i := 8) rfl)) (by decide +kernel)
theorem ps_5_9 : Cond.selects "HourLets$Town" ⟨"HourLets$Town", "comeTo", "(III)V"⟩ ⟨"HourLets$Town", "comeTo", "(III)V"⟩ ∈ TW := inTW (in_p5 (List.mem_of_getElem? (i := 9) rfl)) (by decide +kernel)
theorem ps_5_10 : Cond.selects "HourLets$Town" ⟨"HourLets$Town", "enter", "(III)V"⟩ ⟨"HourLets$Town", "enter", "(III)V"⟩ ∈ TW := inTW (in_p5 (List.mem_of_getElem? (i := 10) rfl)) (by decide +kernel)
theorem ps_5_11 : Cond.selects "HourLets$World" ⟨"HourLets$World", "maySublet", "(III)Z"⟩ ⟨"HourLets$World", "maySublet", "(III)Z"⟩ ∈ TW := inTW (in_p5 (List.mem_of_getElem? (i := 11) rfl)) (by decide +kernel)
theorem ps_5_12 : Cond.selects "HourLets$World" ⟨"HourLets$World", "subletTo", "(III)V"⟩ ⟨"HourLets$World", "subletTo", "(III)V"⟩ ∈ TW := inTW (in_p5 (List.mem_of_getElem? (i := 12) rfl)) (by decide +kernel)
theorem ps_5_13 : Cond.selects "HourLets$World" ⟨"HourLets$World", "putOut", "(I)I"⟩ ⟨"HourLets$World", "putOut", "(I)I"⟩ ∈ TW := inTW (in_p5 (List.mem_of_getElem? (i := 13) rfl)) (by decide +kernel)
theorem ps_5_14 : Cond.selects "HourLets$World" ⟨"HourLets$World", "maySwap", "(II)Z"⟩ ⟨"HourLets$World", "maySwap", "(II)Z"⟩ ∈ TW := inTW (in_p5 (List.mem_of_getElem? (i := 14) rfl)) (by decide +kernel)
theorem ps_5_15 : Cond.selects "HourLets$World" ⟨"HourLets$World", "tickOn", "()V"⟩ ⟨"HourLets$World", "tickOn", "()V"⟩ ∈ TW := inTW (in_p5 (List.mem_of_getElem? (i := 15) rfl)) (by decide +kernel)
theorem ps_6_0 : Cond.selects "HourLets$World" ⟨"HourLets$World", "payRents", "(I)V"⟩ ⟨"HourLets$World", "payRents", "(I)V"⟩ ∈ TW := inTW (in_p6 (List.mem_of_getElem? (i := 0) rfl)) (by decide +kernel)
theorem ps_6_1 : Cond.selects "HourLets$World" ⟨"HourLets$World", "drawRoom", "(I)V"⟩ ⟨"HourLets$World", "drawRoom", "(I)V"⟩ ∈ TW := inTW (in_p6 (List.mem_of_getElem? (i := 1) rfl)) (by decide +kernel)
theorem ps_6_2 : Cond.selects "HourLets$Town" ⟨"HourLets$Town", "draw", "()I"⟩ ⟨"HourLets$Town", "draw", "()I"⟩ ∈ TW := inTW (in_p6 (List.mem_of_getElem? (i := 2) rfl)) (by decide +kernel)
theorem ps_6_3 : Cond.selects "HourLets$Streets" ⟨"HourLets$Streets", "sideBySide", "(IIZ)I"⟩ ⟨"HourLets$Streets", "sideBySide", "(IIZ)I"⟩ ∈ TW := inTW (in_p6 (List.mem_of_getElem? (i := 3) rfl)) (by decide +kernel)
theorem ps_6_4 : Cond.selects "HourLets$Streets" ⟨"HourLets$Streets", "firstMeeting", "(II)I"⟩ ⟨"HourLets$Streets", "firstMeeting", "(II)I"⟩ ∈ TW := inTW (in_p6 (List.mem_of_getElem? (i := 4) rfl)) (by decide +kernel)
theorem ps_6_5 : Cond.selects "HourLets$Deals" ⟨"HourLets$Deals", "cheapest", "(III)I"⟩ ⟨"HourLets$Deals", "cheapest", "(III)I"⟩ ∈ TW := inTW (in_p6 (List.mem_of_getElem? (i := 5) rfl)) (by decide +kernel)
theorem ps_6_6 : Cond.selects "HourLets$Deals" ⟨"HourLets$Deals", "cheapestLeft", "()I"⟩ ⟨"HourLets$Deals", "cheapestLeft", "()I"⟩ ∈ TW := inTW (in_p6 (List.mem_of_getElem? (i := 6) rfl)) (by decide +kernel)
theorem ps_6_7 : Cond.selects "HourLets$Deals" ⟨"HourLets$Deals", "chosen", "(I)I"⟩ ⟨"HourLets$Deals", "chosen", "(I)I"⟩ ∈ TW := inTW (in_p6 (List.mem_of_getElem? (i := 7) rfl)) (by decide +kernel)
theorem ps_6_8 : Cond.selects "HourLets$Fitting" ⟨"HourLets$Fitting", "wantOf", "(I)I"⟩ ⟨"HourLets$Fitting", "wantOf", "(I)I"⟩ ∈ TW := inTW (in_p6 (List.mem_of_getElem? (i := 8) rfl)) (by decide +kernel)
theorem ps_6_9 : Cond.selects "HourLets$Deals" ⟨"HourLets$Deals", "enviedBy", "(I)I"⟩ ⟨"HourLets$Deals", "enviedBy", "(I)I"⟩ ∈ TW := inTW (in_p6 (List.mem_of_getElem? (i := 9) rfl)) (by decide +kernel)
theorem ps_6_10 : Cond.selects "HourLets$Deals" ⟨"HourLets$Deals", "seat", "(I)Z"⟩ ⟨"HourLets$Deals", "seat", "(I)Z"⟩ ∈ TW := inTW (in_p6 (List.mem_of_getElem? (i := 10) rfl)) (by decide +kernel)
theorem ps_6_11 : Cond.selects "HourLets$Deals" ⟨"HourLets$Deals", "dealFairly", "(I)I"⟩ ⟨"HourLets$Deals", "dealFairly", "(I)I"⟩ ∈ TW := inTW (in_p6 (List.mem_of_getElem? (i := 11) rfl)) (by decide +kernel)
theorem ps_6_12 : Cond.selects "HourLets$Deals" ⟨"HourLets$Deals", "isFair", "()Z"⟩ ⟨"HourLets$Deals", "isFair", "()Z"⟩ ∈ TW := inTW (in_p6 (List.mem_of_getElem? (i := 12) rfl)) (by decide +kernel)
theorem ps_6_13 : Cond.selects "HourLets$Deals" ⟨"HourLets$Deals", "worthOfSeat", "(II)I"⟩ ⟨"HourLets$Deals", "worthOfSeat", "(II)I"⟩ ∈ TW := inTW (in_p6 (List.mem_of_getElem? (i := 13) rfl)) (by decide +kernel)
theorem ps_6_14 : Cond.selects "HourLets$Deals" ⟨"HourLets$Deals", "dealNext", "()V"⟩ ⟨"HourLets$Deals", "dealNext", "()V"⟩ ∈ TW := inTW (in_p6 (List.mem_of_getElem? (i := 14) rfl)) (by decide +kernel)
theorem ps_6_15 : Cond.selects "HourLets$Deals" ⟨"HourLets$Deals", "dealtTo", "(I)I"⟩ ⟨"HourLets$Deals", "dealtTo", "(I)I"⟩ ∈ TW := inTW (in_p6 (List.mem_of_getElem? (i := 15) rfl)) (by decide +kernel)
theorem ps_7_0 : Cond.selects "HourLets$Deals" ⟨"HourLets$Deals", "findRing", "(I)I"⟩ ⟨"HourLets$Deals", "findRing", "(I)I"⟩ ∈ TW := inTW (in_p7 (List.mem_of_getElem? (i := 0) rfl)) (by decide +kernel)
theorem ps_7_1 : Cond.selects "HourLets$Deals" ⟨"HourLets$Deals", "pointsTo", "(I)I"⟩ ⟨"HourLets$Deals", "pointsTo", "(I)I"⟩ ∈ TW := inTW (in_p7 (List.mem_of_getElem? (i := 1) rfl)) (by decide +kernel)
theorem ps_7_2 : Cond.selects "HourLets$Deals" ⟨"HourLets$Deals", "mayPointTo", "(II)Z"⟩ ⟨"HourLets$Deals", "mayPointTo", "(II)Z"⟩ ∈ TW := inTW (in_p7 (List.mem_of_getElem? (i := 2) rfl)) (by decide +kernel)
theorem ps_7_3 : Cond.selects "HourLets$Deals" ⟨"HourLets$Deals", "pointedBy", "(I)I"⟩ ⟨"HourLets$Deals", "pointedBy", "(I)I"⟩ ∈ TW := inTW (in_p7 (List.mem_of_getElem? (i := 3) rfl)) (by decide +kernel)
theorem ps_7_4 : Cond.selects "HourLets$Deals" ⟨"HourLets$Deals", "turnRing", "(I)V"⟩ ⟨"HourLets$Deals", "turnRing", "(I)V"⟩ ∈ TW := inTW (in_p7 (List.mem_of_getElem? (i := 4) rfl)) (by decide +kernel)
theorem ps_7_5 : Cond.selects "HourLets$Streets" ⟨"HourLets$Streets", "ticksToHear", "(II)I"⟩ ⟨"HourLets$Streets", "ticksToHear", "(II)I"⟩ ∈ TW := inTW (in_p7 (List.mem_of_getElem? (i := 5) rfl)) (by decide +kernel)
theorem ps_7_6 : Cond.selects "HourLets$Streets" ⟨"HourLets$Streets", "toldOn", "(II)I"⟩ ⟨"HourLets$Streets", "toldOn", "(II)I"⟩ ∈ TW := inTW (in_p7 (List.mem_of_getElem? (i := 6) rfl)) (by decide +kernel)
theorem ps_7_7 : Cond.selects "HourLets$Streets" ⟨"HourLets$Streets", "knowBehind", "(II)I"⟩ ⟨"HourLets$Streets", "knowBehind", "(II)I"⟩ ∈ TW := inTW (in_p7 (List.mem_of_getElem? (i := 7) rfl)) (by decide +kernel)
theorem ps_7_8 : Cond.selects "HourLets$Streets" ⟨"HourLets$Streets", "withChildren", "(I)I"⟩ ⟨"HourLets$Streets", "withChildren", "(I)I"⟩ ∈ TW := inTW (in_p7 (List.mem_of_getElem? (i := 8) rfl)) (by decide +kernel)
theorem ps_7_9 : Cond.selects "HourLets$Streets" ⟨"HourLets$Streets", "fewestEvictions", "(IIZ)I"⟩ ⟨"HourLets$Streets", "fewestEvictions", "(IIZ)I"⟩ ∈ TW := inTW (in_p7 (List.mem_of_getElem? (i := 9) rfl)) (by decide +kernel)
theorem ps_7_10 : Cond.selects "HourLets$Streets" ⟨"HourLets$Streets", "costOf", "(II)I"⟩ ⟨"HourLets$Streets", "costOf", "(II)I"⟩ ∈ TW := inTW (in_p7 (List.mem_of_getElem? (i := 10) rfl)) (by decide +kernel)
theorem ps_7_11 : Cond.selects "HourLets$Streets" ⟨"HourLets$Streets", "costOfRow", "(II)I"⟩ ⟨"HourLets$Streets", "costOfRow", "(II)I"⟩ ∈ TW := inTW (in_p7 (List.mem_of_getElem? (i := 11) rfl)) (by decide +kernel)
theorem ps_7_12 : Cond.selects "HourLets" ⟨"HourLets", "needAllRooms", "(II)V"⟩ ⟨"HourLets", "needAllRooms", "(II)V"⟩ ∈ TW := inTW (in_p7 (List.mem_of_getElem? (i := 12) rfl)) (by decide +kernel)
theorem ps_7_13 : Cond.selects "HourLets$Streets" ⟨"HourLets$Streets", "nearBy", "(I)I"⟩ ⟨"HourLets$Streets", "nearBy", "(I)I"⟩ ∈ TW := inTW (in_p7 (List.mem_of_getElem? (i := 13) rfl)) (by decide +kernel)
theorem ps_7_14 : Cond.selects "HourLets$Streets" ⟨"HourLets$Streets", "livedInRow", "(III)I"⟩ ⟨"HourLets$Streets", "livedInRow", "(III)I"⟩ ∈ TW := inTW (in_p7 (List.mem_of_getElem? (i := 14) rfl)) (by decide +kernel)
theorem ps_7_15 : Cond.selects "HourLets$Streets" ⟨"HourLets$Streets", "mostInRow", "(II)I"⟩ ⟨"HourLets$Streets", "mostInRow", "(II)I"⟩ ∈ TW := inTW (in_p7 (List.mem_of_getElem? (i := 15) rfl)) (by decide +kernel)
theorem ps_8_0 : Cond.selects "HourLets$Town" ⟨"HourLets$Town", "entryAgo", "(I)I"⟩ ⟨"HourLets$Town", "entryAgo", "(I)I"⟩ ∈ TW := inTW (in_p8 (List.mem_of_getElem? (i := 0) rfl)) (by decide +kernel)
theorem ps_8_1 : Cond.selects "HourLetsModel" ⟨"HourLetsModel", "begins", "()V"⟩ ⟨"HourLetsModel", "begins", "()V"⟩ ∈ TW := inTW (in_p8 (List.mem_of_getElem? (i := 1) rfl)) (by decide +kernel)
theorem ps_8_2 : Cond.selects "HourLetsModel" ⟨"HourLetsModel", "read", "(Z)I"⟩ ⟨"HourLetsModel", "read", "(Z)I"⟩ ∈ TW := inTW (in_p8 (List.mem_of_getElem? (i := 2) rfl)) (by decide +kernel)
theorem ps_8_3 : Cond.selects "HourLetsModel" ⟨"HourLetsModel", "skip", "()V"⟩ ⟨"HourLetsModel", "skip", "()V"⟩ ∈ TW := inTW (in_p8 (List.mem_of_getElem? (i := 3) rfl)) (by decide +kernel)
theorem ps_8_4 : Cond.selects "HourLetsModel" ⟨"HourLetsModel", "letter", "(I)I"⟩ ⟨"HourLetsModel", "letter", "(I)I"⟩ ∈ TW := inTW (in_p8 (List.mem_of_getElem? (i := 4) rfl)) (by decide +kernel)
theorem ps_8_5 : Cond.selects "HourLetsModel" ⟨"HourLetsModel", "wrong", "(I)V"⟩ ⟨"HourLetsModel", "wrong", "(I)V"⟩ ∈ TW := inTW (in_p8 (List.mem_of_getElem? (i := 5) rfl)) (by decide +kernel)
theorem ps_8_6 : Cond.selects "HourLetsModel" ⟨"HourLetsModel", "lawLine", "()V"⟩ ⟨"HourLetsModel", "lawLine", "()V"⟩ ∈ TW := inTW (in_p8 (List.mem_of_getElem? (i := 6) rfl)) (by decide +kernel)
theorem ps_8_7 : Cond.selects "HourLetsModel" ⟨"HourLetsModel", "has", "(Ljava/lang/String;)Z"⟩ ⟨"HourLetsModel", "has", "(Ljava/lang/String;)Z"⟩ ∈ TW := inTW (in_p8 (List.mem_of_getElem? (i := 7) rfl)) (by decide +kernel)
theorem ps_8_8 : Cond.selects "HourLetsModel" ⟨"HourLetsModel", "figures", "(III)I"⟩ ⟨"HourLetsModel", "figures", "(III)I"⟩ ∈ TW := inTW (in_p8 (List.mem_of_getElem? (i := 8) rfl)) (by decide +kernel)
theorem ps_8_9 : Cond.selects "HourLetsModel" ⟨"HourLetsModel", "place", "()I"⟩ ⟨"HourLetsModel", "place", "()I"⟩ ∈ TW := inTW (in_p8 (List.mem_of_getElem? (i := 9) rfl)) (by decide +kernel)
theorem ps_8_10 : Cond.selects "HourLetsModel" ⟨"HourLetsModel", "some", "()Z"⟩ ⟨"HourLetsModel", "some", "()Z"⟩ ∈ TW := inTW (in_p8 (List.mem_of_getElem? (i := 10) rfl)) (by decide +kernel)
theorem ps_8_11 : Cond.selects "HourLetsModel" ⟨"HourLetsModel", "every", "()Z"⟩ ⟨"HourLetsModel", "every", "()Z"⟩ ∈ TW := inTW (in_p8 (List.mem_of_getElem? (i := 11) rfl)) (by decide +kernel)
theorem ps_8_12 : Cond.selects "HourLetsModel" ⟨"HourLetsModel", "atom", "()Z"⟩ ⟨"HourLetsModel", "atom", "()Z"⟩ ∈ TW := inTW (in_p8 (List.mem_of_getElem? (i := 12) rfl)) (by decide +kernel)
theorem ps_8_13 : Cond.selects "HourLetsModel" ⟨"HourLetsModel", "isSign", "(I)Z"⟩ ⟨"HourLetsModel", "isSign", "(I)Z"⟩ ∈ TW := inTW (in_p8 (List.mem_of_getElem? (i := 13) rfl)) (by decide +kernel)
theorem ps_8_14 : Cond.selects "HourLetsModel" ⟨"HourLetsModel", "plain", "()Z"⟩ ⟨"HourLetsModel", "plain", "()Z"⟩ ∈ TW := inTW (in_p8 (List.mem_of_getElem? (i := 14) rfl)) (by decide +kernel)
theorem ps_8_15 : Cond.selects "HourLetsModel" ⟨"HourLetsModel", "sum", "()I"⟩ ⟨"HourLetsModel", "sum", "()I"⟩ ∈ TW := inTW (in_p8 (List.mem_of_getElem? (i := 15) rfl)) (by decide +kernel)
theorem ps_9_0 : Cond.selects "HourLetsModel" ⟨"HourLetsModel", "part", "()I"⟩ ⟨"HourLetsModel", "part", "()I"⟩ ∈ TW := inTW (in_p9 (List.mem_of_getElem? (i := 0) rfl)) (by decide +kernel)
theorem ps_9_1 : Cond.selects "HourLetsModel" ⟨"HourLetsModel", "townLine", "()V"⟩ ⟨"HourLetsModel", "townLine", "()V"⟩ ∈ TW := inTW (in_p9 (List.mem_of_getElem? (i := 1) rfl)) (by decide +kernel)
theorem ps_9_2 : Cond.selects "HourLetsModel" ⟨"HourLetsModel", "tenantLine", "(I)V"⟩ ⟨"HourLetsModel", "tenantLine", "(I)V"⟩ ∈ TW := inTW (in_p9 (List.mem_of_getElem? (i := 2) rfl)) (by decide +kernel)
theorem ps_9_3 : Cond.selects "HourLetsModel" ⟨"HourLetsModel", "must", "(Ljava/lang/String;)V"⟩ ⟨"HourLetsModel", "must", "(Ljava/lang/String;)V"⟩ ∈ TW := inTW (in_p9 (List.mem_of_getElem? (i := 3) rfl)) (by decide +kernel)
theorem ps_9_4 : Cond.selects "HourLetsModel" ⟨"HourLetsModel", "comes", "(IIII)V"⟩ ⟨"HourLetsModel", "comes", "(IIII)V"⟩ ∈ TW := inTW (in_p9 (List.mem_of_getElem? (i := 4) rfl)) (by decide +kernel)
theorem ps_9_5 : Cond.selects "HourLetsModel" ⟨"HourLetsModel", "tenantHere", "()I"⟩ ⟨"HourLetsModel", "tenantHere", "()I"⟩ ∈ TW := inTW (in_p9 (List.mem_of_getElem? (i := 5) rfl)) (by decide +kernel)
theorem ps_9_6 : Cond.selects "HourLetsModel" ⟨"HourLetsModel", "isChild", "(I)Z"⟩ ⟨"HourLetsModel", "isChild", "(I)Z"⟩ ∈ TW := inTW (in_p9 (List.mem_of_getElem? (i := 6) rfl)) (by decide +kernel)
theorem ps_9_7 : Cond.selects "HourLetsModel" ⟨"HourLetsModel", "of", "(II)I"⟩ ⟨"HourLetsModel", "of", "(II)I"⟩ ∈ TW := inTW (in_p9 (List.mem_of_getElem? (i := 7) rfl)) (by decide +kernel)
theorem ps_9_8 : Cond.selects "HourLetsModel" ⟨"HourLetsModel", "letLine", "()V"⟩ ⟨"HourLetsModel", "letLine", "()V"⟩ ∈ TW := inTW (in_p9 (List.mem_of_getElem? (i := 8) rfl)) (by decide +kernel)
theorem ps_9_9 : Cond.selects "HourLetsModel" ⟨"HourLetsModel", "ofRoom", "(II)I"⟩ ⟨"HourLetsModel", "ofRoom", "(II)I"⟩ ∈ TW := inTW (in_p9 (List.mem_of_getElem? (i := 9) rfl)) (by decide +kernel)
theorem ps_9_10 : Cond.selects "HourLetsModel" ⟨"HourLetsModel", "has", "(III)V"⟩ ⟨"HourLetsModel", "has", "(III)V"⟩ ∈ TW := inTW (in_p9 (List.mem_of_getElem? (i := 10) rfl)) (by decide +kernel)
theorem ps_9_11 : Cond.selects "HourLetsModel" ⟨"HourLetsModel", "roomHere", "(Z)I"⟩ ⟨"HourLetsModel", "roomHere", "(Z)I"⟩ ∈ TW := inTW (in_p9 (List.mem_of_getElem? (i := 11) rfl)) (by decide +kernel)
theorem ps_9_12 : Cond.selects "HourLetsModel" ⟨"HourLetsModel", "wantLine", "()V"⟩ ⟨"HourLetsModel", "wantLine", "()V"⟩ ∈ TW := inTW (in_p9 (List.mem_of_getElem? (i := 12) rfl)) (by decide +kernel)
theorem ps_9_13 : Cond.selects "HourLetsModel" ⟨"HourLetsModel", "isTenant", "(I)Z"⟩ ⟨"HourLetsModel", "isTenant", "(I)Z"⟩ ∈ TW := inTW (in_p9 (List.mem_of_getElem? (i := 13) rfl)) (by decide +kernel)
theorem ps_9_14 : Cond.selects "HourLetsModel" ⟨"HourLetsModel", "ownsOf", "(I)I"⟩ ⟨"HourLetsModel", "ownsOf", "(I)I"⟩ ∈ TW := inTW (in_p9 (List.mem_of_getElem? (i := 14) rfl)) (by decide +kernel)
theorem ps_9_15 : Cond.selects "HourLetsModel" ⟨"HourLetsModel", "livesOf", "(I)I"⟩ ⟨"HourLetsModel", "livesOf", "(I)I"⟩ ∈ TW := inTW (in_p9 (List.mem_of_getElem? (i := 15) rfl)) (by decide +kernel)
theorem ps_10_0 : Cond.selects "HourLetsModel" ⟨"HourLetsModel", "adult", "(I)I"⟩ ⟨"HourLetsModel", "adult", "(I)I"⟩ ∈ TW := inTW (in_p10 (List.mem_of_getElem? (i := 0) rfl)) (by decide +kernel)
theorem ps_10_1 : Cond.selects "HourLetsModel" ⟨"HourLetsModel", "rentsOf", "(I)I"⟩ ⟨"HourLetsModel", "rentsOf", "(I)I"⟩ ∈ TW := inTW (in_p10 (List.mem_of_getElem? (i := 1) rfl)) (by decide +kernel)
theorem ps_10_2 : Cond.selects "HourLetsModel" ⟨"HourLetsModel", "rentOf", "(II)I"⟩ ⟨"HourLetsModel", "rentOf", "(II)I"⟩ ∈ TW := inTW (in_p10 (List.mem_of_getElem? (i := 2) rfl)) (by decide +kernel)
theorem ps_10_3 : Cond.selects "HourLetsModel" ⟨"HourLetsModel", "asks", "(II)V"⟩ ⟨"HourLetsModel", "asks", "(II)V"⟩ ∈ TW := inTW (in_p10 (List.mem_of_getElem? (i := 3) rfl)) (by decide +kernel)
theorem ps_10_4 : Cond.selects "HourLetsModel" ⟨"HourLetsModel", "livesIn", "(I)I"⟩ ⟨"HourLetsModel", "livesIn", "(I)I"⟩ ∈ TW := inTW (in_p10 (List.mem_of_getElem? (i := 4) rfl)) (by decide +kernel)
theorem ps_10_5 : Cond.selects "HourLetsModel" ⟨"HourLetsModel", "goodsOf", "(I)I"⟩ ⟨"HourLetsModel", "goodsOf", "(I)I"⟩ ∈ TW := inTW (in_p10 (List.mem_of_getElem? (i := 5) rfl)) (by decide +kernel)
theorem ps_10_6 : Cond.selects "HourLetsModel" ⟨"HourLetsModel", "mayTake", "(II)Z"⟩ ⟨"HourLetsModel", "mayTake", "(II)Z"⟩ ∈ TW := inTW (in_p10 (List.mem_of_getElem? (i := 6) rfl)) (by decide +kernel)
theorem ps_10_7 : Cond.selects "HourLetsModel" ⟨"HourLetsModel", "remembers", "()V"⟩ ⟨"HourLetsModel", "remembers", "()V"⟩ ∈ TW := inTW (in_p10 (List.mem_of_getElem? (i := 7) rfl)) (by decide +kernel)
theorem ps_10_8 : Cond.selects "HourLetsModel" ⟨"HourLetsModel", "takes", "(III)I"⟩ ⟨"HourLetsModel", "takes", "(III)I"⟩ ∈ TW := inTW (in_p10 (List.mem_of_getElem? (i := 8) rfl)) (by decide +kernel)
theorem ps_10_9 : Cond.selects "HourLetsModel" ⟨"HourLetsModel", "pays", "(II)V"⟩ ⟨"HourLetsModel", "pays", "(II)V"⟩ ∈ TW := inTW (in_p10 (List.mem_of_getElem? (i := 9) rfl)) (by decide +kernel)
theorem ps_10_10 : Cond.selects "HourLetsModel" ⟨"HourLetsModel", "writes", "(III)V"⟩ ⟨"HourLetsModel", "writes", "(III)V"⟩ ∈ TW := inTW (in_p10 (List.mem_of_getElem? (i := 10) rfl)) (by decide +kernel)
theorem ps_10_11 : Cond.selects "HourLetsModel" ⟨"HourLetsModel", "maySublet", "(III)Z"⟩ ⟨"HourLetsModel", "maySublet", "(III)Z"⟩ ∈ TW := inTW (in_p10 (List.mem_of_getElem? (i := 11) rfl)) (by decide +kernel)
theorem ps_10_12 : Cond.selects "HourLetsModel" ⟨"HourLetsModel", "isSublet", "(I)Z"⟩ ⟨"HourLetsModel", "isSublet", "(I)Z"⟩ ∈ TW := inTW (in_p10 (List.mem_of_getElem? (i := 12) rfl)) (by decide +kernel)
theorem ps_10_13 : Cond.selects "HourLetsModel" ⟨"HourLetsModel", "isBarred", "(II)Z"⟩ ⟨"HourLetsModel", "isBarred", "(II)Z"⟩ ∈ TW := inTW (in_p10 (List.mem_of_getElem? (i := 13) rfl)) (by decide +kernel)
theorem ps_10_14 : Cond.selects "HourLetsModel" ⟨"HourLetsModel", "maySwap", "(II)Z"⟩ ⟨"HourLetsModel", "maySwap", "(II)Z"⟩ ∈ TW := inTW (in_p10 (List.mem_of_getElem? (i := 14) rfl)) (by decide +kernel)
theorem ps_10_15 : Cond.selects "HourLetsModel" ⟨"HourLetsModel", "weekMore", "()V"⟩ ⟨"HourLetsModel", "weekMore", "()V"⟩ ∈ TW := inTW (in_p10 (List.mem_of_getElem? (i := 15) rfl)) (by decide +kernel)
theorem ps_11_0 : Cond.selects "HourLetsModel" ⟨"HourLetsModel", "rentsDue", "()V"⟩ ⟨"HourLetsModel", "rentsDue", "()V"⟩ ∈ TW := inTW (in_p11 (List.mem_of_getElem? (i := 0) rfl)) (by decide +kernel)
theorem ps_11_1 : Cond.selects "HourLetsModel" ⟨"HourLetsModel", "draw", "(I)I"⟩ ⟨"HourLetsModel", "draw", "(I)I"⟩ ∈ TW := inTW (in_p11 (List.mem_of_getElem? (i := 1) rfl)) (by decide +kernel)
theorem ps_11_2 : Cond.selects "HourLetsModel" ⟨"HourLetsModel", "areNeighbours", "(III)Z"⟩ ⟨"HourLetsModel", "areNeighbours", "(III)Z"⟩ ∈ TW := inTW (in_p11 (List.mem_of_getElem? (i := 2) rfl)) (by decide +kernel)
theorem ps_11_3 : Cond.selects "HourLetsModel" ⟨"HourLetsModel", "runs", "(IIZ)I"⟩ ⟨"HourLetsModel", "runs", "(IIZ)I"⟩ ∈ TW := inTW (in_p11 (List.mem_of_getElem? (i := 3) rfl)) (by decide +kernel)
theorem ps_11_4 : Cond.selects "HourLetsModel" ⟨"HourLetsModel", "fits", "()V"⟩ ⟨"HourLetsModel", "fits", "()V"⟩ ∈ TW := inTW (in_p11 (List.mem_of_getElem? (i := 4) rfl)) (by decide +kernel)
theorem ps_11_5 : Cond.selects "HourLetsModel" ⟨"HourLetsModel", "isFor", "(II)Z"⟩ ⟨"HourLetsModel", "isFor", "(II)Z"⟩ ∈ TW := inTW (in_p11 (List.mem_of_getElem? (i := 5) rfl)) (by decide +kernel)
theorem ps_11_6 : Cond.selects "HourLetsModel" ⟨"HourLetsModel", "counts", "(II)V"⟩ ⟨"HourLetsModel", "counts", "(II)V"⟩ ∈ TW := inTW (in_p11 (List.mem_of_getElem? (i := 6) rfl)) (by decide +kernel)
theorem ps_11_7 : Cond.selects "HourLetsModel" ⟨"HourLetsModel", "mostGiven", "()I"⟩ ⟨"HourLetsModel", "mostGiven", "()I"⟩ ∈ TW := inTW (in_p11 (List.mem_of_getElem? (i := 7) rfl)) (by decide +kernel)
theorem ps_11_8 : Cond.selects "HourLetsModel" ⟨"HourLetsModel", "valuesOf", "(II)I"⟩ ⟨"HourLetsModel", "valuesOf", "(II)I"⟩ ∈ TW := inTW (in_p11 (List.mem_of_getElem? (i := 8) rfl)) (by decide +kernel)
theorem ps_11_9 : Cond.selects "HourLetsModel" ⟨"HourLetsModel", "valueOf", "(II)I"⟩ ⟨"HourLetsModel", "valueOf", "(II)I"⟩ ∈ TW := inTW (in_p11 (List.mem_of_getElem? (i := 9) rfl)) (by decide +kernel)
theorem ps_11_10 : Cond.selects "HourLetsModel" ⟨"HourLetsModel", "isFair", "(I)Z"⟩ ⟨"HourLetsModel", "isFair", "(I)Z"⟩ ∈ TW := inTW (in_p11 (List.mem_of_getElem? (i := 10) rfl)) (by decide +kernel)
theorem ps_11_11 : Cond.selects "HourLetsModel" ⟨"HourLetsModel", "rings", "(I)I"⟩ ⟨"HourLetsModel", "rings", "(I)I"⟩ ∈ TW := inTW (in_p11 (List.mem_of_getElem? (i := 11) rfl)) (by decide +kernel)
theorem ps_11_12 : Cond.selects "HourLetsModel" ⟨"HourLetsModel", "pointsTo", "(I)I"⟩ ⟨"HourLetsModel", "pointsTo", "(I)I"⟩ ∈ TW := inTW (in_p11 (List.mem_of_getElem? (i := 12) rfl)) (by decide +kernel)
theorem ps_11_13 : Cond.selects "HourLetsModel" ⟨"HourLetsModel", "family", "(I)I"⟩ ⟨"HourLetsModel", "family", "(I)I"⟩ ∈ TW := inTW (in_p11 (List.mem_of_getElem? (i := 13) rfl)) (by decide +kernel)
theorem ps_11_14 : Cond.selects "HourLetsModel" ⟨"HourLetsModel", "tells", "(II)I"⟩ ⟨"HourLetsModel", "tells", "(II)I"⟩ ∈ TW := inTW (in_p11 (List.mem_of_getElem? (i := 14) rfl)) (by decide +kernel)
theorem ps_11_15 : Cond.selects "HourLetsModel" ⟨"HourLetsModel", "livesAmong", "(III)I"⟩ ⟨"HourLetsModel", "livesAmong", "(III)I"⟩ ∈ TW := inTW (in_p11 (List.mem_of_getElem? (i := 15) rfl)) (by decide +kernel)
theorem ps_12_0 : Cond.selects "HourLetsModel" ⟨"HourLetsModel", "roomsNow", "(I)I"⟩ ⟨"HourLetsModel", "roomsNow", "(I)I"⟩ ∈ TW := inTW (in_p12 (List.mem_of_getElem? (i := 0) rfl)) (by decide +kernel)
theorem ps_12_1 : Cond.selects "HourLetsModel" ⟨"HourLetsModel", "coinsNow", "()I"⟩ ⟨"HourLetsModel", "coinsNow", "()I"⟩ ∈ TW := inTW (in_p12 (List.mem_of_getElem? (i := 1) rfl)) (by decide +kernel)
theorem xs_0 : Cond.selects "HourLets$TownText" ⟨"HourLets$Text", "isBetween", "(ICC)Z"⟩ ⟨"HourLets$Text", "isBetween", "(ICC)Z"⟩ ∈ TW := inTX (List.mem_of_getElem? (i := 0) rfl) (by decide +kernel)
theorem xs_1 : Cond.selects "HourLets$LawText" ⟨"HourLets$Text", "isBetween", "(ICC)Z"⟩ ⟨"HourLets$Text", "isBetween", "(ICC)Z"⟩ ∈ TW := inTX (List.mem_of_getElem? (i := 1) rfl) (by decide +kernel)
theorem uw_X0 : ∀ w ∈ u_ws RX0 TX0 11, w ∈ TW := (show ∀ w ∈ ([(Jvm.Cond.laysFinal "HourLets$Deals" "HourLets$Deals" "world" "LHourLets$World;"), (Jvm.Cond.laysFinal "HourLets$Deals" "HourLets$Deals" "town" "LHourLets$Town;"), (Jvm.Cond.laysFinal "HourLets$Deals" "HourLets$Deals" "prices" "[I"), (Jvm.Cond.laysFinal "HourLets$Deals" "HourLets$Deals" "worth" "[I"), (Jvm.Cond.laysFinal "HourLets$Deals" "HourLets$Deals" "seats" "[I"), (Jvm.Cond.laysFinal "HourLets$Deals" "HourLets$Deals" "values" "[I"), (Jvm.Cond.laysFinal "HourLets$Deals" "HourLets$Deals" "dealt" "[I"), (Jvm.Cond.laysFinal "HourLets$Deals" "HourLets$Deals" "firstDealt" "[I"), (Jvm.Cond.laysFinal "HourLets$Deals" "HourLets$Deals" "ringWho" "[I"), (Jvm.Cond.laysFinal "HourLets$Deals" "HourLets$Deals" "ringRoom" "[I"), (Jvm.Cond.lays "HourLets$Deals" "HourLets$Deals" "seated" "I")] : List Cond), w ∈ TW from List.forall_mem_cons.mpr ⟨tw_2_111, List.forall_mem_cons.mpr ⟨tw_2_113, List.forall_mem_cons.mpr ⟨tw_2_115, List.forall_mem_cons.mpr ⟨tw_2_117, List.forall_mem_cons.mpr ⟨tw_2_119, List.forall_mem_cons.mpr ⟨tw_2_121, List.forall_mem_cons.mpr ⟨tw_2_123, List.forall_mem_cons.mpr ⟨tw_2_125, List.forall_mem_cons.mpr ⟨tw_2_127, List.forall_mem_cons.mpr ⟨tw_2_129, List.forall_mem_cons.mpr ⟨tw_2_131, (fun _ h => absurd h List.not_mem_nil)⟩⟩⟩⟩⟩⟩⟩⟩⟩⟩⟩)
theorem uw_X1 : ∀ w ∈ u_ws RX1 TX1 6, w ∈ TW := (show ∀ w ∈ ([(Jvm.Cond.laysFinal "HourLets$Fitting" "HourLets$Fitting" "world" "LHourLets$World;"), (Jvm.Cond.laysFinal "HourLets$Fitting" "HourLets$Fitting" "fits" "[I"), (Jvm.Cond.laysFinal "HourLets$Fitting" "HourLets$Fitting" "givenTo" "[I"), (Jvm.Cond.laysFinal "HourLets$Fitting" "HourLets$Fitting" "left" "[I"), (Jvm.Cond.laysFinal "HourLets$Fitting" "HourLets$Fitting" "spare" "[I"), (Jvm.Cond.lays "HourLets$Fitting" "HourLets$Fitting" "sets" "I")] : List Cond), w ∈ TW from List.forall_mem_cons.mpr ⟨tw_2_146, List.forall_mem_cons.mpr ⟨tw_2_148, List.forall_mem_cons.mpr ⟨tw_2_150, List.forall_mem_cons.mpr ⟨tw_2_152, List.forall_mem_cons.mpr ⟨tw_2_154, List.forall_mem_cons.mpr ⟨tw_2_156, (fun _ h => absurd h List.not_mem_nil)⟩⟩⟩⟩⟩⟩)
theorem uw_X2 : ∀ w ∈ u_ws RX2 TX2 6, w ∈ TW := (show ∀ w ∈ ([(Jvm.Cond.laysFinal "HourLets$Law" "HourLets$Law" "words" "[I"), (Jvm.Cond.laysFinal "HourLets$Law" "HourLets$Law" "begins" "[I"), (Jvm.Cond.laysFinal "HourLets$Law" "HourLets$Law" "kinds" "[I"), (Jvm.Cond.laysFinal "HourLets$Law" "HourLets$Law" "amounts" "[I"), (Jvm.Cond.laysFinal "HourLets$Law" "HourLets$Law" "stack" "[I"), (Jvm.Cond.lays "HourLets$Law" "HourLets$Law" "lines" "I")] : List Cond), w ∈ TW from List.forall_mem_cons.mpr ⟨tw_1_203, List.forall_mem_cons.mpr ⟨tw_1_205, List.forall_mem_cons.mpr ⟨tw_1_207, List.forall_mem_cons.mpr ⟨tw_1_209, List.forall_mem_cons.mpr ⟨tw_1_211, List.forall_mem_cons.mpr ⟨tw_1_213, (fun _ h => absurd h List.not_mem_nil)⟩⟩⟩⟩⟩⟩)
theorem uw_X3 : ∀ w ∈ u_ws RX3 TX3 12, w ∈ TW := (show ∀ w ∈ ([(Jvm.Cond.laysFinal "HourLets$LawText" "HourLets$Text" "bytes" "[I"), (Jvm.Cond.lays "HourLets$LawText" "HourLets$Text" "length" "I"), (Jvm.Cond.lays "HourLets$LawText" "HourLets$Text" "kind" "I"), (Jvm.Cond.lays "HourLets$LawText" "HourLets$Text" "begin" "I"), (Jvm.Cond.lays "HourLets$LawText" "HourLets$Text" "end" "I"), (Jvm.Cond.lays "HourLets$LawText" "HourLets$Text" "number" "I"), (Jvm.Cond.lays "HourLets$LawText" "HourLets$Text" "wrong" "I"), (Jvm.Cond.laysFinal "HourLets$LawText" "HourLets$LawText" "law" "LHourLets$Law;"), (Jvm.Cond.laysFinal "HourLets$LawText" "HourLets$LawText" "pending" "[I"), (Jvm.Cond.lays "HourLets$LawText" "HourLets$LawText" "waiting" "I"), (Jvm.Cond.lays "HourLets$LawText" "HourLets$LawText" "opened" "I"), (Jvm.Cond.lays "HourLets$LawText" "HourLets$LawText" "depth" "I")] : List Cond), w ∈ TW from List.forall_mem_cons.mpr ⟨tw_2_70, List.forall_mem_cons.mpr ⟨tw_2_71, List.forall_mem_cons.mpr ⟨tw_2_72, List.forall_mem_cons.mpr ⟨tw_2_73, List.forall_mem_cons.mpr ⟨tw_2_74, List.forall_mem_cons.mpr ⟨tw_2_75, List.forall_mem_cons.mpr ⟨tw_2_76, List.forall_mem_cons.mpr ⟨tw_2_60, List.forall_mem_cons.mpr ⟨tw_2_62, List.forall_mem_cons.mpr ⟨tw_2_64, List.forall_mem_cons.mpr ⟨tw_2_66, List.forall_mem_cons.mpr ⟨tw_2_68, (fun _ h => absurd h List.not_mem_nil)⟩⟩⟩⟩⟩⟩⟩⟩⟩⟩⟩⟩)
theorem uw_X4 : ∀ w ∈ u_ws RX4 TX4 13, w ∈ TW := (show ∀ w ∈ ([(Jvm.Cond.laysFinal "HourLets$Roll" "HourLets$Roll" "likesFrom" "[I"), (Jvm.Cond.laysFinal "HourLets$Roll" "HourLets$Roll" "likesTo" "[I"), (Jvm.Cond.laysFinal "HourLets$Roll" "HourLets$Roll" "mother" "[I"), (Jvm.Cond.laysFinal "HourLets$Roll" "HourLets$Roll" "shut" "[I"), (Jvm.Cond.laysFinal "HourLets$Roll" "HourLets$Roll" "wantOf" "[I"), (Jvm.Cond.laysFinal "HourLets$Roll" "HourLets$Roll" "wantRooms" "[I"), (Jvm.Cond.laysFinal "HourLets$Roll" "HourLets$Roll" "wantFrom" "[I"), (Jvm.Cond.laysFinal "HourLets$Roll" "HourLets$Roll" "wantTo" "[I"), (Jvm.Cond.lays "HourLets$Roll" "HourLets$Roll" "tenants" "I"), (Jvm.Cond.lays "HourLets$Roll" "HourLets$Roll" "wants" "I"), (Jvm.Cond.lays "HourLets$Roll" "HourLets$Roll" "chance" "I"), (Jvm.Cond.lays "HourLets$Roll" "HourLets$Roll" "texts" "I"), (Jvm.Cond.lays "HourLets$Roll" "HourLets$Roll" "told" "I")] : List Cond), w ∈ TW from List.forall_mem_cons.mpr ⟨tw_1_162, List.forall_mem_cons.mpr ⟨tw_1_164, List.forall_mem_cons.mpr ⟨tw_1_166, List.forall_mem_cons.mpr ⟨tw_1_168, List.forall_mem_cons.mpr ⟨tw_1_170, List.forall_mem_cons.mpr ⟨tw_1_172, List.forall_mem_cons.mpr ⟨tw_1_174, List.forall_mem_cons.mpr ⟨tw_1_176, List.forall_mem_cons.mpr ⟨tw_1_178, List.forall_mem_cons.mpr ⟨tw_1_180, List.forall_mem_cons.mpr ⟨tw_1_182, List.forall_mem_cons.mpr ⟨tw_1_184, List.forall_mem_cons.mpr ⟨tw_1_186, (fun _ h => absurd h List.not_mem_nil)⟩⟩⟩⟩⟩⟩⟩⟩⟩⟩⟩⟩⟩)
theorem uw_X5 : ∀ w ∈ u_ws RX5 TX5 3, w ∈ TW := (show ∀ w ∈ ([(Jvm.Cond.laysFinal "HourLets$Streets" "HourLets$Streets" "world" "LHourLets$World;"), (Jvm.Cond.laysFinal "HourLets$Streets" "HourLets$Streets" "town" "LHourLets$Town;"), (Jvm.Cond.laysFinal "HourLets$Streets" "HourLets$Streets" "costs" "[I")] : List Cond), w ∈ TW from List.forall_mem_cons.mpr ⟨tw_2_87, List.forall_mem_cons.mpr ⟨tw_2_89, List.forall_mem_cons.mpr ⟨tw_2_91, (fun _ h => absurd h List.not_mem_nil)⟩⟩⟩)
theorem uw_X7 : ∀ w ∈ u_ws RX7 TX7 12, w ∈ TW := (show ∀ w ∈ ([(Jvm.Cond.laysFinal "HourLets$Town" "HourLets$Town" "owner" "[I"), (Jvm.Cond.laysFinal "HourLets$Town" "HourLets$Town" "sub" "[I"), (Jvm.Cond.laysFinal "HourLets$Town" "HourLets$Town" "goods" "[I"), (Jvm.Cond.laysFinal "HourLets$Town" "HourLets$Town" "coins" "[I"), (Jvm.Cond.laysFinal "HourLets$Town" "HourLets$Town" "owned" "[I"), (Jvm.Cond.laysFinal "HourLets$Town" "HourLets$Town" "log" "[I"), (Jvm.Cond.lays "HourLets$Town" "HourLets$Town" "logNext" "I"), (Jvm.Cond.lays "HourLets$Town" "HourLets$Town" "logCount" "I"), (Jvm.Cond.lays "HourLets$Town" "HourLets$Town" "till" "I"), (Jvm.Cond.lays "HourLets$Town" "HourLets$Town" "week" "I"), (Jvm.Cond.lays "HourLets$Town" "HourLets$Town" "now" "I"), (Jvm.Cond.lays "HourLets$Town" "HourLets$Town" "seed" "I")] : List Cond), w ∈ TW from List.forall_mem_cons.mpr ⟨tw_1_91, List.forall_mem_cons.mpr ⟨tw_1_93, List.forall_mem_cons.mpr ⟨tw_1_95, List.forall_mem_cons.mpr ⟨tw_1_97, List.forall_mem_cons.mpr ⟨tw_1_99, List.forall_mem_cons.mpr ⟨tw_1_101, List.forall_mem_cons.mpr ⟨tw_1_103, List.forall_mem_cons.mpr ⟨tw_1_105, List.forall_mem_cons.mpr ⟨tw_1_107, List.forall_mem_cons.mpr ⟨tw_1_109, List.forall_mem_cons.mpr ⟨tw_1_111, List.forall_mem_cons.mpr ⟨tw_1_113, (fun _ h => absurd h List.not_mem_nil)⟩⟩⟩⟩⟩⟩⟩⟩⟩⟩⟩⟩)
theorem uw_X8 : ∀ w ∈ u_ws RX8 TX8 13, w ∈ TW := (show ∀ w ∈ ([(Jvm.Cond.laysFinal "HourLets$TownText" "HourLets$Text" "bytes" "[I"), (Jvm.Cond.lays "HourLets$TownText" "HourLets$Text" "length" "I"), (Jvm.Cond.lays "HourLets$TownText" "HourLets$Text" "kind" "I"), (Jvm.Cond.lays "HourLets$TownText" "HourLets$Text" "begin" "I"), (Jvm.Cond.lays "HourLets$TownText" "HourLets$Text" "end" "I"), (Jvm.Cond.lays "HourLets$TownText" "HourLets$Text" "number" "I"), (Jvm.Cond.lays "HourLets$TownText" "HourLets$Text" "wrong" "I"), (Jvm.Cond.laysFinal "HourLets$TownText" "HourLets$TownText" "town" "LHourLets$Town;"), (Jvm.Cond.laysFinal "HourLets$TownText" "HourLets$TownText" "roll" "LHourLets$Roll;"), (Jvm.Cond.lays "HourLets$TownText" "HourLets$TownText" "from" "I"), (Jvm.Cond.lays "HourLets$TownText" "HourLets$TownText" "to" "I"), (Jvm.Cond.lays "HourLets$TownText" "HourLets$TownText" "cell" "I"), (Jvm.Cond.lays "HourLets$TownText" "HourLets$TownText" "tenant" "I")] : List Cond), w ∈ TW from List.forall_mem_cons.mpr ⟨tw_2_34, List.forall_mem_cons.mpr ⟨tw_2_36, List.forall_mem_cons.mpr ⟨tw_2_38, List.forall_mem_cons.mpr ⟨tw_2_40, List.forall_mem_cons.mpr ⟨tw_2_42, List.forall_mem_cons.mpr ⟨tw_2_44, List.forall_mem_cons.mpr ⟨tw_2_46, List.forall_mem_cons.mpr ⟨tw_2_22, List.forall_mem_cons.mpr ⟨tw_2_24, List.forall_mem_cons.mpr ⟨tw_2_26, List.forall_mem_cons.mpr ⟨tw_2_28, List.forall_mem_cons.mpr ⟨tw_2_30, List.forall_mem_cons.mpr ⟨tw_2_32, (fun _ h => absurd h List.not_mem_nil)⟩⟩⟩⟩⟩⟩⟩⟩⟩⟩⟩⟩⟩)
theorem uw_X9 : ∀ w ∈ u_ws RX9 TX9 4, w ∈ TW := (show ∀ w ∈ ([(Jvm.Cond.laysFinal "HourLets$World" "HourLets$World" "town" "LHourLets$Town;"), (Jvm.Cond.laysFinal "HourLets$World" "HourLets$World" "roll" "LHourLets$Roll;"), (Jvm.Cond.laysFinal "HourLets$World" "HourLets$World" "law" "LHourLets$Law;"), (Jvm.Cond.laysFinal "HourLets$World" "HourLets$World" "facts" "[I")] : List Cond), w ∈ TW from List.forall_mem_cons.mpr ⟨tw_1_229, List.forall_mem_cons.mpr ⟨tw_1_231, List.forall_mem_cons.mpr ⟨tw_1_233, List.forall_mem_cons.mpr ⟨tw_1_235, (fun _ h => absurd h List.not_mem_nil)⟩⟩⟩⟩)
theorem uw_X10 : ∀ w ∈ u_ws RX10 TX10 15, w ∈ TW := (show ∀ w ∈ ([(Jvm.Cond.laysFinal "HourLets" "HourLets" "tape" "[I"), (Jvm.Cond.lays "HourLets" "HourLets" "tapeLength" "I"), (Jvm.Cond.lays "HourLets" "HourLets" "fault" "I"), (Jvm.Cond.laysFinal "HourLets" "HourLets" "world" "LHourLets$World;"), (Jvm.Cond.laysFinal "HourLets" "HourLets" "draft" "LHourLets$World;"), (Jvm.Cond.laysFinal "HourLets" "HourLets" "kept" "LHourLets$World;"), (Jvm.Cond.lays "HourLets" "HourLets" "isKept" "Z"), (Jvm.Cond.laysFinal "HourLets" "HourLets" "past" "[LHourLets$Town;"), (Jvm.Cond.lays "HourLets" "HourLets" "pastFirst" "I"), (Jvm.Cond.lays "HourLets" "HourLets" "pastCount" "I"), (Jvm.Cond.laysFinal "HourLets" "HourLets" "townText" "LHourLets$TownText;"), (Jvm.Cond.laysFinal "HourLets" "HourLets" "lawText" "LHourLets$LawText;"), (Jvm.Cond.laysFinal "HourLets" "HourLets" "streets" "LHourLets$Streets;"), (Jvm.Cond.laysFinal "HourLets" "HourLets" "deals" "LHourLets$Deals;"), (Jvm.Cond.laysFinal "HourLets" "HourLets" "fitting" "LHourLets$Fitting;")] : List Cond), w ∈ TW from List.forall_mem_cons.mpr ⟨tw_2_175, List.forall_mem_cons.mpr ⟨tw_2_177, List.forall_mem_cons.mpr ⟨tw_2_179, List.forall_mem_cons.mpr ⟨tw_2_181, List.forall_mem_cons.mpr ⟨tw_2_183, List.forall_mem_cons.mpr ⟨tw_2_185, List.forall_mem_cons.mpr ⟨tw_2_187, List.forall_mem_cons.mpr ⟨tw_2_189, List.forall_mem_cons.mpr ⟨tw_2_191, List.forall_mem_cons.mpr ⟨tw_2_193, List.forall_mem_cons.mpr ⟨tw_2_195, List.forall_mem_cons.mpr ⟨tw_2_197, List.forall_mem_cons.mpr ⟨tw_2_199, List.forall_mem_cons.mpr ⟨tw_2_201, List.forall_mem_cons.mpr ⟨tw_2_203, (fun _ h => absurd h List.not_mem_nil)⟩⟩⟩⟩⟩⟩⟩⟩⟩⟩⟩⟩⟩⟩⟩)
theorem uw_X11 : ∀ w ∈ u_ws RX11 TX11 33, w ∈ TW := (show ∀ w ∈ ([(Jvm.Cond.lays "HourLetsModel" "HourLetsModel" "thrown" "I"), (Jvm.Cond.laysFinal "HourLetsModel" "HourLetsModel" "m" "[I"), (Jvm.Cond.laysFinal "HourLetsModel" "HourLetsModel" "kept" "[I"), (Jvm.Cond.lays "HourLetsModel" "HourLetsModel" "hasImage" "Z"), (Jvm.Cond.laysFinal "HourLetsModel" "HourLetsModel" "before" "[I"), (Jvm.Cond.laysFinal "HourLetsModel" "HourLetsModel" "acts" "[I"), (Jvm.Cond.lays "HourLetsModel" "HourLetsModel" "acted" "I"), (Jvm.Cond.laysFinal "HourLetsModel" "HourLetsModel" "tape" "[I"), (Jvm.Cond.lays "HourLetsModel" "HourLetsModel" "taped" "I"), (Jvm.Cond.lays "HourLetsModel" "HourLetsModel" "base" "I"), (Jvm.Cond.lays "HourLetsModel" "HourLetsModel" "end" "I"), (Jvm.Cond.lays "HourLetsModel" "HourLetsModel" "at" "I"), (Jvm.Cond.lays "HourLetsModel" "HourLetsModel" "fault" "I"), (Jvm.Cond.lays "HourLetsModel" "HourLetsModel" "deep" "I"), (Jvm.Cond.laysFinal "HourLetsModel" "HourLetsModel" "fact" "[I"), (Jvm.Cond.lays "HourLetsModel" "HourLetsModel" "isLiked" "Z"), (Jvm.Cond.lays "HourLetsModel" "HourLetsModel" "isBeside" "Z"), (Jvm.Cond.lays "HourLetsModel" "HourLetsModel" "bars" "Z"), (Jvm.Cond.lays "HourLetsModel" "HourLetsModel" "rent" "I"), (Jvm.Cond.lays "HourLetsModel" "HourLetsModel" "value" "I"), (Jvm.Cond.laysFinal "HourLetsModel" "HourLetsModel" "rents" "[I"), (Jvm.Cond.laysFinal "HourLetsModel" "HourLetsModel" "chosen" "[Z"), (Jvm.Cond.laysFinal "HourLetsModel" "HourLetsModel" "masks" "[I"), (Jvm.Cond.laysFinal "HourLetsModel" "HourLetsModel" "sets" "[I"), (Jvm.Cond.laysFinal "HourLetsModel" "HourLetsModel" "wanted" "[I"), (Jvm.Cond.laysFinal "HourLetsModel" "HourLetsModel" "gives" "[I"), (Jvm.Cond.lays "HourLetsModel" "HourLetsModel" "most" "I"), (Jvm.Cond.laysFinal "HourLetsModel" "HourLetsModel" "ring" "[I"), (Jvm.Cond.laysFinal "HourLetsModel" "HourLetsModel" "points" "[I"), (Jvm.Cond.laysFinal "HourLetsModel" "HourLetsModel" "worth" "[I"), (Jvm.Cond.laysFinal "HourLetsModel" "HourLetsModel" "dealt" "[I"), (Jvm.Cond.laysFinal "HourLetsModel" "HourLetsModel" "first" "[I"), (Jvm.Cond.laysFinal "HourLetsModel" "HourLetsModel" "its" "[I")] : List Cond), w ∈ TW from List.forall_mem_cons.mpr ⟨tw_7_200, List.forall_mem_cons.mpr ⟨tw_7_202, List.forall_mem_cons.mpr ⟨tw_7_204, List.forall_mem_cons.mpr ⟨tw_7_206, List.forall_mem_cons.mpr ⟨tw_7_208, List.forall_mem_cons.mpr ⟨tw_7_210, List.forall_mem_cons.mpr ⟨tw_7_212, List.forall_mem_cons.mpr ⟨tw_7_214, List.forall_mem_cons.mpr ⟨tw_7_216, List.forall_mem_cons.mpr ⟨tw_7_218, List.forall_mem_cons.mpr ⟨tw_7_220, List.forall_mem_cons.mpr ⟨tw_7_222, List.forall_mem_cons.mpr ⟨tw_7_224, List.forall_mem_cons.mpr ⟨tw_7_226, List.forall_mem_cons.mpr ⟨tw_7_228, List.forall_mem_cons.mpr ⟨tw_7_230, List.forall_mem_cons.mpr ⟨tw_7_232, List.forall_mem_cons.mpr ⟨tw_7_234, List.forall_mem_cons.mpr ⟨tw_7_236, List.forall_mem_cons.mpr ⟨tw_7_238, List.forall_mem_cons.mpr ⟨tw_8_0, List.forall_mem_cons.mpr ⟨tw_8_2, List.forall_mem_cons.mpr ⟨tw_8_4, List.forall_mem_cons.mpr ⟨tw_8_6, List.forall_mem_cons.mpr ⟨tw_8_8, List.forall_mem_cons.mpr ⟨tw_8_10, List.forall_mem_cons.mpr ⟨tw_8_12, List.forall_mem_cons.mpr ⟨tw_8_14, List.forall_mem_cons.mpr ⟨tw_8_16, List.forall_mem_cons.mpr ⟨tw_8_18, List.forall_mem_cons.mpr ⟨tw_8_20, List.forall_mem_cons.mpr ⟨tw_8_22, List.forall_mem_cons.mpr ⟨tw_8_24, (fun _ h => absurd h List.not_mem_nil)⟩⟩⟩⟩⟩⟩⟩⟩⟩⟩⟩⟩⟩⟩⟩⟩⟩⟩⟩⟩⟩⟩⟩⟩⟩⟩⟩⟩⟩⟩⟩⟩⟩)
theorem fl_X7_9_6 : FLk RX7 9 6 0 := ⟨(RX7, TX7, 12), rfl, by decide, uw_X7, Or.inl tw_1_52⟩
theorem fl_X8_146_6 : FLk RX8 146 6 0 := ⟨(RX7, TX7, 12), rfl, by decide, uw_X7, Or.inr ⟨"HourLets", tw_1_53⟩⟩
theorem fl_X9_64_6 : FLk RX9 64 6 0 := ⟨(RX7, TX7, 12), rfl, by decide, uw_X7, Or.inr ⟨"HourLets", tw_1_54⟩⟩
theorem fl_X10_181_6 : FLk RX10 181 6 0 := ⟨(RX7, TX7, 12), rfl, by decide, uw_X7, Or.inr ⟨"HourLets", tw_1_55⟩⟩
theorem fl_X5_78_6 : FLk RX5 78 6 0 := ⟨(RX7, TX7, 12), rfl, by decide, uw_X7, Or.inr ⟨"HourLets", tw_1_56⟩⟩
theorem fl_X0_110_6 : FLk RX0 110 6 0 := ⟨(RX7, TX7, 12), rfl, by decide, uw_X7, Or.inr ⟨"HourLets", tw_1_57⟩⟩
theorem fl_X7_15_6 : FLk RX7 15 6 1 := ⟨(RX7, TX7, 12), rfl, by decide, uw_X7, Or.inl tw_1_58⟩
theorem fl_X9_61_6 : FLk RX9 61 6 1 := ⟨(RX7, TX7, 12), rfl, by decide, uw_X7, Or.inr ⟨"HourLets", tw_1_59⟩⟩
theorem fl_X8_163_6 : FLk RX8 163 6 1 := ⟨(RX7, TX7, 12), rfl, by decide, uw_X7, Or.inr ⟨"HourLets", tw_1_60⟩⟩
theorem fl_X10_242_6 : FLk RX10 242 6 1 := ⟨(RX7, TX7, 12), rfl, by decide, uw_X7, Or.inr ⟨"HourLets", tw_1_61⟩⟩
theorem fl_X0_125_6 : FLk RX0 125 6 1 := ⟨(RX7, TX7, 12), rfl, by decide, uw_X7, Or.inr ⟨"HourLets", tw_1_62⟩⟩
theorem fl_X7_18_6 : FLk RX7 18 6 2 := ⟨(RX7, TX7, 12), rfl, by decide, uw_X7, Or.inl tw_1_63⟩
theorem fl_X8_161_6 : FLk RX8 161 6 2 := ⟨(RX7, TX7, 12), rfl, by decide, uw_X7, Or.inr ⟨"HourLets", tw_1_64⟩⟩
theorem fl_X10_187_6 : FLk RX10 187 6 2 := ⟨(RX7, TX7, 12), rfl, by decide, uw_X7, Or.inr ⟨"HourLets", tw_1_65⟩⟩
theorem fl_X9_71_6 : FLk RX9 71 6 2 := ⟨(RX7, TX7, 12), rfl, by decide, uw_X7, Or.inr ⟨"HourLets", tw_1_66⟩⟩
theorem fl_X7_21_6 : FLk RX7 21 6 3 := ⟨(RX7, TX7, 12), rfl, by decide, uw_X7, Or.inl tw_1_67⟩
theorem fl_X8_117_6 : FLk RX8 117 6 3 := ⟨(RX7, TX7, 12), rfl, by decide, uw_X7, Or.inr ⟨"HourLets", tw_1_68⟩⟩
theorem fl_X10_146_6 : FLk RX10 146 6 3 := ⟨(RX7, TX7, 12), rfl, by decide, uw_X7, Or.inr ⟨"HourLets", tw_1_69⟩⟩
theorem fl_X9_74_6 : FLk RX9 74 6 3 := ⟨(RX7, TX7, 12), rfl, by decide, uw_X7, Or.inr ⟨"HourLets", tw_1_70⟩⟩
theorem fl_X7_24_6 : FLk RX7 24 6 4 := ⟨(RX7, TX7, 12), rfl, by decide, uw_X7, Or.inl tw_1_71⟩
theorem fl_X10_158_6 : FLk RX10 158 6 4 := ⟨(RX7, TX7, 12), rfl, by decide, uw_X7, Or.inr ⟨"HourLets", tw_1_72⟩⟩
theorem fl_X9_77_6 : FLk RX9 77 6 4 := ⟨(RX7, TX7, 12), rfl, by decide, uw_X7, Or.inr ⟨"HourLets", tw_1_73⟩⟩
theorem fl_X0_113_6 : FLk RX0 113 6 4 := ⟨(RX7, TX7, 12), rfl, by decide, uw_X7, Or.inr ⟨"HourLets", tw_1_74⟩⟩
theorem fl_X7_27_6 : FLk RX7 27 6 5 := ⟨(RX7, TX7, 12), rfl, by decide, uw_X7, Or.inl tw_1_75⟩
theorem fl_X7_46_6 : FLk RX7 46 6 6 := ⟨(RX7, TX7, 12), rfl, by decide, uw_X7, Or.inl tw_1_76⟩
theorem pfl_X7_46_6 : PLk RX7 46 6 6 .int := ⟨fl_X7_46_6, (RX7, TX7, 12), rfl, rfl, by decide +kernel, ⟨tyX7, tyX7_ok⟩, nmX7⟩
theorem fl_X7_49_6 : FLk RX7 49 6 7 := ⟨(RX7, TX7, 12), rfl, by decide, uw_X7, Or.inl tw_1_77⟩
theorem pfl_X7_49_6 : PLk RX7 49 6 7 .int := ⟨fl_X7_49_6, (RX7, TX7, 12), rfl, rfl, by decide +kernel, ⟨tyX7, tyX7_ok⟩, nmX7⟩
theorem fl_X10_349_6 : FLk RX10 349 6 7 := ⟨(RX7, TX7, 12), rfl, by decide, uw_X7, Or.inr ⟨"HourLets", tw_1_78⟩⟩
theorem pfl_X10_349_6 : PLk RX10 349 6 7 .int := ⟨fl_X10_349_6, (RX7, TX7, 12), rfl, rfl, by decide +kernel, ⟨tyX7, tyX7_ok⟩, nmX7⟩
theorem fl_X7_52_6 : FLk RX7 52 6 8 := ⟨(RX7, TX7, 12), rfl, by decide, uw_X7, Or.inl tw_1_79⟩
theorem pfl_X7_52_6 : PLk RX7 52 6 8 .int := ⟨fl_X7_52_6, (RX7, TX7, 12), rfl, rfl, by decide +kernel, ⟨tyX7, tyX7_ok⟩, nmX7⟩
theorem fl_X9_125_6 : FLk RX9 125 6 8 := ⟨(RX7, TX7, 12), rfl, by decide, uw_X7, Or.inr ⟨"HourLets", tw_1_80⟩⟩
theorem pfl_X9_125_6 : PLk RX9 125 6 8 .int := ⟨fl_X9_125_6, (RX7, TX7, 12), rfl, rfl, by decide +kernel, ⟨tyX7, tyX7_ok⟩, nmX7⟩
theorem fl_X10_263_6 : FLk RX10 263 6 8 := ⟨(RX7, TX7, 12), rfl, by decide, uw_X7, Or.inr ⟨"HourLets", tw_1_81⟩⟩
theorem pfl_X10_263_6 : PLk RX10 263 6 8 .int := ⟨fl_X10_263_6, (RX7, TX7, 12), rfl, rfl, by decide +kernel, ⟨tyX7, tyX7_ok⟩, nmX7⟩
theorem fl_X7_55_6 : FLk RX7 55 6 9 := ⟨(RX7, TX7, 12), rfl, by decide, uw_X7, Or.inl tw_1_82⟩
theorem pfl_X7_55_6 : PLk RX7 55 6 9 .int := ⟨fl_X7_55_6, (RX7, TX7, 12), rfl, rfl, by decide +kernel, ⟨tyX7, tyX7_ok⟩, nmX7⟩
theorem fl_X9_80_6 : FLk RX9 80 6 9 := ⟨(RX7, TX7, 12), rfl, by decide, uw_X7, Or.inr ⟨"HourLets", tw_1_83⟩⟩
theorem pfl_X9_80_6 : PLk RX9 80 6 9 .int := ⟨fl_X9_80_6, (RX7, TX7, 12), rfl, rfl, by decide +kernel, ⟨tyX7, tyX7_ok⟩, nmX7⟩
theorem fl_X10_381_6 : FLk RX10 381 6 9 := ⟨(RX7, TX7, 12), rfl, by decide, uw_X7, Or.inr ⟨"HourLets", tw_1_84⟩⟩
theorem pfl_X10_381_6 : PLk RX10 381 6 9 .int := ⟨fl_X10_381_6, (RX7, TX7, 12), rfl, rfl, by decide +kernel, ⟨tyX7, tyX7_ok⟩, nmX7⟩
theorem fl_X7_58_6 : FLk RX7 58 6 10 := ⟨(RX7, TX7, 12), rfl, by decide, uw_X7, Or.inl tw_1_85⟩
theorem pfl_X7_58_6 : PLk RX7 58 6 10 .int := ⟨fl_X7_58_6, (RX7, TX7, 12), rfl, rfl, by decide +kernel, ⟨tyX7, tyX7_ok⟩, nmX7⟩
theorem fl_X5_35_6 : FLk RX5 35 6 10 := ⟨(RX7, TX7, 12), rfl, by decide, uw_X7, Or.inr ⟨"HourLets", tw_1_86⟩⟩
theorem pfl_X5_35_6 : PLk RX5 35 6 10 .int := ⟨fl_X5_35_6, (RX7, TX7, 12), rfl, rfl, by decide +kernel, ⟨tyX7, tyX7_ok⟩, nmX7⟩
theorem fl_X9_140_6 : FLk RX9 140 6 10 := ⟨(RX7, TX7, 12), rfl, by decide, uw_X7, Or.inr ⟨"HourLets", tw_1_87⟩⟩
theorem pfl_X9_140_6 : PLk RX9 140 6 10 .int := ⟨fl_X9_140_6, (RX7, TX7, 12), rfl, rfl, by decide +kernel, ⟨tyX7, tyX7_ok⟩, nmX7⟩
theorem fl_X10_384_6 : FLk RX10 384 6 10 := ⟨(RX7, TX7, 12), rfl, by decide, uw_X7, Or.inr ⟨"HourLets", tw_1_88⟩⟩
theorem pfl_X10_384_6 : PLk RX10 384 6 10 .int := ⟨fl_X10_384_6, (RX7, TX7, 12), rfl, rfl, by decide +kernel, ⟨tyX7, tyX7_ok⟩, nmX7⟩
theorem fl_X7_30_6 : FLk RX7 30 6 11 := ⟨(RX7, TX7, 12), rfl, by decide, uw_X7, Or.inl tw_1_89⟩
theorem pfl_X7_30_6 : PLk RX7 30 6 11 .int := ⟨fl_X7_30_6, (RX7, TX7, 12), rfl, rfl, by decide +kernel, ⟨tyX7, tyX7_ok⟩, nmX7⟩
theorem fl_X10_369_6 : FLk RX10 369 6 11 := ⟨(RX7, TX7, 12), rfl, by decide, uw_X7, Or.inr ⟨"HourLets", tw_1_90⟩⟩
theorem pfl_X10_369_6 : PLk RX10 369 6 11 .int := ⟨fl_X10_369_6, (RX7, TX7, 12), rfl, rfl, by decide +kernel, ⟨tyX7, tyX7_ok⟩, nmX7⟩
theorem fl_X4_9_4 : FLk RX4 9 4 0 := ⟨(RX4, TX4, 13), rfl, by decide, uw_X4, Or.inl tw_1_123⟩
theorem fl_X10_149_4 : FLk RX10 149 4 0 := ⟨(RX4, TX4, 13), rfl, by decide, uw_X4, Or.inr ⟨"HourLets", tw_1_124⟩⟩
theorem fl_X4_15_4 : FLk RX4 15 4 1 := ⟨(RX4, TX4, 13), rfl, by decide, uw_X4, Or.inl tw_1_125⟩
theorem fl_X10_152_4 : FLk RX10 152 4 1 := ⟨(RX4, TX4, 13), rfl, by decide, uw_X4, Or.inr ⟨"HourLets", tw_1_126⟩⟩
theorem fl_X4_18_4 : FLk RX4 18 4 2 := ⟨(RX4, TX4, 13), rfl, by decide, uw_X4, Or.inl tw_1_127⟩
theorem fl_X9_46_4 : FLk RX9 46 4 2 := ⟨(RX4, TX4, 13), rfl, by decide, uw_X4, Or.inr ⟨"HourLets", tw_1_128⟩⟩
theorem fl_X10_155_4 : FLk RX10 155 4 2 := ⟨(RX4, TX4, 13), rfl, by decide, uw_X4, Or.inr ⟨"HourLets", tw_1_129⟩⟩
theorem fl_X8_179_4 : FLk RX8 179 4 2 := ⟨(RX4, TX4, 13), rfl, by decide, uw_X4, Or.inr ⟨"HourLets", tw_1_130⟩⟩
theorem fl_X4_21_4 : FLk RX4 21 4 3 := ⟨(RX4, TX4, 13), rfl, by decide, uw_X4, Or.inl tw_1_131⟩
theorem fl_X8_152_4 : FLk RX8 152 4 3 := ⟨(RX4, TX4, 13), rfl, by decide, uw_X4, Or.inr ⟨"HourLets", tw_1_132⟩⟩
theorem fl_X10_190_4 : FLk RX10 190 4 3 := ⟨(RX4, TX4, 13), rfl, by decide, uw_X4, Or.inr ⟨"HourLets", tw_1_133⟩⟩
theorem fl_X5_71_4 : FLk RX5 71 4 3 := ⟨(RX4, TX4, 13), rfl, by decide, uw_X4, Or.inr ⟨"HourLets", tw_1_134⟩⟩
theorem fl_X9_108_4 : FLk RX9 108 4 3 := ⟨(RX4, TX4, 13), rfl, by decide, uw_X4, Or.inr ⟨"HourLets", tw_1_135⟩⟩
theorem fl_X4_24_4 : FLk RX4 24 4 4 := ⟨(RX4, TX4, 13), rfl, by decide, uw_X4, Or.inl tw_1_136⟩
theorem fl_X1_81_4 : FLk RX1 81 4 4 := ⟨(RX4, TX4, 13), rfl, by decide, uw_X4, Or.inr ⟨"HourLets", tw_1_137⟩⟩
theorem fl_X4_27_4 : FLk RX4 27 4 5 := ⟨(RX4, TX4, 13), rfl, by decide, uw_X4, Or.inl tw_1_138⟩
theorem fl_X1_64_4 : FLk RX1 64 4 5 := ⟨(RX4, TX4, 13), rfl, by decide, uw_X4, Or.inr ⟨"HourLets", tw_1_139⟩⟩
theorem fl_X4_30_4 : FLk RX4 30 4 6 := ⟨(RX4, TX4, 13), rfl, by decide, uw_X4, Or.inl tw_1_140⟩
theorem fl_X1_75_4 : FLk RX1 75 4 6 := ⟨(RX4, TX4, 13), rfl, by decide, uw_X4, Or.inr ⟨"HourLets", tw_1_141⟩⟩
theorem fl_X4_33_4 : FLk RX4 33 4 7 := ⟨(RX4, TX4, 13), rfl, by decide, uw_X4, Or.inl tw_1_142⟩
theorem fl_X1_78_4 : FLk RX1 78 4 7 := ⟨(RX4, TX4, 13), rfl, by decide, uw_X4, Or.inr ⟨"HourLets", tw_1_143⟩⟩
theorem fl_X4_42_4 : FLk RX4 42 4 8 := ⟨(RX4, TX4, 13), rfl, by decide, uw_X4, Or.inl tw_1_144⟩
theorem pfl_X4_42_4 : PLk RX4 42 4 8 .int := ⟨fl_X4_42_4, (RX4, TX4, 13), rfl, rfl, by decide +kernel, ⟨tyX4, tyX4_ok⟩, nmX4⟩
theorem fl_X8_89_4 : FLk RX8 89 4 8 := ⟨(RX4, TX4, 13), rfl, by decide, uw_X4, Or.inr ⟨"HourLets", tw_1_145⟩⟩
theorem pfl_X8_89_4 : PLk RX8 89 4 8 .int := ⟨fl_X8_89_4, (RX4, TX4, 13), rfl, rfl, by decide +kernel, ⟨tyX4, tyX4_ok⟩, nmX4⟩
theorem fl_X9_53_4 : FLk RX9 53 4 8 := ⟨(RX4, TX4, 13), rfl, by decide, uw_X4, Or.inr ⟨"HourLets", tw_1_146⟩⟩
theorem pfl_X9_53_4 : PLk RX9 53 4 8 .int := ⟨fl_X9_53_4, (RX4, TX4, 13), rfl, rfl, by decide +kernel, ⟨tyX4, tyX4_ok⟩, nmX4⟩
theorem fl_X5_53_4 : FLk RX5 53 4 8 := ⟨(RX4, TX4, 13), rfl, by decide, uw_X4, Or.inr ⟨"HourLets", tw_1_147⟩⟩
theorem pfl_X5_53_4 : PLk RX5 53 4 8 .int := ⟨fl_X5_53_4, (RX4, TX4, 13), rfl, rfl, by decide +kernel, ⟨tyX4, tyX4_ok⟩, nmX4⟩
theorem fl_X10_340_4 : FLk RX10 340 4 8 := ⟨(RX4, TX4, 13), rfl, by decide, uw_X4, Or.inr ⟨"HourLets", tw_1_148⟩⟩
theorem pfl_X10_340_4 : PLk RX10 340 4 8 .int := ⟨fl_X10_340_4, (RX4, TX4, 13), rfl, rfl, by decide +kernel, ⟨tyX4, tyX4_ok⟩, nmX4⟩
theorem fl_X4_46_4 : FLk RX4 46 4 9 := ⟨(RX4, TX4, 13), rfl, by decide, uw_X4, Or.inl tw_1_149⟩
theorem pfl_X4_46_4 : PLk RX4 46 4 9 .int := ⟨fl_X4_46_4, (RX4, TX4, 13), rfl, rfl, by decide +kernel, ⟨tyX4, tyX4_ok⟩, nmX4⟩
theorem fl_X1_49_4 : FLk RX1 49 4 9 := ⟨(RX4, TX4, 13), rfl, by decide, uw_X4, Or.inr ⟨"HourLets", tw_1_150⟩⟩
theorem pfl_X1_49_4 : PLk RX1 49 4 9 .int := ⟨fl_X1_49_4, (RX4, TX4, 13), rfl, rfl, by decide +kernel, ⟨tyX4, tyX4_ok⟩, nmX4⟩
theorem fl_X8_165_4 : FLk RX8 165 4 9 := ⟨(RX4, TX4, 13), rfl, by decide, uw_X4, Or.inr ⟨"HourLets", tw_1_151⟩⟩
theorem pfl_X8_165_4 : PLk RX8 165 4 9 .int := ⟨fl_X8_165_4, (RX4, TX4, 13), rfl, rfl, by decide +kernel, ⟨tyX4, tyX4_ok⟩, nmX4⟩
theorem fl_X10_397_4 : FLk RX10 397 4 9 := ⟨(RX4, TX4, 13), rfl, by decide, uw_X4, Or.inr ⟨"HourLets", tw_1_152⟩⟩
theorem pfl_X10_397_4 : PLk RX10 397 4 9 .int := ⟨fl_X10_397_4, (RX4, TX4, 13), rfl, rfl, by decide +kernel, ⟨tyX4, tyX4_ok⟩, nmX4⟩
theorem fl_X4_49_4 : FLk RX4 49 4 10 := ⟨(RX4, TX4, 13), rfl, by decide, uw_X4, Or.inl tw_1_153⟩
theorem pfl_X4_49_4 : PLk RX4 49 4 10 .int := ⟨fl_X4_49_4, (RX4, TX4, 13), rfl, rfl, by decide +kernel, ⟨tyX4, tyX4_ok⟩, nmX4⟩
theorem fl_X8_173_4 : FLk RX8 173 4 10 := ⟨(RX4, TX4, 13), rfl, by decide, uw_X4, Or.inr ⟨"HourLets", tw_1_154⟩⟩
theorem pfl_X8_173_4 : PLk RX8 173 4 10 .int := ⟨fl_X8_173_4, (RX4, TX4, 13), rfl, rfl, by decide +kernel, ⟨tyX4, tyX4_ok⟩, nmX4⟩
theorem fl_X9_153_4 : FLk RX9 153 4 10 := ⟨(RX4, TX4, 13), rfl, by decide, uw_X4, Or.inr ⟨"HourLets", tw_1_155⟩⟩
theorem pfl_X9_153_4 : PLk RX9 153 4 10 .int := ⟨fl_X9_153_4, (RX4, TX4, 13), rfl, rfl, by decide +kernel, ⟨tyX4, tyX4_ok⟩, nmX4⟩
theorem fl_X10_400_4 : FLk RX10 400 4 10 := ⟨(RX4, TX4, 13), rfl, by decide, uw_X4, Or.inr ⟨"HourLets", tw_1_156⟩⟩
theorem pfl_X10_400_4 : PLk RX10 400 4 10 .int := ⟨fl_X10_400_4, (RX4, TX4, 13), rfl, rfl, by decide +kernel, ⟨tyX4, tyX4_ok⟩, nmX4⟩
theorem fl_X4_52_4 : FLk RX4 52 4 11 := ⟨(RX4, TX4, 13), rfl, by decide, uw_X4, Or.inl tw_1_157⟩
theorem pfl_X4_52_4 : PLk RX4 52 4 11 .int := ⟨fl_X4_52_4, (RX4, TX4, 13), rfl, rfl, by decide +kernel, ⟨tyX4, tyX4_ok⟩, nmX4⟩
theorem fl_X10_121_4 : FLk RX10 121 4 11 := ⟨(RX4, TX4, 13), rfl, by decide, uw_X4, Or.inr ⟨"HourLets", tw_1_158⟩⟩
theorem pfl_X10_121_4 : PLk RX10 121 4 11 .int := ⟨fl_X10_121_4, (RX4, TX4, 13), rfl, rfl, by decide +kernel, ⟨tyX4, tyX4_ok⟩, nmX4⟩
theorem fl_X4_55_4 : FLk RX4 55 4 12 := ⟨(RX4, TX4, 13), rfl, by decide, uw_X4, Or.inl tw_1_159⟩
theorem pfl_X4_55_4 : PLk RX4 55 4 12 .int := ⟨fl_X4_55_4, (RX4, TX4, 13), rfl, rfl, by decide +kernel, ⟨tyX4, tyX4_ok⟩, nmX4⟩
theorem fl_X8_123_4 : FLk RX8 123 4 12 := ⟨(RX4, TX4, 13), rfl, by decide, uw_X4, Or.inr ⟨"HourLets", tw_1_160⟩⟩
theorem pfl_X8_123_4 : PLk RX8 123 4 12 .int := ⟨fl_X8_123_4, (RX4, TX4, 13), rfl, rfl, by decide +kernel, ⟨tyX4, tyX4_ok⟩, nmX4⟩
theorem fl_X10_391_4 : FLk RX10 391 4 12 := ⟨(RX4, TX4, 13), rfl, by decide, uw_X4, Or.inr ⟨"HourLets", tw_1_161⟩⟩
theorem pfl_X10_391_4 : PLk RX10 391 4 12 .int := ⟨fl_X10_391_4, (RX4, TX4, 13), rfl, rfl, by decide +kernel, ⟨tyX4, tyX4_ok⟩, nmX4⟩
theorem fl_X2_9_2 : FLk RX2 9 2 0 := ⟨(RX2, TX2, 6), rfl, by decide, uw_X2, Or.inl tw_1_195⟩
theorem fl_X2_15_2 : FLk RX2 15 2 1 := ⟨(RX2, TX2, 6), rfl, by decide, uw_X2, Or.inl tw_1_196⟩
theorem fl_X2_18_2 : FLk RX2 18 2 2 := ⟨(RX2, TX2, 6), rfl, by decide, uw_X2, Or.inl tw_1_197⟩
theorem fl_X2_21_2 : FLk RX2 21 2 3 := ⟨(RX2, TX2, 6), rfl, by decide, uw_X2, Or.inl tw_1_198⟩
theorem fl_X2_24_2 : FLk RX2 24 2 4 := ⟨(RX2, TX2, 6), rfl, by decide, uw_X2, Or.inl tw_1_199⟩
theorem fl_X2_27_2 : FLk RX2 27 2 5 := ⟨(RX2, TX2, 6), rfl, by decide, uw_X2, Or.inl tw_1_200⟩
theorem pfl_X2_27_2 : PLk RX2 27 2 5 .int := ⟨fl_X2_27_2, (RX2, TX2, 6), rfl, rfl, by decide +kernel, ⟨tyX2, tyX2_ok⟩, nmX2⟩
theorem fl_X10_140_2 : FLk RX10 140 2 5 := ⟨(RX2, TX2, 6), rfl, by decide, uw_X2, Or.inr ⟨"HourLets", tw_1_201⟩⟩
theorem pfl_X10_140_2 : PLk RX10 140 2 5 .int := ⟨fl_X10_140_2, (RX2, TX2, 6), rfl, rfl, by decide +kernel, ⟨tyX2, tyX2_ok⟩, nmX2⟩
theorem fl_X9_93_2 : FLk RX9 93 2 5 := ⟨(RX2, TX2, 6), rfl, by decide, uw_X2, Or.inr ⟨"HourLets", tw_1_202⟩⟩
theorem pfl_X9_93_2 : PLk RX9 93 2 5 .int := ⟨fl_X9_93_2, (RX2, TX2, 6), rfl, rfl, by decide +kernel, ⟨tyX2, tyX2_ok⟩, nmX2⟩
theorem fl_X8_9_8 : FLk RX8 9 8 0 := ⟨(RX9, TX9, 4), rfl, by decide, uw_X9, Or.inr ⟨"HourLets", tw_1_216⟩⟩
theorem fl_X9_12_8 : FLk RX9 12 8 0 := ⟨(RX9, TX9, 4), rfl, by decide, uw_X9, Or.inl tw_1_217⟩
theorem fl_X5_19_8 : FLk RX5 19 8 0 := ⟨(RX9, TX9, 4), rfl, by decide, uw_X9, Or.inr ⟨"HourLets", tw_1_218⟩⟩
theorem fl_X0_40_8 : FLk RX0 40 8 0 := ⟨(RX9, TX9, 4), rfl, by decide, uw_X9, Or.inr ⟨"HourLets", tw_1_219⟩⟩
theorem fl_X10_89_8 : FLk RX10 89 8 0 := ⟨(RX9, TX9, 4), rfl, by decide, uw_X9, Or.inr ⟨"HourLets", tw_1_220⟩⟩
theorem fl_X8_18_8 : FLk RX8 18 8 1 := ⟨(RX9, TX9, 4), rfl, by decide, uw_X9, Or.inr ⟨"HourLets", tw_1_221⟩⟩
theorem fl_X9_21_8 : FLk RX9 21 8 1 := ⟨(RX9, TX9, 4), rfl, by decide, uw_X9, Or.inl tw_1_222⟩
theorem fl_X1_43_8 : FLk RX1 43 8 1 := ⟨(RX9, TX9, 4), rfl, by decide, uw_X9, Or.inr ⟨"HourLets", tw_1_223⟩⟩
theorem fl_X10_97_8 : FLk RX10 97 8 1 := ⟨(RX9, TX9, 4), rfl, by decide, uw_X9, Or.inr ⟨"HourLets", tw_1_224⟩⟩
theorem fl_X5_49_8 : FLk RX5 49 8 1 := ⟨(RX9, TX9, 4), rfl, by decide, uw_X9, Or.inr ⟨"HourLets", tw_1_225⟩⟩
theorem fl_X9_28_8 : FLk RX9 28 8 2 := ⟨(RX9, TX9, 4), rfl, by decide, uw_X9, Or.inl tw_1_226⟩
theorem fl_X10_47_8 : FLk RX10 47 8 2 := ⟨(RX9, TX9, 4), rfl, by decide, uw_X9, Or.inr ⟨"HourLets", tw_1_227⟩⟩
theorem fl_X9_32_8 : FLk RX9 32 8 3 := ⟨(RX9, TX9, 4), rfl, by decide, uw_X9, Or.inl tw_1_228⟩
theorem fl_X8_15_7 : FLk RX8 15 7 7 := ⟨(RX8, TX8, 13), rfl, by decide, uw_X8, Or.inl tw_2_9⟩
theorem fl_X8_22_7 : FLk RX8 22 7 8 := ⟨(RX8, TX8, 13), rfl, by decide, uw_X8, Or.inl tw_2_10⟩
theorem fl_X8_126_7 : FLk RX8 126 7 9 := ⟨(RX8, TX8, 13), rfl, by decide, uw_X8, Or.inl tw_2_11⟩
theorem pfl_X8_126_7 : PLk RX8 126 7 9 .int := ⟨fl_X8_126_7, (RX8, TX8, 13), rfl, rfl, by decide +kernel, ⟨tyX8, tyX8_ok⟩, nmX8⟩
theorem fl_X8_129_7 : FLk RX8 129 7 10 := ⟨(RX8, TX8, 13), rfl, by decide, uw_X8, Or.inl tw_2_12⟩
theorem pfl_X8_129_7 : PLk RX8 129 7 10 .int := ⟨fl_X8_129_7, (RX8, TX8, 13), rfl, rfl, by decide +kernel, ⟨tyX8, tyX8_ok⟩, nmX8⟩
theorem fl_X8_149_7 : FLk RX8 149 7 11 := ⟨(RX8, TX8, 13), rfl, by decide, uw_X8, Or.inl tw_2_13⟩
theorem pfl_X8_149_7 : PLk RX8 149 7 11 .int := ⟨fl_X8_149_7, (RX8, TX8, 13), rfl, rfl, by decide +kernel, ⟨tyX8, tyX8_ok⟩, nmX8⟩
theorem fl_X8_141_7 : FLk RX8 141 7 12 := ⟨(RX8, TX8, 13), rfl, by decide, uw_X8, Or.inl tw_2_14⟩
theorem pfl_X8_141_7 : PLk RX8 141 7 12 .int := ⟨fl_X8_141_7, (RX8, TX8, 13), rfl, rfl, by decide +kernel, ⟨tyX8, tyX8_ok⟩, nmX8⟩
theorem fl_X6_9_3 : FLk RX6 9 3 0 := ⟨(RX3, TX3, 12), rfl, by decide, uw_X3, Or.inl tw_2_15⟩
theorem fl_X6_9_7 : FLk RX6 9 7 0 := ⟨(RX8, TX8, 13), rfl, by decide, uw_X8, Or.inl tw_2_15⟩
theorem fl_X6_21_3 : FLk RX6 21 3 1 := ⟨(RX3, TX3, 12), rfl, by decide, uw_X3, Or.inl tw_2_16⟩
theorem pfl_X6_21_3 : PLk RX6 21 3 1 .int := ⟨fl_X6_21_3, (RX3, TX3, 12), rfl, rfl, by decide +kernel, ⟨tyX3, tyX3_ok⟩, nmX3⟩
theorem fl_X6_21_7 : FLk RX6 21 7 1 := ⟨(RX8, TX8, 13), rfl, by decide, uw_X8, Or.inl tw_2_16⟩
theorem pfl_X6_21_7 : PLk RX6 21 7 1 .int := ⟨fl_X6_21_7, (RX8, TX8, 13), rfl, rfl, by decide +kernel, ⟨tyX8, tyX8_ok⟩, nmX8⟩
theorem fl_X6_34_3 : FLk RX6 34 3 2 := ⟨(RX3, TX3, 12), rfl, by decide, uw_X3, Or.inl tw_2_17⟩
theorem pfl_X6_34_3 : PLk RX6 34 3 2 .int := ⟨fl_X6_34_3, (RX3, TX3, 12), rfl, rfl, by decide +kernel, ⟨tyX3, tyX3_ok⟩, nmX3⟩
theorem fl_X6_34_7 : FLk RX6 34 7 2 := ⟨(RX8, TX8, 13), rfl, by decide, uw_X8, Or.inl tw_2_17⟩
theorem pfl_X6_34_7 : PLk RX6 34 7 2 .int := ⟨fl_X6_34_7, (RX8, TX8, 13), rfl, rfl, by decide +kernel, ⟨tyX8, tyX8_ok⟩, nmX8⟩
theorem fl_X6_40_3 : FLk RX6 40 3 3 := ⟨(RX3, TX3, 12), rfl, by decide, uw_X3, Or.inl tw_2_18⟩
theorem pfl_X6_40_3 : PLk RX6 40 3 3 .int := ⟨fl_X6_40_3, (RX3, TX3, 12), rfl, rfl, by decide +kernel, ⟨tyX3, tyX3_ok⟩, nmX3⟩
theorem fl_X6_40_7 : FLk RX6 40 7 3 := ⟨(RX8, TX8, 13), rfl, by decide, uw_X8, Or.inl tw_2_18⟩
theorem pfl_X6_40_7 : PLk RX6 40 7 3 .int := ⟨fl_X6_40_7, (RX8, TX8, 13), rfl, rfl, by decide +kernel, ⟨tyX8, tyX8_ok⟩, nmX8⟩
theorem fl_X6_25_3 : FLk RX6 25 3 4 := ⟨(RX3, TX3, 12), rfl, by decide, uw_X3, Or.inl tw_2_19⟩
theorem pfl_X6_25_3 : PLk RX6 25 3 4 .int := ⟨fl_X6_25_3, (RX3, TX3, 12), rfl, rfl, by decide +kernel, ⟨tyX3, tyX3_ok⟩, nmX3⟩
theorem fl_X6_25_7 : FLk RX6 25 7 4 := ⟨(RX8, TX8, 13), rfl, by decide, uw_X8, Or.inl tw_2_19⟩
theorem pfl_X6_25_7 : PLk RX6 25 7 4 .int := ⟨fl_X6_25_7, (RX8, TX8, 13), rfl, rfl, by decide +kernel, ⟨tyX8, tyX8_ok⟩, nmX8⟩
theorem fl_X6_37_3 : FLk RX6 37 3 5 := ⟨(RX3, TX3, 12), rfl, by decide, uw_X3, Or.inl tw_2_20⟩
theorem pfl_X6_37_3 : PLk RX6 37 3 5 .int := ⟨fl_X6_37_3, (RX3, TX3, 12), rfl, rfl, by decide +kernel, ⟨tyX3, tyX3_ok⟩, nmX3⟩
theorem fl_X6_37_7 : FLk RX6 37 7 5 := ⟨(RX8, TX8, 13), rfl, by decide, uw_X8, Or.inl tw_2_20⟩
theorem pfl_X6_37_7 : PLk RX6 37 7 5 .int := ⟨fl_X6_37_7, (RX8, TX8, 13), rfl, rfl, by decide +kernel, ⟨tyX8, tyX8_ok⟩, nmX8⟩
theorem fl_X6_28_3 : FLk RX6 28 3 6 := ⟨(RX3, TX3, 12), rfl, by decide, uw_X3, Or.inl tw_2_21⟩
theorem pfl_X6_28_3 : PLk RX6 28 3 6 .int := ⟨fl_X6_28_3, (RX3, TX3, 12), rfl, rfl, by decide +kernel, ⟨tyX3, tyX3_ok⟩, nmX3⟩
theorem fl_X6_28_7 : FLk RX6 28 7 6 := ⟨(RX8, TX8, 13), rfl, by decide, uw_X8, Or.inl tw_2_21⟩
theorem pfl_X6_28_7 : PLk RX6 28 7 6 .int := ⟨fl_X6_28_7, (RX8, TX8, 13), rfl, rfl, by decide +kernel, ⟨tyX8, tyX8_ok⟩, nmX8⟩
theorem fl_X3_15_3 : FLk RX3 15 3 7 := ⟨(RX3, TX3, 12), rfl, by decide, uw_X3, Or.inl tw_2_55⟩
theorem fl_X3_11_3 : FLk RX3 11 3 8 := ⟨(RX3, TX3, 12), rfl, by decide, uw_X3, Or.inl tw_2_56⟩
theorem fl_X3_76_3 : FLk RX3 76 3 9 := ⟨(RX3, TX3, 12), rfl, by decide, uw_X3, Or.inl tw_2_57⟩
theorem pfl_X3_76_3 : PLk RX3 76 3 9 .int := ⟨fl_X3_76_3, (RX3, TX3, 12), rfl, rfl, by decide +kernel, ⟨tyX3, tyX3_ok⟩, nmX3⟩
theorem fl_X3_80_3 : FLk RX3 80 3 10 := ⟨(RX3, TX3, 12), rfl, by decide, uw_X3, Or.inl tw_2_58⟩
theorem pfl_X3_80_3 : PLk RX3 80 3 10 .int := ⟨fl_X3_80_3, (RX3, TX3, 12), rfl, rfl, by decide +kernel, ⟨tyX3, tyX3_ok⟩, nmX3⟩
theorem fl_X3_83_3 : FLk RX3 83 3 11 := ⟨(RX3, TX3, 12), rfl, by decide, uw_X3, Or.inl tw_2_59⟩
theorem pfl_X3_83_3 : PLk RX3 83 3 11 .int := ⟨fl_X3_83_3, (RX3, TX3, 12), rfl, rfl, by decide +kernel, ⟨tyX3, tyX3_ok⟩, nmX3⟩
theorem fl_X5_15_5 : FLk RX5 15 5 0 := ⟨(RX5, TX5, 3), rfl, by decide, uw_X5, Or.inl tw_2_84⟩
theorem fl_X5_25_5 : FLk RX5 25 5 1 := ⟨(RX5, TX5, 3), rfl, by decide, uw_X5, Or.inl tw_2_85⟩
theorem fl_X5_9_5 : FLk RX5 9 5 2 := ⟨(RX5, TX5, 3), rfl, by decide, uw_X5, Or.inl tw_2_86⟩
theorem fl_X0_36_0 : FLk RX0 36 0 0 := ⟨(RX0, TX0, 11), rfl, by decide, uw_X0, Or.inl tw_2_100⟩
theorem fl_X0_46_0 : FLk RX0 46 0 1 := ⟨(RX0, TX0, 11), rfl, by decide, uw_X0, Or.inl tw_2_101⟩
theorem fl_X0_9_0 : FLk RX0 9 0 2 := ⟨(RX0, TX0, 11), rfl, by decide, uw_X0, Or.inl tw_2_102⟩
theorem fl_X0_15_0 : FLk RX0 15 0 3 := ⟨(RX0, TX0, 11), rfl, by decide, uw_X0, Or.inl tw_2_103⟩
theorem fl_X0_18_0 : FLk RX0 18 0 4 := ⟨(RX0, TX0, 11), rfl, by decide, uw_X0, Or.inl tw_2_104⟩
theorem fl_X0_21_0 : FLk RX0 21 0 5 := ⟨(RX0, TX0, 11), rfl, by decide, uw_X0, Or.inl tw_2_105⟩
theorem fl_X0_24_0 : FLk RX0 24 0 6 := ⟨(RX0, TX0, 11), rfl, by decide, uw_X0, Or.inl tw_2_106⟩
theorem fl_X0_27_0 : FLk RX0 27 0 7 := ⟨(RX0, TX0, 11), rfl, by decide, uw_X0, Or.inl tw_2_107⟩
theorem fl_X0_30_0 : FLk RX0 30 0 8 := ⟨(RX0, TX0, 11), rfl, by decide, uw_X0, Or.inl tw_2_108⟩
theorem fl_X0_33_0 : FLk RX0 33 0 9 := ⟨(RX0, TX0, 11), rfl, by decide, uw_X0, Or.inl tw_2_109⟩
theorem fl_X0_87_0 : FLk RX0 87 0 10 := ⟨(RX0, TX0, 11), rfl, by decide, uw_X0, Or.inl tw_2_110⟩
theorem pfl_X0_87_0 : PLk RX0 87 0 10 .int := ⟨fl_X0_87_0, (RX0, TX0, 11), rfl, rfl, by decide +kernel, ⟨tyX0, tyX0_ok⟩, nmX0⟩
theorem fl_X1_24_1 : FLk RX1 24 1 0 := ⟨(RX1, TX1, 6), rfl, by decide, uw_X1, Or.inl tw_2_140⟩
theorem fl_X1_9_1 : FLk RX1 9 1 1 := ⟨(RX1, TX1, 6), rfl, by decide, uw_X1, Or.inl tw_2_141⟩
theorem fl_X1_15_1 : FLk RX1 15 1 2 := ⟨(RX1, TX1, 6), rfl, by decide, uw_X1, Or.inl tw_2_142⟩
theorem fl_X1_18_1 : FLk RX1 18 1 3 := ⟨(RX1, TX1, 6), rfl, by decide, uw_X1, Or.inl tw_2_143⟩
theorem fl_X1_21_1 : FLk RX1 21 1 4 := ⟨(RX1, TX1, 6), rfl, by decide, uw_X1, Or.inl tw_2_144⟩
theorem fl_X1_55_1 : FLk RX1 55 1 5 := ⟨(RX1, TX1, 6), rfl, by decide, uw_X1, Or.inl tw_2_145⟩
theorem pfl_X1_55_1 : PLk RX1 55 1 5 .int := ⟨fl_X1_55_1, (RX1, TX1, 6), rfl, rfl, by decide +kernel, ⟨tyX1, tyX1_ok⟩, nmX1⟩
theorem fl_X10_9_9 : FLk RX10 9 9 0 := ⟨(RX10, TX10, 15), rfl, by decide, uw_X10, Or.inl tw_2_160⟩
theorem fl_X10_82_9 : FLk RX10 82 9 1 := ⟨(RX10, TX10, 15), rfl, by decide, uw_X10, Or.inl tw_2_161⟩
theorem pfl_X10_82_9 : PLk RX10 82 9 1 .int := ⟨fl_X10_82_9, (RX10, TX10, 15), rfl, rfl, by decide +kernel, ⟨tyX10, tyX10_ok⟩, nmX10⟩
theorem fl_X10_13_9 : FLk RX10 13 9 2 := ⟨(RX10, TX10, 15), rfl, by decide, uw_X10, Or.inl tw_2_162⟩
theorem pfl_X10_13_9 : PLk RX10 13 9 2 .int := ⟨fl_X10_13_9, (RX10, TX10, 15), rfl, rfl, by decide +kernel, ⟨tyX10, tyX10_ok⟩, nmX10⟩
theorem fl_X10_20_9 : FLk RX10 20 9 3 := ⟨(RX10, TX10, 15), rfl, by decide, uw_X10, Or.inl tw_2_163⟩
theorem fl_X10_24_9 : FLk RX10 24 9 4 := ⟨(RX10, TX10, 15), rfl, by decide, uw_X10, Or.inl tw_2_164⟩
theorem fl_X10_27_9 : FLk RX10 27 9 5 := ⟨(RX10, TX10, 15), rfl, by decide, uw_X10, Or.inl tw_2_165⟩
theorem fl_X10_377_9 : FLk RX10 377 9 6 := ⟨(RX10, TX10, 15), rfl, by decide, uw_X10, Or.inl tw_2_166⟩
theorem pfl_X10_377_9 : PLk RX10 377 9 6 .boolean := ⟨fl_X10_377_9, (RX10, TX10, 15), rfl, rfl, by decide +kernel, ⟨tyX10, tyX10_ok⟩, nmX10⟩
theorem fl_X10_32_9 : FLk RX10 32 9 7 := ⟨(RX10, TX10, 15), rfl, by decide, uw_X10, Or.inl tw_2_167⟩
theorem fl_X10_372_9 : FLk RX10 372 9 8 := ⟨(RX10, TX10, 15), rfl, by decide, uw_X10, Or.inl tw_2_168⟩
theorem pfl_X10_372_9 : PLk RX10 372 9 8 .int := ⟨fl_X10_372_9, (RX10, TX10, 15), rfl, rfl, by decide +kernel, ⟨tyX10, tyX10_ok⟩, nmX10⟩
theorem fl_X10_129_9 : FLk RX10 129 9 9 := ⟨(RX10, TX10, 15), rfl, by decide, uw_X10, Or.inl tw_2_169⟩
theorem pfl_X10_129_9 : PLk RX10 129 9 9 .int := ⟨fl_X10_129_9, (RX10, TX10, 15), rfl, rfl, by decide +kernel, ⟨tyX10, tyX10_ok⟩, nmX10⟩
theorem fl_X10_41_9 : FLk RX10 41 9 10 := ⟨(RX10, TX10, 15), rfl, by decide, uw_X10, Or.inl tw_2_170⟩
theorem fl_X10_54_9 : FLk RX10 54 9 11 := ⟨(RX10, TX10, 15), rfl, by decide, uw_X10, Or.inl tw_2_171⟩
theorem fl_X10_63_9 : FLk RX10 63 9 12 := ⟨(RX10, TX10, 15), rfl, by decide, uw_X10, Or.inl tw_2_172⟩
theorem fl_X10_70_9 : FLk RX10 70 9 13 := ⟨(RX10, TX10, 15), rfl, by decide, uw_X10, Or.inl tw_2_173⟩
theorem fl_X10_77_9 : FLk RX10 77 9 14 := ⟨(RX10, TX10, 15), rfl, by decide, uw_X10, Or.inl tw_2_174⟩
theorem fl_X11_69_10 : FLk RX11 69 10 0 := ⟨(RX11, TX11, 33), rfl, by decide, uw_X11, Or.inl tw_7_167⟩
theorem pfl_X11_69_10 : PLk RX11 69 10 0 .int := ⟨fl_X11_69_10, (RX11, TX11, 33), rfl, rfl, by decide +kernel, ⟨tyX11, tyX11_ok⟩, nmX11⟩
theorem fl_X11_7_10 : FLk RX11 7 10 1 := ⟨(RX11, TX11, 33), rfl, by decide, uw_X11, Or.inl tw_7_168⟩
theorem fl_X11_13_10 : FLk RX11 13 10 2 := ⟨(RX11, TX11, 33), rfl, by decide, uw_X11, Or.inl tw_7_169⟩
theorem fl_X11_382_10 : FLk RX11 382 10 3 := ⟨(RX11, TX11, 33), rfl, by decide, uw_X11, Or.inl tw_7_170⟩
theorem pfl_X11_382_10 : PLk RX11 382 10 3 .boolean := ⟨fl_X11_382_10, (RX11, TX11, 33), rfl, rfl, by decide +kernel, ⟨tyX11, tyX11_ok⟩, nmX11⟩
theorem fl_X11_16_10 : FLk RX11 16 10 4 := ⟨(RX11, TX11, 33), rfl, by decide, uw_X11, Or.inl tw_7_171⟩
theorem fl_X11_19_10 : FLk RX11 19 10 5 := ⟨(RX11, TX11, 33), rfl, by decide, uw_X11, Or.inl tw_7_172⟩
theorem fl_X11_202_10 : FLk RX11 202 10 6 := ⟨(RX11, TX11, 33), rfl, by decide, uw_X11, Or.inl tw_7_173⟩
theorem pfl_X11_202_10 : PLk RX11 202 10 6 .int := ⟨fl_X11_202_10, (RX11, TX11, 33), rfl, rfl, by decide +kernel, ⟨tyX11, tyX11_ok⟩, nmX11⟩
theorem fl_X11_22_10 : FLk RX11 22 10 7 := ⟨(RX11, TX11, 33), rfl, by decide, uw_X11, Or.inl tw_7_174⟩
theorem fl_X11_91_10 : FLk RX11 91 10 8 := ⟨(RX11, TX11, 33), rfl, by decide, uw_X11, Or.inl tw_7_175⟩
theorem pfl_X11_91_10 : PLk RX11 91 10 8 .int := ⟨fl_X11_91_10, (RX11, TX11, 33), rfl, rfl, by decide +kernel, ⟨tyX11, tyX11_ok⟩, nmX11⟩
theorem fl_X11_94_10 : FLk RX11 94 10 9 := ⟨(RX11, TX11, 33), rfl, by decide, uw_X11, Or.inl tw_7_176⟩
theorem pfl_X11_94_10 : PLk RX11 94 10 9 .int := ⟨fl_X11_94_10, (RX11, TX11, 33), rfl, rfl, by decide +kernel, ⟨tyX11, tyX11_ok⟩, nmX11⟩
theorem fl_X11_100_10 : FLk RX11 100 10 10 := ⟨(RX11, TX11, 33), rfl, by decide, uw_X11, Or.inl tw_7_177⟩
theorem pfl_X11_100_10 : PLk RX11 100 10 10 .int := ⟨fl_X11_100_10, (RX11, TX11, 33), rfl, rfl, by decide +kernel, ⟨tyX11, tyX11_ok⟩, nmX11⟩
theorem fl_X11_97_10 : FLk RX11 97 10 11 := ⟨(RX11, TX11, 33), rfl, by decide, uw_X11, Or.inl tw_7_178⟩
theorem pfl_X11_97_10 : PLk RX11 97 10 11 .int := ⟨fl_X11_97_10, (RX11, TX11, 33), rfl, rfl, by decide +kernel, ⟨tyX11, tyX11_ok⟩, nmX11⟩
theorem fl_X11_25_10 : FLk RX11 25 10 12 := ⟨(RX11, TX11, 33), rfl, by decide, uw_X11, Or.inl tw_7_179⟩
theorem pfl_X11_25_10 : PLk RX11 25 10 12 .int := ⟨fl_X11_25_10, (RX11, TX11, 33), rfl, rfl, by decide +kernel, ⟨tyX11, tyX11_ok⟩, nmX11⟩
theorem fl_X11_184_10 : FLk RX11 184 10 13 := ⟨(RX11, TX11, 33), rfl, by decide, uw_X11, Or.inl tw_7_180⟩
theorem pfl_X11_184_10 : PLk RX11 184 10 13 .int := ⟨fl_X11_184_10, (RX11, TX11, 33), rfl, rfl, by decide +kernel, ⟨tyX11, tyX11_ok⟩, nmX11⟩
theorem fl_X11_29_10 : FLk RX11 29 10 14 := ⟨(RX11, TX11, 33), rfl, by decide, uw_X11, Or.inl tw_7_181⟩
theorem fl_X11_218_10 : FLk RX11 218 10 15 := ⟨(RX11, TX11, 33), rfl, by decide, uw_X11, Or.inl tw_7_182⟩
theorem pfl_X11_218_10 : PLk RX11 218 10 15 .boolean := ⟨fl_X11_218_10, (RX11, TX11, 33), rfl, rfl, by decide +kernel, ⟨tyX11, tyX11_ok⟩, nmX11⟩
theorem fl_X11_224_10 : FLk RX11 224 10 16 := ⟨(RX11, TX11, 33), rfl, by decide, uw_X11, Or.inl tw_7_183⟩
theorem pfl_X11_224_10 : PLk RX11 224 10 16 .boolean := ⟨fl_X11_224_10, (RX11, TX11, 33), rfl, rfl, by decide +kernel, ⟨tyX11, tyX11_ok⟩, nmX11⟩
theorem fl_X11_257_10 : FLk RX11 257 10 17 := ⟨(RX11, TX11, 33), rfl, by decide, uw_X11, Or.inl tw_7_184⟩
theorem pfl_X11_257_10 : PLk RX11 257 10 17 .boolean := ⟨fl_X11_257_10, (RX11, TX11, 33), rfl, rfl, by decide +kernel, ⟨tyX11, tyX11_ok⟩, nmX11⟩
theorem fl_X11_260_10 : FLk RX11 260 10 18 := ⟨(RX11, TX11, 33), rfl, by decide, uw_X11, Or.inl tw_7_185⟩
theorem pfl_X11_260_10 : PLk RX11 260 10 18 .int := ⟨fl_X11_260_10, (RX11, TX11, 33), rfl, rfl, by decide +kernel, ⟨tyX11, tyX11_ok⟩, nmX11⟩
theorem fl_X11_262_10 : FLk RX11 262 10 19 := ⟨(RX11, TX11, 33), rfl, by decide, uw_X11, Or.inl tw_7_186⟩
theorem pfl_X11_262_10 : PLk RX11 262 10 19 .int := ⟨fl_X11_262_10, (RX11, TX11, 33), rfl, rfl, by decide +kernel, ⟨tyX11, tyX11_ok⟩, nmX11⟩
theorem fl_X11_32_10 : FLk RX11 32 10 20 := ⟨(RX11, TX11, 33), rfl, by decide, uw_X11, Or.inl tw_7_187⟩
theorem fl_X11_35_10 : FLk RX11 35 10 21 := ⟨(RX11, TX11, 33), rfl, by decide, uw_X11, Or.inl tw_7_188⟩
theorem fl_X11_39_10 : FLk RX11 39 10 22 := ⟨(RX11, TX11, 33), rfl, by decide, uw_X11, Or.inl tw_7_189⟩
theorem fl_X11_42_10 : FLk RX11 42 10 23 := ⟨(RX11, TX11, 33), rfl, by decide, uw_X11, Or.inl tw_7_190⟩
theorem fl_X11_45_10 : FLk RX11 45 10 24 := ⟨(RX11, TX11, 33), rfl, by decide, uw_X11, Or.inl tw_7_191⟩
theorem fl_X11_48_10 : FLk RX11 48 10 25 := ⟨(RX11, TX11, 33), rfl, by decide, uw_X11, Or.inl tw_7_192⟩
theorem fl_X11_352_10 : FLk RX11 352 10 26 := ⟨(RX11, TX11, 33), rfl, by decide, uw_X11, Or.inl tw_7_193⟩
theorem pfl_X11_352_10 : PLk RX11 352 10 26 .int := ⟨fl_X11_352_10, (RX11, TX11, 33), rfl, rfl, by decide +kernel, ⟨tyX11, tyX11_ok⟩, nmX11⟩
theorem fl_X11_51_10 : FLk RX11 51 10 27 := ⟨(RX11, TX11, 33), rfl, by decide, uw_X11, Or.inl tw_7_194⟩
theorem fl_X11_54_10 : FLk RX11 54 10 28 := ⟨(RX11, TX11, 33), rfl, by decide, uw_X11, Or.inl tw_7_195⟩
theorem fl_X11_57_10 : FLk RX11 57 10 29 := ⟨(RX11, TX11, 33), rfl, by decide, uw_X11, Or.inl tw_7_196⟩
theorem fl_X11_60_10 : FLk RX11 60 10 30 := ⟨(RX11, TX11, 33), rfl, by decide, uw_X11, Or.inl tw_7_197⟩
theorem fl_X11_63_10 : FLk RX11 63 10 31 := ⟨(RX11, TX11, 33), rfl, by decide, uw_X11, Or.inl tw_7_198⟩
theorem fl_X11_66_10 : FLk RX11 66 10 32 := ⟨(RX11, TX11, 33), rfl, by decide, uw_X11, Or.inl tw_7_199⟩
theorem ls_X7_34 : LkS RX7 34 yJ7_fill_53178 2 cJ7_fill_53178 4 ((Option.none : Option Jvm.ClassFile.FieldType)) := ⟨tw_1_51, tw_1_50, tw_1_4, ⟨by decide, by decide⟩, by decide +kernel, Or.inl tw_1_49⟩
theorem ls_X7_34_p : Cond.methodLink RX7 34 yJ7_fill_53178 ∈ TW := tw_1_49
theorem lv_L_123_X10 : LkV RL 123 RX10 yX10_feed 5 cX10_feed 6 ((Option.some Jvm.ClassFile.FieldType.int)) := ⟨tw_2_209, tw_2_207, tw_1_1, ⟨by decide, by decide⟩, by decide +kernel, Or.inl ⟨tw_2_208, Or.inl tw_2_206⟩⟩
theorem lv_L_123_X10_p : Cond.selects RX10 yX10_feed yX10_feed ∈ TW ∧ Cond.methodLink RL 123 yX10_feed ∈ TW := ⟨tw_2_208, tw_2_206⟩
theorem lv_X10_85_X10 : LkV RX10 85 RX10 yX10_feedNumber 1 cX10_feedNumber 3 ((Option.none : Option Jvm.ClassFile.FieldType)) := ⟨tw_2_213, tw_2_212, tw_1_1, ⟨by decide, by decide⟩, by decide +kernel, Or.inl ⟨ps_1_0, Or.inl tw_2_210⟩⟩
theorem lv_X10_85_X10_p : Cond.selects RX10 yX10_feedNumber yX10_feedNumber ∈ TW ∧ Cond.methodLink RX10 85 yX10_feedNumber ∈ TW := ⟨ps_1_0, tw_2_210⟩
theorem lv_L_128_X10 : LkV RL 128 RX10 yX10_end 1 cX10_end 2 ((Option.some Jvm.ClassFile.FieldType.boolean)) := ⟨tw_2_217, tw_2_215, tw_1_1, ⟨by decide, by decide⟩, by decide +kernel, Or.inl ⟨tw_2_216, Or.inl tw_2_214⟩⟩
theorem lv_L_128_X10_p : Cond.selects RX10 yX10_end yX10_end ∈ TW ∧ Cond.methodLink RL 128 yX10_end ∈ TW := ⟨tw_2_216, tw_2_214⟩
theorem lv_L_145_X10 : LkV RL 145 RX10 yX10_fault 0 cX10_fault 1 ((Option.some Jvm.ClassFile.FieldType.int)) := ⟨tw_2_221, tw_2_219, tw_1_1, ⟨by decide, by decide⟩, by decide +kernel, Or.inl ⟨tw_2_220, Or.inl tw_2_218⟩⟩
theorem lv_L_145_X10_p : Cond.selects RX10 yX10_fault yX10_fault ∈ TW ∧ Cond.methodLink RL 145 yX10_fault ∈ TW := ⟨tw_2_220, tw_2_218⟩
theorem lv_L_197_X10 : LkV RL 197 RX10 yX10_empty 1 cX10_empty 2 ((Option.some Jvm.ClassFile.FieldType.int)) := ⟨tw_2_225, tw_2_223, tw_1_1, ⟨by decide, by decide⟩, by decide +kernel, Or.inl ⟨tw_2_224, Or.inl tw_2_222⟩⟩
theorem lv_L_197_X10_p : Cond.selects RX10 yX10_empty yX10_empty ∈ TW ∧ Cond.methodLink RL 197 yX10_empty ∈ TW := ⟨tw_2_224, tw_2_222⟩
theorem lv_X10_273_X5 : LkV RX10 273 RX5 yX5_longestRow 2 cX5_longestRow 7 ((Option.some Jvm.ClassFile.FieldType.int)) := ⟨tw_2_229, tw_2_228, tw_1_10, ⟨by decide, by decide⟩, by decide +kernel, Or.inl ⟨ps_1_1, Or.inr ⟨"HourLets", tw_2_226⟩⟩⟩
theorem lv_X5_26_X7 : LkV RX5 26 RX7 yX7_livesIn 1 cX7_livesIn 2 ((Option.some Jvm.ClassFile.FieldType.int)) := ⟨tw_2_233, tw_2_232, tw_1_3, ⟨by decide, by decide⟩, by decide +kernel, Or.inl ⟨ps_1_2, Or.inr ⟨"HourLets", tw_2_230⟩⟩⟩
theorem lv_L_205_X10 : LkV RL 205 RX10 yX10_court 2 cX10_court 3 ((Option.some Jvm.ClassFile.FieldType.int)) := ⟨tw_2_237, tw_2_235, tw_1_1, ⟨by decide, by decide⟩, by decide +kernel, Or.inl ⟨tw_2_236, Or.inl tw_2_234⟩⟩
theorem lv_L_205_X10_p : Cond.selects RX10 yX10_court yX10_court ∈ TW ∧ Cond.methodLink RL 205 yX10_court ∈ TW := ⟨tw_2_236, tw_2_234⟩
theorem lv_X10_280_X9 : LkV RX10 280 RX9 yX9_grownUps 1 cX9_grownUps 4 ((Option.some Jvm.ClassFile.FieldType.int)) := ⟨tw_3_1, tw_3_0, tw_1_2, ⟨by decide, by decide⟩, by decide +kernel, Or.inl ⟨ps_1_3, Or.inr ⟨"HourLets", tw_2_238⟩⟩⟩
theorem lv_X9_49_X9 : LkV RX9 49 RX9 yX9_isChild 1 cX9_isChild 2 ((Option.some Jvm.ClassFile.FieldType.boolean)) := ⟨tw_3_5, tw_3_4, tw_1_2, ⟨by decide, by decide⟩, by decide +kernel, Or.inl ⟨ps_1_4, Or.inl tw_3_2⟩⟩
theorem lv_X9_49_X9_p : Cond.selects RX9 yX9_isChild yX9_isChild ∈ TW ∧ Cond.methodLink RX9 49 yX9_isChild ∈ TW := ⟨ps_1_4, tw_3_2⟩
theorem lv_X10_283_X5 : LkV RX10 283 RX5 yX5_rowOfDifferent 2 cX5_rowOfDifferent 7 ((Option.some Jvm.ClassFile.FieldType.int)) := ⟨tw_3_9, tw_3_8, tw_1_10, ⟨by decide, by decide⟩, by decide +kernel, Or.inl ⟨ps_1_5, Or.inr ⟨"HourLets", tw_3_6⟩⟩⟩
theorem lv_X5_39_X5 : LkV RX5 39 RX5 yX5_differentFrom 2 cX5_differentFrom 7 ((Option.some Jvm.ClassFile.FieldType.int)) := ⟨tw_3_13, tw_3_12, tw_1_10, ⟨by decide, by decide⟩, by decide +kernel, Or.inl ⟨ps_1_6, Or.inl tw_3_10⟩⟩
theorem lv_X5_39_X5_p : Cond.selects RX5 yX5_differentFrom yX5_differentFrom ∈ TW ∧ Cond.methodLink RX5 39 yX5_differentFrom ∈ TW := ⟨ps_1_6, tw_3_10⟩
theorem ls_X5_32 : LkS RX5 32 yX10_after 1 cX10_after 1 ((Option.some Jvm.ClassFile.FieldType.int)) := ⟨tw_3_16, tw_3_15, tw_1_1, ⟨by decide, by decide⟩, by decide +kernel, Or.inr ⟨"HourLets", tw_3_14⟩⟩
theorem lv_L_212_X10 : LkV RL 212 RX10 yX10_fitted 1 cX10_fitted 3 ((Option.some Jvm.ClassFile.FieldType.int)) := ⟨tw_3_20, tw_3_18, tw_1_1, ⟨by decide, by decide⟩, by decide +kernel, Or.inl ⟨tw_3_19, Or.inl tw_3_17⟩⟩
theorem lv_L_212_X10_p : Cond.selects RX10 yX10_fitted yX10_fitted ∈ TW ∧ Cond.methodLink RL 212 yX10_fitted ∈ TW := ⟨tw_3_19, tw_3_17⟩
theorem lv_X10_289_X1 : LkV RX10 289 RX1 yX1_fillWants 0 cX1_fillWants 5 ((Option.some Jvm.ClassFile.FieldType.int)) := ⟨tw_3_24, tw_3_23, tw_1_12, ⟨by decide, by decide⟩, by decide +kernel, Or.inl ⟨ps_1_7, Or.inr ⟨"HourLets", tw_3_21⟩⟩⟩
theorem lv_X1_28_X1 : LkV RX1 28 RX1 yX1_prepare 0 cX1_prepare 3 ((Option.none : Option Jvm.ClassFile.FieldType)) := ⟨tw_3_28, tw_3_27, tw_1_12, ⟨by decide, by decide⟩, by decide +kernel, Or.inl ⟨ps_1_8, Or.inl tw_3_25⟩⟩
theorem lv_X1_28_X1_p : Cond.selects RX1 yX1_prepare yX1_prepare ∈ TW ∧ Cond.methodLink RX1 28 yX1_prepare ∈ TW := ⟨ps_1_8, tw_3_25⟩
theorem ls_X1_58 : LkS RX1 58 yJ7_fill_53178 2 cJ7_fill_53178 4 ((Option.none : Option Jvm.ClassFile.FieldType)) := ⟨tw_1_51, tw_1_50, tw_1_4, ⟨by decide, by decide⟩, by decide +kernel, Or.inl tw_3_29⟩
theorem ls_X1_58_p : Cond.methodLink RX1 58 yJ7_fill_53178 ∈ TW := tw_3_29
theorem lv_X1_39_X1 : LkV RX1 39 RX1 yX1_change 2 cX1_change 4 ((Option.none : Option Jvm.ClassFile.FieldType)) := ⟨tw_3_33, tw_3_32, tw_1_12, ⟨by decide, by decide⟩, by decide +kernel, Or.inl ⟨ps_1_9, Or.inl tw_3_30⟩⟩
theorem lv_X1_39_X1_p : Cond.selects RX1 yX1_change yX1_change ∈ TW ∧ Cond.methodLink RX1 39 yX1_change ∈ TW := ⟨ps_1_9, tw_3_30⟩
theorem lv_X1_67_X9 : LkV RX1 67 RX9 yX9_isFree 1 cX9_isFree 2 ((Option.some Jvm.ClassFile.FieldType.boolean)) := ⟨tw_3_37, tw_3_36, tw_1_2, ⟨by decide, by decide⟩, by decide +kernel, Or.inl ⟨ps_1_10, Or.inr ⟨"HourLets", tw_3_34⟩⟩⟩
theorem lv_X1_71_X1 : LkV RX1 71 RX1 yX1_wantsThatFit 1 cX1_wantsThatFit 6 ((Option.some Jvm.ClassFile.FieldType.int)) := ⟨tw_3_41, tw_3_40, tw_1_12, ⟨by decide, by decide⟩, by decide +kernel, Or.inl ⟨ps_1_11, Or.inl tw_3_38⟩⟩
theorem lv_X1_71_X1_p : Cond.selects RX1 yX1_wantsThatFit yX1_wantsThatFit ∈ TW ∧ Cond.methodLink RX1 71 yX1_wantsThatFit ∈ TW := ⟨ps_1_11, tw_3_38⟩
theorem lv_X1_84_X9 : LkV RX1 84 RX9 yX9_isBarred 2 cX9_isBarred 3 ((Option.some Jvm.ClassFile.FieldType.boolean)) := ⟨tw_3_45, tw_3_44, tw_1_2, ⟨by decide, by decide⟩, by decide +kernel, Or.inl ⟨ps_1_12, Or.inr ⟨"HourLets", tw_3_42⟩⟩⟩
theorem lv_X9_96_X9 : LkV RX9 96 RX9 yX9_lookAt 2 cX9_lookAt 4 ((Option.some (Jvm.ClassFile.FieldType.array Jvm.ClassFile.FieldType.int))) := ⟨tw_3_49, tw_3_48, tw_1_2, ⟨by decide, by decide⟩, by decide +kernel, Or.inl ⟨ps_1_13, Or.inl tw_3_46⟩⟩
theorem lv_X9_96_X9_p : Cond.selects RX9 yX9_lookAt yX9_lookAt ∈ TW ∧ Cond.methodLink RX9 96 yX9_lookAt ∈ TW := ⟨ps_1_13, tw_3_46⟩
theorem lv_X9_83_X4 : LkV RX9 83 RX4 yX4_likesHour 2 cX4_likesHour 3 ((Option.some Jvm.ClassFile.FieldType.boolean)) := ⟨tw_3_53, tw_3_52, tw_1_5, ⟨by decide, by decide⟩, by decide +kernel, Or.inl ⟨ps_1_14, Or.inr ⟨"HourLets", tw_3_50⟩⟩⟩
theorem ls_X9_87 : LkS RX9 87 yX10_before 1 cX10_before 1 ((Option.some Jvm.ClassFile.FieldType.int)) := ⟨tw_3_56, tw_3_55, tw_1_1, ⟨by decide, by decide⟩, by decide +kernel, Or.inr ⟨"HourLets", tw_3_54⟩⟩
theorem lv_X9_57_X7 : LkV RX9 57 RX7 yX7_livesIn 1 cX7_livesIn 2 ((Option.some Jvm.ClassFile.FieldType.int)) := ⟨tw_2_233, tw_2_232, tw_1_3, ⟨by decide, by decide⟩, by decide +kernel, Or.inl ⟨ps_1_2, Or.inr ⟨"HourLets", tw_3_57⟩⟩⟩
theorem ls_X9_90 : LkS RX9 90 yX10_after 1 cX10_after 1 ((Option.some Jvm.ClassFile.FieldType.int)) := ⟨tw_3_16, tw_3_15, tw_1_1, ⟨by decide, by decide⟩, by decide +kernel, Or.inr ⟨"HourLets", tw_3_58⟩⟩
theorem lv_X9_100_X2 : LkV RX9 100 RX2 yX2_bars 1 cX2_bars 3 ((Option.some Jvm.ClassFile.FieldType.boolean)) := ⟨tw_3_62, tw_3_61, tw_1_6, ⟨by decide, by decide⟩, by decide +kernel, Or.inl ⟨ps_1_15, Or.inr ⟨"HourLets", tw_3_59⟩⟩⟩
theorem lv_X2_37_X2 : LkV RX2 37 RX2 yX2_holds 2 cX2_holds 6 ((Option.some Jvm.ClassFile.FieldType.boolean)) := ⟨tw_3_66, tw_3_65, tw_1_6, ⟨by decide, by decide⟩, by decide +kernel, Or.inl ⟨ps_2_0, Or.inl tw_3_63⟩⟩
theorem lv_X2_37_X2_p : Cond.selects RX2 yX2_holds yX2_holds ∈ TW ∧ Cond.methodLink RX2 37 yX2_holds ∈ TW := ⟨ps_2_0, tw_3_63⟩
theorem ls_X2_41 : LkS RX2 41 yX2_join 3 cX2_join 3 ((Option.some Jvm.ClassFile.FieldType.int)) := ⟨tw_3_69, tw_3_68, tw_1_6, ⟨by decide, by decide⟩, by decide +kernel, Or.inl tw_3_67⟩
theorem ls_X2_41_p : Cond.methodLink RX2 41 yX2_join ∈ TW := tw_3_67
theorem lv_X1_31_X1 : LkV RX1 31 RX1 yX1_leastSpare 0 cX1_leastSpare 3 ((Option.some Jvm.ClassFile.FieldType.int)) := ⟨tw_3_73, tw_3_72, tw_1_12, ⟨by decide, by decide⟩, by decide +kernel, Or.inl ⟨ps_2_1, Or.inl tw_3_70⟩⟩
theorem lv_X1_31_X1_p : Cond.selects RX1 yX1_leastSpare yX1_leastSpare ∈ TW ∧ Cond.methodLink RX1 31 yX1_leastSpare ∈ TW := ⟨ps_2_1, tw_3_70⟩
theorem ls_X1_88 : LkS RX1 88 yJ9_min_7cf53 2 cJ9_min_7cf53 2 ((Option.some Jvm.ClassFile.FieldType.int)) := ⟨tw_3_76, tw_3_75, tw_1_15, ⟨by decide, by decide⟩, by decide +kernel, Or.inl tw_3_74⟩
theorem ls_X1_88_p : Cond.methodLink RX1 88 yJ9_min_7cf53 ∈ TW := tw_3_74
theorem lv_X1_35_X1 : LkV RX1 35 RX1 yX1_firstWant 2 cX1_firstWant 5 ((Option.some Jvm.ClassFile.FieldType.int)) := ⟨tw_3_80, tw_3_79, tw_1_12, ⟨by decide, by decide⟩, by decide +kernel, Or.inl ⟨ps_2_2, Or.inl tw_3_77⟩⟩
theorem lv_X1_35_X1_p : Cond.selects RX1 yX1_firstWant yX1_firstWant ∈ TW ∧ Cond.methodLink RX1 35 yX1_firstWant ∈ TW := ⟨ps_2_2, tw_3_77⟩
theorem lv_X10_292_X4 : LkV RX10 292 RX4 yX4_wantedRooms 0 cX4_wantedRooms 3 ((Option.some Jvm.ClassFile.FieldType.int)) := ⟨tw_3_84, tw_3_83, tw_1_5, ⟨by decide, by decide⟩, by decide +kernel, Or.inl ⟨ps_2_3, Or.inr ⟨"HourLets", tw_3_81⟩⟩⟩
theorem lv_L_255_X10 : LkV RL 255 RX10 yX10_seed 1 cX10_seed 3 ((Option.some Jvm.ClassFile.FieldType.int)) := ⟨tw_3_88, tw_3_86, tw_1_1, ⟨by decide, by decide⟩, by decide +kernel, Or.inl ⟨tw_3_87, Or.inl tw_3_85⟩⟩
theorem lv_L_255_X10_p : Cond.selects RX10 yX10_seed yX10_seed ∈ TW ∧ Cond.methodLink RL 255 yX10_seed ∈ TW := ⟨tw_3_87, tw_3_85⟩
theorem lv_L_259_X10 : LkV RL 259 RX10 yX10_undo 0 cX10_undo 1 ((Option.some Jvm.ClassFile.FieldType.boolean)) := ⟨tw_3_92, tw_3_90, tw_1_1, ⟨by decide, by decide⟩, by decide +kernel, Or.inl ⟨tw_3_91, Or.inl tw_3_89⟩⟩
theorem lv_L_259_X10_p : Cond.selects RX10 yX10_undo yX10_undo ∈ TW ∧ Cond.methodLink RL 259 yX10_undo ∈ TW := ⟨tw_3_91, tw_3_89⟩
theorem lv_X10_93_X7 : LkV RX10 93 RX7 yX7_copyFrom 1 cX7_copyFrom 2 ((Option.none : Option Jvm.ClassFile.FieldType)) := ⟨tw_3_96, tw_3_95, tw_1_3, ⟨by decide, by decide⟩, by decide +kernel, Or.inl ⟨ps_2_4, Or.inr ⟨"HourLets", tw_3_93⟩⟩⟩
theorem lv_L_264_X10 : LkV RL 264 RX10 yX10_image 0 cX10_image 1 ((Option.none : Option Jvm.ClassFile.FieldType)) := ⟨tw_3_103, tw_3_101, tw_1_1, ⟨by decide, by decide⟩, by decide +kernel, Or.inl ⟨tw_3_102, Or.inl tw_3_100⟩⟩
theorem lv_L_264_X10_p : Cond.selects RX10 yX10_image yX10_image ∈ TW ∧ Cond.methodLink RL 264 yX10_image ∈ TW := ⟨tw_3_102, tw_3_100⟩
theorem lv_X10_375_X9 : LkV RX10 375 RX9 yX9_copyFrom 1 cX9_copyFrom 2 ((Option.none : Option Jvm.ClassFile.FieldType)) := ⟨tw_3_107, tw_3_106, tw_1_2, ⟨by decide, by decide⟩, by decide +kernel, Or.inl ⟨ps_2_5, Or.inr ⟨"HourLets", tw_3_104⟩⟩⟩
theorem lv_X9_36_X7 : LkV RX9 36 RX7 yX7_copyFrom 1 cX7_copyFrom 2 ((Option.none : Option Jvm.ClassFile.FieldType)) := ⟨tw_3_96, tw_3_95, tw_1_3, ⟨by decide, by decide⟩, by decide +kernel, Or.inl ⟨ps_2_4, Or.inr ⟨"HourLets", tw_3_108⟩⟩⟩
theorem lv_X9_40_X4 : LkV RX9 40 RX4 yX4_copyFrom 1 cX4_copyFrom 2 ((Option.none : Option Jvm.ClassFile.FieldType)) := ⟨tw_3_112, tw_3_111, tw_1_5, ⟨by decide, by decide⟩, by decide +kernel, Or.inl ⟨ps_2_6, Or.inr ⟨"HourLets", tw_3_109⟩⟩⟩
theorem lv_X9_43_X2 : LkV RX9 43 RX2 yX2_copyFrom 1 cX2_copyFrom 2 ((Option.none : Option Jvm.ClassFile.FieldType)) := ⟨tw_3_117, tw_3_116, tw_1_6, ⟨by decide, by decide⟩, by decide +kernel, Or.inl ⟨ps_2_7, Or.inr ⟨"HourLets", tw_3_114⟩⟩⟩
theorem lv_L_268_X10 : LkV RL 268 RX10 yX10_back 0 cX10_back 1 ((Option.some Jvm.ClassFile.FieldType.boolean)) := ⟨tw_3_122, tw_3_120, tw_1_1, ⟨by decide, by decide⟩, by decide +kernel, Or.inl ⟨tw_3_121, Or.inl tw_3_119⟩⟩
theorem lv_L_268_X10_p : Cond.selects RX10 yX10_back yX10_back ∈ TW ∧ Cond.methodLink RL 268 yX10_back ∈ TW := ⟨tw_3_121, tw_3_119⟩
theorem lv_L_272_X10 : LkV RL 272 RX10 yX10_count 1 cX10_count 2 ((Option.some Jvm.ClassFile.FieldType.int)) := ⟨tw_3_126, tw_3_124, tw_1_1, ⟨by decide, by decide⟩, by decide +kernel, Or.inl ⟨tw_3_125, Or.inl tw_3_123⟩⟩
theorem lv_L_272_X10_p : Cond.selects RX10 yX10_count yX10_count ∈ TW ∧ Cond.methodLink RL 272 yX10_count ∈ TW := ⟨tw_3_125, tw_3_123⟩
theorem ls_X10_387 : LkS RX10 387 yX10_sumOf 1 cX10_sumOf 3 ((Option.some Jvm.ClassFile.FieldType.int)) := ⟨tw_3_129, tw_3_128, tw_1_1, ⟨by decide, by decide⟩, by decide +kernel, Or.inl tw_3_127⟩
theorem ls_X10_387_p : Cond.methodLink RX10 387 yX10_sumOf ∈ TW := tw_3_127
theorem lv_X10_164_X9 : LkV RX10 164 RX9 yX9_livedIn 1 cX9_livedIn 4 ((Option.some Jvm.ClassFile.FieldType.int)) := ⟨tw_3_133, tw_3_132, tw_1_2, ⟨by decide, by decide⟩, by decide +kernel, Or.inl ⟨ps_2_8, Or.inr ⟨"HourLets", tw_3_130⟩⟩⟩
theorem lv_X10_394_X9 : LkV RX10 394 RX9 yX9_subletRooms 0 cX9_subletRooms 3 ((Option.some Jvm.ClassFile.FieldType.int)) := ⟨tw_3_137, tw_3_136, tw_1_2, ⟨by decide, by decide⟩, by decide +kernel, Or.inl ⟨ps_2_9, Or.inr ⟨"HourLets", tw_3_134⟩⟩⟩
theorem lv_L_7_X10 : LkV RL 7 RX10 yX10_town 0 cX10_town 1 ((Option.some Jvm.ClassFile.FieldType.int)) := ⟨tw_3_146, tw_3_144, tw_1_1, ⟨by decide, by decide⟩, by decide +kernel, Or.inl ⟨tw_3_145, Or.inl tw_3_143⟩⟩
theorem lv_L_7_X10_p : Cond.selects RX10 yX10_town yX10_town ∈ TW ∧ Cond.methodLink RL 7 yX10_town ∈ TW := ⟨tw_3_145, tw_3_143⟩
theorem lv_X10_101_X4 : LkV RX10 101 RX4 yX4_copyFrom 1 cX4_copyFrom 2 ((Option.none : Option Jvm.ClassFile.FieldType)) := ⟨tw_3_112, tw_3_111, tw_1_5, ⟨by decide, by decide⟩, by decide +kernel, Or.inl ⟨ps_2_6, Or.inr ⟨"HourLets", tw_3_147⟩⟩⟩
theorem lv_X10_106_X10 : LkV RX10 106 RX10 yX10_useTape 0 cX10_useTape 2 ((Option.some Jvm.ClassFile.FieldType.int)) := ⟨tw_3_151, tw_3_150, tw_1_1, ⟨by decide, by decide⟩, by decide +kernel, Or.inl ⟨ps_2_10, Or.inl tw_3_148⟩⟩
theorem lv_X10_106_X10_p : Cond.selects RX10 yX10_useTape yX10_useTape ∈ TW ∧ Cond.methodLink RX10 106 yX10_useTape ∈ TW := ⟨ps_2_10, tw_3_148⟩
theorem lv_X10_110_X8 : LkV RX10 110 RX8 yX8_readTown 1 cX8_readTown 4 ((Option.some Jvm.ClassFile.FieldType.int)) := ⟨tw_3_155, tw_3_154, tw_1_8, ⟨by decide, by decide⟩, by decide +kernel, Or.inl ⟨ps_2_11, Or.inr ⟨"HourLets", tw_3_152⟩⟩⟩
theorem lv_X8_23_X8 : LkV RX8 23 RX8 yX6_open 1 cX6_open 2 ((Option.none : Option Jvm.ClassFile.FieldType)) := ⟨tw_3_161, tw_3_160, tw_1_7, ⟨by decide, by decide⟩, by decide +kernel, Or.inr ⟨⟨"HourLets$TownText", "open", "(I)V"⟩, tw_3_156, tw_3_157, tw_3_159, rfl, rfl⟩⟩
theorem ls_X6_15 : LkS RX6 15 yJ9_min_7cf53 2 cJ9_min_7cf53 2 ((Option.some Jvm.ClassFile.FieldType.int)) := ⟨tw_3_76, tw_3_75, tw_1_15, ⟨by decide, by decide⟩, by decide +kernel, Or.inl tw_3_162⟩
theorem ls_X6_15_p : Cond.methodLink RX6 15 yJ9_min_7cf53 ∈ TW := tw_3_162
theorem lv_X6_31_X3 : LkV RX6 31 RX3 yX6_step 0 cX6_step 1 ((Option.none : Option Jvm.ClassFile.FieldType)) := ⟨twn_1, tw_3_164, tw_1_7, ⟨by decide, by decide⟩, by decide +kernel, Or.inl ⟨tw_3_166, Or.inl tw_3_163⟩⟩
theorem lv_X6_31_X3_p : Cond.selects RX3 yX6_step yX6_step ∈ TW ∧ Cond.methodLink RX6 31 yX6_step ∈ TW := ⟨tw_3_166, tw_3_163⟩
theorem lv_X6_31_X8 : LkV RX6 31 RX8 yX6_step 0 cX6_step 1 ((Option.none : Option Jvm.ClassFile.FieldType)) := ⟨twn_1, tw_3_164, tw_1_7, ⟨by decide, by decide⟩, by decide +kernel, Or.inl ⟨tw_3_167, Or.inl tw_3_163⟩⟩
theorem lv_X6_31_X8_p : Cond.selects RX8 yX6_step yX6_step ∈ TW ∧ Cond.methodLink RX6 31 yX6_step ∈ TW := ⟨tw_3_167, tw_3_163⟩
theorem lv_X6_43_X8 : LkV RX6 43 RX8 yX6_isBetween 3 cX6_isBetween 4 ((Option.some Jvm.ClassFile.FieldType.boolean)) := ⟨twn_2, tw_3_171, tw_1_7, ⟨by decide, by decide⟩, by decide +kernel, Or.inl ⟨xs_0, Or.inl tw_3_169⟩⟩
theorem lv_X6_43_X8_p : Cond.selects RX8 yX6_isBetween yX6_isBetween ∈ TW ∧ Cond.methodLink RX6 43 yX6_isBetween ∈ TW := ⟨xs_0, tw_3_169⟩
theorem lv_X6_43_X3 : LkV RX6 43 RX3 yX6_isBetween 3 cX6_isBetween 4 ((Option.some Jvm.ClassFile.FieldType.boolean)) := ⟨twn_2, tw_3_171, tw_1_7, ⟨by decide, by decide⟩, by decide +kernel, Or.inl ⟨xs_1, Or.inl tw_3_169⟩⟩
theorem lv_X6_43_X3_p : Cond.selects RX3 yX6_isBetween yX6_isBetween ∈ TW ∧ Cond.methodLink RX6 43 yX6_isBetween ∈ TW := ⟨xs_1, tw_3_169⟩
theorem lv_X8_27_X8 : LkV RX8 27 RX8 yX6_atEnd 0 cX6_atEnd 1 ((Option.some Jvm.ClassFile.FieldType.boolean)) := ⟨tw_3_178, tw_3_177, tw_1_7, ⟨by decide, by decide⟩, by decide +kernel, Or.inr ⟨⟨"HourLets$TownText", "atEnd", "()Z"⟩, tw_3_173, tw_3_174, tw_3_176, rfl, rfl⟩⟩
theorem lv_X8_31_X8 : LkV RX8 31 RX8 yX8_readLine 0 cX8_readLine 1 ((Option.some Jvm.ClassFile.FieldType.boolean)) := ⟨tw_3_182, tw_3_181, tw_1_8, ⟨by decide, by decide⟩, by decide +kernel, Or.inl ⟨ps_2_12, Or.inl tw_3_179⟩⟩
theorem lv_X8_31_X8_p : Cond.selects RX8 yX8_readLine yX8_readLine ∈ TW ∧ Cond.methodLink RX8 31 yX8_readLine ∈ TW := ⟨ps_2_12, tw_3_179⟩
theorem lv_X8_47_X8 : LkV RX8 47 RX8 yX6_atWord 1 cX6_atWord 3 ((Option.some Jvm.ClassFile.FieldType.boolean)) := ⟨twn_3, tw_3_188, tw_1_7, ⟨by decide, by decide⟩, by decide +kernel, Or.inr ⟨⟨"HourLets$TownText", "atWord", "(Ljava/lang/String;)Z"⟩, tw_3_184, tw_3_185, tw_3_187, rfl, rfl⟩⟩
theorem lv_X6_47_J0 : LkV RX6 47 RJ0 yJ0_length_8abf5 0 cJ0_length_8abf5 1 ((Option.some Jvm.ClassFile.FieldType.int)) := ⟨tw_3_193, tw_3_191, tw_1_16, ⟨by decide, by decide⟩, by decide +kernel, Or.inl ⟨tw_3_192, Or.inl tw_3_190⟩⟩
theorem lv_X6_47_J0_p : Cond.selects RJ0 yJ0_length_8abf5 yJ0_length_8abf5 ∈ TW ∧ Cond.methodLink RX6 47 yJ0_length_8abf5 ∈ TW := ⟨tw_3_192, tw_3_190⟩
theorem lv_J0_335_J0 : LkV RJ0 335 RJ0 yJ0_coder_7d493 0 cJ0_coder_7d493 1 ((Option.some Jvm.ClassFile.FieldType.byte)) := ⟨tw_3_197, tw_3_195, tw_1_16, ⟨by decide, by decide⟩, by decide +kernel, Or.inl ⟨tw_3_196, Or.inl tw_3_194⟩⟩
theorem lv_J0_335_J0_p : Cond.selects RJ0 yJ0_coder_7d493 yJ0_coder_7d493 ∈ TW ∧ Cond.methodLink RJ0 335 yJ0_coder_7d493 ∈ TW := ⟨tw_3_196, tw_3_194⟩
theorem lv_X6_52_J0 : LkV RX6 52 RJ0 yJ0_charAt_5068e 1 cJ0_charAt_5068e 2 ((Option.some Jvm.ClassFile.FieldType.char)) := ⟨tw_3_203, tw_3_201, tw_1_16, ⟨by decide, by decide⟩, by decide +kernel, Or.inl ⟨tw_3_202, Or.inl tw_3_200⟩⟩
theorem lv_X6_52_J0_p : Cond.selects RJ0 yJ0_charAt_5068e yJ0_charAt_5068e ∈ TW ∧ Cond.methodLink RX6 52 yJ0_charAt_5068e ∈ TW := ⟨tw_3_202, tw_3_200⟩
theorem lv_J0_492_J0 : LkV RJ0 492 RJ0 yJ0_isLatin1_aae02 0 cJ0_isLatin1_aae02 1 ((Option.some Jvm.ClassFile.FieldType.boolean)) := ⟨tw_3_207, tw_3_205, tw_1_16, ⟨by decide, by decide⟩, by decide +kernel, Or.inl ⟨tw_3_206, Or.inl tw_3_204⟩⟩
theorem lv_J0_492_J0_p : Cond.selects RJ0 yJ0_isLatin1_aae02 yJ0_isLatin1_aae02 ∈ TW ∧ Cond.methodLink RJ0 492 yJ0_isLatin1_aae02 ∈ TW := ⟨tw_3_206, tw_3_204⟩
theorem ls_J0_495 : LkS RJ0 495 yJ1_charAt_3b067 2 cJ1_charAt_3b067 2 ((Option.some Jvm.ClassFile.FieldType.char)) := ⟨tw_3_210, tw_3_209, tw_1_17, ⟨by decide, by decide⟩, by decide +kernel, Or.inl tw_3_208⟩
theorem ls_J0_495_p : Cond.methodLink RJ0 495 yJ1_charAt_3b067 ∈ TW := tw_3_208
theorem ls_J1_9 : LkS RJ1 9 yJ0_checkIndex_df160 2 cJ0_checkIndex_df160 2 ((Option.none : Option Jvm.ClassFile.FieldType)) := ⟨tw_3_213, tw_3_212, tw_1_16, ⟨by decide, by decide⟩, by decide +kernel, Or.inl tw_3_211⟩
theorem ls_J1_9_p : Cond.methodLink RJ1 9 yJ0_checkIndex_df160 ∈ TW := tw_3_211
theorem ls_J0_1059 : LkS RJ0 1059 yJ3_checkIndex_8e157 3 cJ3_checkIndex_8e157 3 ((Option.some Jvm.ClassFile.FieldType.int)) := ⟨tw_3_218, tw_3_217, tw_1_18, ⟨by decide, by decide⟩, by decide +kernel, Or.inl tw_3_216⟩
theorem ls_J0_1059_p : Cond.methodLink RJ0 1059 yJ3_checkIndex_8e157 ∈ TW := tw_3_216
theorem ls_J0_498 : LkS RJ0 498 yJ2_charAt_3b067 2 cJ2_charAt_3b067 2 ((Option.some Jvm.ClassFile.FieldType.char)) := ⟨tw_3_221, tw_3_220, tw_1_19, ⟨by decide, by decide⟩, by decide +kernel, Or.inl tw_3_219⟩
theorem ls_J0_498_p : Cond.methodLink RJ0 498 yJ2_charAt_3b067 ∈ TW := tw_3_219
theorem ls_J2_67 : LkS RJ2 67 yJ2_checkIndex_2214a 2 cJ2_checkIndex_2214a 2 ((Option.none : Option Jvm.ClassFile.FieldType)) := ⟨tw_3_224, tw_3_223, tw_1_19, ⟨by decide, by decide⟩, by decide +kernel, Or.inl tw_3_222⟩
theorem ls_J2_67_p : Cond.methodLink RJ2 67 yJ2_checkIndex_2214a ∈ TW := tw_3_222
theorem ls_J2_48 : LkS RJ2 48 yJ2_length_9d52b 1 cJ2_length_9d52b 1 ((Option.some Jvm.ClassFile.FieldType.int)) := ⟨tw_3_227, tw_3_226, tw_1_19, ⟨by decide, by decide⟩, by decide +kernel, Or.inl tw_3_225⟩
theorem ls_J2_48_p : Cond.methodLink RJ2 48 yJ2_length_9d52b ∈ TW := tw_3_225
theorem ls_J2_414 : LkS RJ2 414 yJ0_checkIndex_df160 2 cJ0_checkIndex_df160 2 ((Option.none : Option Jvm.ClassFile.FieldType)) := ⟨tw_3_213, tw_3_212, tw_1_16, ⟨by decide, by decide⟩, by decide +kernel, Or.inl tw_3_228⟩
theorem ls_J2_414_p : Cond.methodLink RJ2 414 yJ0_checkIndex_df160 ∈ TW := tw_3_228
theorem ls_J2_71 : LkS RJ2 71 yJ2_getChar_3b067 2 cJ2_getChar_3b067 2 ((Option.some Jvm.ClassFile.FieldType.char)) := ⟨tw_3_231, tw_3_230, tw_1_19, ⟨by decide, by decide⟩, by decide +kernel, Or.inl tw_3_229⟩
theorem ls_J2_71_p : Cond.methodLink RJ2 71 yJ2_getChar_3b067 ∈ TW := tw_3_229
theorem lv_X8_51_X8 : LkV RX8 51 RX8 yX8_readTenant 0 cX8_readTenant 2 ((Option.some Jvm.ClassFile.FieldType.boolean)) := ⟨tw_4_1, tw_4_0, tw_1_8, ⟨by decide, by decide⟩, by decide +kernel, Or.inl ⟨ps_2_13, Or.inl tw_3_238⟩⟩
theorem lv_X8_51_X8_p : Cond.selects RX8 yX8_readTenant yX8_readTenant ∈ TW ∧ Cond.methodLink RX8 51 yX8_readTenant ∈ TW := ⟨ps_2_13, tw_3_238⟩
theorem lv_X8_38_X8 : LkV RX8 38 RX8 yX6_fail 0 cX6_fail 1 ((Option.some Jvm.ClassFile.FieldType.boolean)) := ⟨twn_4, tw_4_6, tw_1_7, ⟨by decide, by decide⟩, by decide +kernel, Or.inr ⟨⟨"HourLets$TownText", "fail", "()Z"⟩, tw_4_2, tw_4_3, tw_4_5, rfl, rfl⟩⟩
theorem lv_X8_95_X8 : LkV RX8 95 RX8 yX6_step 0 cX6_step 1 ((Option.none : Option Jvm.ClassFile.FieldType)) := ⟨twn_1, tw_3_164, tw_1_7, ⟨by decide, by decide⟩, by decide +kernel, Or.inr ⟨⟨"HourLets$TownText", "step", "()V"⟩, tw_4_8, tw_4_9, tw_4_11, rfl, rfl⟩⟩
theorem lv_X8_99_X8 : LkV RX8 99 RX8 yX6_isNumber 3 cX6_isNumber 4 ((Option.some Jvm.ClassFile.FieldType.boolean)) := ⟨twn_5, tw_4_16, tw_1_7, ⟨by decide, by decide⟩, by decide +kernel, Or.inr ⟨⟨"HourLets$TownText", "isNumber", "(III)Z"⟩, tw_4_12, tw_4_13, tw_4_15, rfl, rfl⟩⟩
theorem lv_X6_68_X3 : LkV RX6 68 RX3 yX6_hasDigits 1 cX6_hasDigits 2 ((Option.some Jvm.ClassFile.FieldType.boolean)) := ⟨twn_11, twn_7, tw_1_7, ⟨by decide, by decide⟩, by decide +kernel, Or.inl ⟨twn_9, Or.inl twn_6⟩⟩
theorem lv_X6_68_X3_p : Cond.selects RX3 yX6_hasDigits yX6_hasDigits ∈ TW ∧ Cond.methodLink RX6 68 yX6_hasDigits ∈ TW := ⟨twn_9, twn_6⟩
theorem lv_X6_68_X8 : LkV RX6 68 RX8 yX6_hasDigits 1 cX6_hasDigits 2 ((Option.some Jvm.ClassFile.FieldType.boolean)) := ⟨twn_11, twn_7, tw_1_7, ⟨by decide, by decide⟩, by decide +kernel, Or.inl ⟨twn_10, Or.inl twn_6⟩⟩
theorem lv_X6_68_X8_p : Cond.selects RX8 yX6_hasDigits yX6_hasDigits ∈ TW ∧ Cond.methodLink RX6 68 yX6_hasDigits ∈ TW := ⟨twn_10, twn_6⟩
theorem lv_X6_60_X3 : LkV RX6 60 RX3 yX6_fail 0 cX6_fail 1 ((Option.some Jvm.ClassFile.FieldType.boolean)) := ⟨twn_4, tw_4_6, tw_1_7, ⟨by decide, by decide⟩, by decide +kernel, Or.inl ⟨tw_10_23, Or.inl tw_4_18⟩⟩
theorem lv_X6_60_X3_p : Cond.selects RX3 yX6_fail yX6_fail ∈ TW ∧ Cond.methodLink RX6 60 yX6_fail ∈ TW := ⟨tw_10_23, tw_4_18⟩
theorem lv_X6_60_X8 : LkV RX6 60 RX8 yX6_fail 0 cX6_fail 1 ((Option.some Jvm.ClassFile.FieldType.boolean)) := ⟨twn_4, tw_4_6, tw_1_7, ⟨by decide, by decide⟩, by decide +kernel, Or.inl ⟨tw_10_24, Or.inl tw_4_18⟩⟩
theorem lv_X6_60_X8_p : Cond.selects RX8 yX6_fail yX6_fail ∈ TW ∧ Cond.methodLink RX6 60 yX6_fail ∈ TW := ⟨tw_10_24, tw_4_18⟩
theorem lv_X8_103_X8 : LkV RX8 103 RX8 yX6_stepOver 0 cX6_stepOver 2 ((Option.some Jvm.ClassFile.FieldType.int)) := ⟨twn_12, tw_4_23, tw_1_7, ⟨by decide, by decide⟩, by decide +kernel, Or.inr ⟨⟨"HourLets$TownText", "stepOver", "()I"⟩, tw_4_19, tw_4_20, tw_4_22, rfl, rfl⟩⟩
theorem lv_X8_108_X8 : LkV RX8 108 RX8 yX6_passWord 1 cX6_passWord 2 ((Option.some Jvm.ClassFile.FieldType.boolean)) := ⟨twn_13, tw_4_30, tw_1_7, ⟨by decide, by decide⟩, by decide +kernel, Or.inr ⟨⟨"HourLets$TownText", "passWord", "(Ljava/lang/String;)Z"⟩, tw_4_26, tw_4_27, tw_4_29, rfl, rfl⟩⟩
theorem lv_X6_56_X3 : LkV RX6 56 RX3 yX6_atWord 1 cX6_atWord 3 ((Option.some Jvm.ClassFile.FieldType.boolean)) := ⟨twn_3, tw_3_188, tw_1_7, ⟨by decide, by decide⟩, by decide +kernel, Or.inl ⟨tw_10_26, Or.inl tw_4_32⟩⟩
theorem lv_X6_56_X3_p : Cond.selects RX3 yX6_atWord yX6_atWord ∈ TW ∧ Cond.methodLink RX6 56 yX6_atWord ∈ TW := ⟨tw_10_26, tw_4_32⟩
theorem lv_X6_56_X8 : LkV RX6 56 RX8 yX6_atWord 1 cX6_atWord 3 ((Option.some Jvm.ClassFile.FieldType.boolean)) := ⟨twn_3, tw_3_188, tw_1_7, ⟨by decide, by decide⟩, by decide +kernel, Or.inl ⟨tw_10_27, Or.inl tw_4_32⟩⟩
theorem lv_X6_56_X8_p : Cond.selects RX8 yX6_atWord yX6_atWord ∈ TW ∧ Cond.methodLink RX6 56 yX6_atWord ∈ TW := ⟨tw_10_27, tw_4_32⟩
theorem lv_X8_111_X8 : LkV RX8 111 RX8 yX8_passFirstHour 0 cX8_passFirstHour 1 ((Option.some Jvm.ClassFile.FieldType.boolean)) := ⟨tw_4_36, tw_4_35, tw_1_8, ⟨by decide, by decide⟩, by decide +kernel, Or.inl ⟨ps_2_14, Or.inl tw_4_33⟩⟩
theorem lv_X8_111_X8_p : Cond.selects RX8 yX8_passFirstHour yX8_passFirstHour ∈ TW ∧ Cond.methodLink RX8 111 yX8_passFirstHour ∈ TW := ⟨ps_2_14, tw_4_33⟩
theorem lv_X8_114_X8 : LkV RX8 114 RX8 yX8_isSecondHour 0 cX8_isSecondHour 1 ((Option.some Jvm.ClassFile.FieldType.boolean)) := ⟨tw_4_41, tw_4_40, tw_1_8, ⟨by decide, by decide⟩, by decide +kernel, Or.inl ⟨ps_2_15, Or.inl tw_4_38⟩⟩
theorem lv_X8_114_X8_p : Cond.selects RX8 yX8_isSecondHour yX8_isSecondHour ∈ TW ∧ Cond.methodLink RX8 114 yX8_isSecondHour ∈ TW := ⟨ps_2_15, tw_4_38⟩
theorem lv_X8_176_X8 : LkV RX8 176 RX8 yX6_readNumber 0 cX6_readNumber 1 ((Option.some Jvm.ClassFile.FieldType.int)) := ⟨tw_4_47, tw_4_46, tw_1_7, ⟨by decide, by decide⟩, by decide +kernel, Or.inr ⟨⟨"HourLets$TownText", "readNumber", "()I"⟩, tw_4_42, tw_4_43, tw_4_45, rfl, rfl⟩⟩
theorem lv_X8_132_X4 : LkV RX8 132 RX4 yX4_addTenant 3 cX4_addTenant 4 ((Option.none : Option Jvm.ClassFile.FieldType)) := ⟨tw_4_51, tw_4_50, tw_1_5, ⟨by decide, by decide⟩, by decide +kernel, Or.inl ⟨ps_3_0, Or.inr ⟨"HourLets", tw_4_48⟩⟩⟩
theorem lv_X8_56_X8 : LkV RX8 56 RX8 yX8_readChild 0 cX8_readChild 1 ((Option.some Jvm.ClassFile.FieldType.boolean)) := ⟨tw_4_56, tw_4_55, tw_1_8, ⟨by decide, by decide⟩, by decide +kernel, Or.inl ⟨ps_3_1, Or.inl tw_4_53⟩⟩
theorem lv_X8_56_X8_p : Cond.selects RX8 yX8_readChild yX8_readChild ∈ TW ∧ Cond.methodLink RX8 56 yX8_readChild ∈ TW := ⟨ps_3_1, tw_4_53⟩
theorem lv_X8_138_X8 : LkV RX8 138 RX8 yX8_isTenant 0 cX8_isTenant 1 ((Option.some Jvm.ClassFile.FieldType.boolean)) := ⟨tw_4_61, tw_4_60, tw_1_8, ⟨by decide, by decide⟩, by decide +kernel, Or.inl ⟨ps_3_2, Or.inl tw_4_58⟩⟩
theorem lv_X8_138_X8_p : Cond.selects RX8 yX8_isTenant yX8_isTenant ∈ TW ∧ Cond.methodLink RX8 138 yX8_isTenant ∈ TW := ⟨ps_3_2, tw_4_58⟩
theorem lv_X8_61_X8 : LkV RX8 61 RX8 yX8_readLet 0 cX8_readLet 2 ((Option.some Jvm.ClassFile.FieldType.boolean)) := ⟨tw_4_66, tw_4_65, tw_1_8, ⟨by decide, by decide⟩, by decide +kernel, Or.inl ⟨ps_3_3, Or.inl tw_4_63⟩⟩
theorem lv_X8_61_X8_p : Cond.selects RX8 yX8_readLet yX8_readLet ∈ TW ∧ Cond.methodLink RX8 61 yX8_readLet ∈ TW := ⟨ps_3_3, tw_4_63⟩
theorem lv_X8_143_X8 : LkV RX8 143 RX8 yX8_passDay 0 cX8_passDay 1 ((Option.some Jvm.ClassFile.FieldType.boolean)) := ⟨tw_4_70, tw_4_69, tw_1_8, ⟨by decide, by decide⟩, by decide +kernel, Or.inl ⟨ps_3_4, Or.inl tw_4_67⟩⟩
theorem lv_X8_143_X8_p : Cond.selects RX8 yX8_passDay yX8_passDay ∈ TW ∧ Cond.methodLink RX8 143 yX8_passDay ∈ TW := ⟨ps_3_4, tw_4_67⟩
theorem lv_X8_154_X7 : LkV RX8 154 RX7 yX7_setOwner 2 cX7_setOwner 3 ((Option.none : Option Jvm.ClassFile.FieldType)) := ⟨tw_4_74, tw_4_73, tw_1_3, ⟨by decide, by decide⟩, by decide +kernel, Or.inl ⟨ps_3_5, Or.inr ⟨"HourLets", tw_4_71⟩⟩⟩
theorem lv_X7_61_X7 : LkV RX7 61 RX7 yX7_free 1 cX7_free 2 ((Option.none : Option Jvm.ClassFile.FieldType)) := ⟨tw_4_78, tw_4_77, tw_1_3, ⟨by decide, by decide⟩, by decide +kernel, Or.inl ⟨ps_3_6, Or.inl tw_4_75⟩⟩
theorem lv_X7_61_X7_p : Cond.selects RX7 yX7_free yX7_free ∈ TW ∧ Cond.methodLink RX7 61 yX7_free ∈ TW := ⟨ps_3_6, tw_4_75⟩
theorem lv_X8_66_X8 : LkV RX8 66 RX8 yX8_readGoods 0 cX8_readGoods 1 ((Option.some Jvm.ClassFile.FieldType.boolean)) := ⟨tw_4_83, tw_4_82, tw_1_8, ⟨by decide, by decide⟩, by decide +kernel, Or.inl ⟨ps_3_7, Or.inl tw_4_80⟩⟩
theorem lv_X8_66_X8_p : Cond.selects RX8 yX8_readGoods yX8_readGoods ∈ TW ∧ Cond.methodLink RX8 66 yX8_readGoods ∈ TW := ⟨ps_3_7, tw_4_80⟩
theorem lv_X8_158_X8 : LkV RX8 158 RX8 yX8_isHour 0 cX8_isHour 1 ((Option.some Jvm.ClassFile.FieldType.boolean)) := ⟨tw_4_87, tw_4_86, tw_1_8, ⟨by decide, by decide⟩, by decide +kernel, Or.inl ⟨ps_3_8, Or.inl tw_4_84⟩⟩
theorem lv_X8_158_X8_p : Cond.selects RX8 yX8_isHour yX8_isHour ∈ TW ∧ Cond.methodLink RX8 158 yX8_isHour ∈ TW := ⟨ps_3_8, tw_4_84⟩
theorem lv_X8_71_X8 : LkV RX8 71 RX8 yX8_readShut 0 cX8_readShut 1 ((Option.some Jvm.ClassFile.FieldType.boolean)) := ⟨tw_4_92, tw_4_91, tw_1_8, ⟨by decide, by decide⟩, by decide +kernel, Or.inl ⟨ps_3_9, Or.inl tw_4_89⟩⟩
theorem lv_X8_71_X8_p : Cond.selects RX8 yX8_readShut yX8_readShut ∈ TW ∧ Cond.methodLink RX8 71 yX8_readShut ∈ TW := ⟨ps_3_9, tw_4_89⟩
theorem lv_X8_76_X8 : LkV RX8 76 RX8 yX8_readSub 0 cX8_readSub 1 ((Option.some Jvm.ClassFile.FieldType.boolean)) := ⟨tw_4_97, tw_4_96, tw_1_8, ⟨by decide, by decide⟩, by decide +kernel, Or.inl ⟨ps_3_10, Or.inl tw_4_94⟩⟩
theorem lv_X8_76_X8_p : Cond.selects RX8 yX8_readSub yX8_readSub ∈ TW ∧ Cond.methodLink RX8 76 yX8_readSub ∈ TW := ⟨ps_3_10, tw_4_94⟩
theorem lv_X8_81_X8 : LkV RX8 81 RX8 yX8_readWant 0 cX8_readWant 2 ((Option.some Jvm.ClassFile.FieldType.boolean)) := ⟨tw_4_102, tw_4_101, tw_1_8, ⟨by decide, by decide⟩, by decide +kernel, Or.inl ⟨ps_3_11, Or.inl tw_4_99⟩⟩
theorem lv_X8_81_X8_p : Cond.selects RX8 yX8_readWant yX8_readWant ∈ TW ∧ Cond.methodLink RX8 81 yX8_readWant ∈ TW := ⟨ps_3_11, tw_4_99⟩
theorem lv_X8_169_X4 : LkV RX8 169 RX4 yX4_addWant 4 cX4_addWant 5 ((Option.none : Option Jvm.ClassFile.FieldType)) := ⟨tw_4_107, tw_4_106, tw_1_5, ⟨by decide, by decide⟩, by decide +kernel, Or.inl ⟨ps_3_12, Or.inr ⟨"HourLets", tw_4_104⟩⟩⟩
theorem lv_X8_86_X8 : LkV RX8 86 RX8 yX8_readChance 0 cX8_readChance 1 ((Option.some Jvm.ClassFile.FieldType.boolean)) := ⟨tw_4_112, tw_4_111, tw_1_8, ⟨by decide, by decide⟩, by decide +kernel, Or.inl ⟨ps_3_13, Or.inl tw_4_109⟩⟩
theorem lv_X8_86_X8_p : Cond.selects RX8 yX8_readChance yX8_readChance ∈ TW ∧ Cond.methodLink RX8 86 yX8_readChance ∈ TW := ⟨ps_3_13, tw_4_109⟩
theorem lv_X8_34_X8 : LkV RX8 34 RX8 yX6_passSign 1 cX6_passSign 2 ((Option.some Jvm.ClassFile.FieldType.boolean)) := ⟨twn_14, tw_4_117, tw_1_7, ⟨by decide, by decide⟩, by decide +kernel, Or.inr ⟨⟨"HourLets$TownText", "passSign", "(C)Z"⟩, tw_4_113, tw_4_114, tw_4_116, rfl, rfl⟩⟩
theorem lv_X6_64_X3 : LkV RX6 64 RX3 yX6_atSign 1 cX6_atSign 2 ((Option.some Jvm.ClassFile.FieldType.boolean)) := ⟨twn_15, tw_4_120, tw_1_7, ⟨by decide, by decide⟩, by decide +kernel, Or.inl ⟨tw_4_122, Or.inl tw_4_119⟩⟩
theorem lv_X6_64_X3_p : Cond.selects RX3 yX6_atSign yX6_atSign ∈ TW ∧ Cond.methodLink RX6 64 yX6_atSign ∈ TW := ⟨tw_4_122, tw_4_119⟩
theorem lv_X6_64_X8 : LkV RX6 64 RX8 yX6_atSign 1 cX6_atSign 2 ((Option.some Jvm.ClassFile.FieldType.boolean)) := ⟨twn_15, tw_4_120, tw_1_7, ⟨by decide, by decide⟩, by decide +kernel, Or.inl ⟨tw_4_123, Or.inl tw_4_119⟩⟩
theorem lv_X6_64_X8_p : Cond.selects RX8 yX6_atSign yX6_atSign ∈ TW ∧ Cond.methodLink RX6 64 yX6_atSign ∈ TW := ⟨tw_4_123, tw_4_119⟩
theorem lv_X8_41_X8 : LkV RX8 41 RX8 yX6_firstWrong 0 cX6_firstWrong 1 ((Option.some Jvm.ClassFile.FieldType.int)) := ⟨tw_4_130, tw_4_129, tw_1_7, ⟨by decide, by decide⟩, by decide +kernel, Or.inr ⟨⟨"HourLets$TownText", "firstWrong", "()I"⟩, tw_4_125, tw_4_126, tw_4_128, rfl, rfl⟩⟩
theorem lv_L_17_X10 : LkV RL 17 RX10 yX10_law 0 cX10_law 1 ((Option.some Jvm.ClassFile.FieldType.int)) := ⟨tw_4_223, tw_4_221, tw_1_1, ⟨by decide, by decide⟩, by decide +kernel, Or.inl ⟨tw_4_222, Or.inl tw_4_220⟩⟩
theorem lv_L_17_X10_p : Cond.selects RX10 yX10_law yX10_law ∈ TW ∧ Cond.methodLink RL 17 yX10_law ∈ TW := ⟨tw_4_222, tw_4_220⟩
theorem lv_X10_132_X3 : LkV RX10 132 RX3 yX3_readLaw 1 cX3_readLaw 4 ((Option.some Jvm.ClassFile.FieldType.int)) := ⟨tw_4_227, tw_4_226, tw_1_9, ⟨by decide, by decide⟩, by decide +kernel, Or.inl ⟨ps_3_15, Or.inr ⟨"HourLets", tw_4_224⟩⟩⟩
theorem lv_X3_19_X3 : LkV RX3 19 RX3 yX6_open 1 cX6_open 2 ((Option.none : Option Jvm.ClassFile.FieldType)) := ⟨tw_3_161, tw_3_160, tw_1_7, ⟨by decide, by decide⟩, by decide +kernel, Or.inr ⟨⟨"HourLets$LawText", "open", "(I)V"⟩, tw_4_228, tw_4_229, tw_4_230, rfl, rfl⟩⟩
theorem lv_X3_23_X2 : LkV RX3 23 RX2 yX2_clearLines 0 cX2_clearLines 1 ((Option.none : Option Jvm.ClassFile.FieldType)) := ⟨tw_4_234, tw_4_233, tw_1_6, ⟨by decide, by decide⟩, by decide +kernel, Or.inl ⟨ps_4_0, Or.inr ⟨"HourLets", tw_4_231⟩⟩⟩
theorem lv_X3_29_X3 : LkV RX3 29 RX3 yX6_atEnd 0 cX6_atEnd 1 ((Option.some Jvm.ClassFile.FieldType.boolean)) := ⟨tw_3_178, tw_3_177, tw_1_7, ⟨by decide, by decide⟩, by decide +kernel, Or.inr ⟨⟨"HourLets$LawText", "atEnd", "()Z"⟩, tw_4_235, tw_4_236, tw_4_237, rfl, rfl⟩⟩
theorem lv_X3_33_X3 : LkV RX3 33 RX3 yX3_readHead 0 cX3_readHead 2 ((Option.some Jvm.ClassFile.FieldType.boolean)) := ⟨twn_18, twn_17, tw_1_9, ⟨by decide, by decide⟩, by decide +kernel, Or.inl ⟨ps_4_1, Or.inl twn_16⟩⟩
theorem lv_X3_33_X3_p : Cond.selects RX3 yX3_readHead yX3_readHead ∈ TW ∧ Cond.methodLink RX3 33 yX3_readHead ∈ TW := ⟨ps_4_1, twn_16⟩
theorem lv_X3_52_X3 : LkV RX3 52 RX3 yX6_atWord 1 cX6_atWord 3 ((Option.some Jvm.ClassFile.FieldType.boolean)) := ⟨twn_3, tw_3_188, tw_1_7, ⟨by decide, by decide⟩, by decide +kernel, Or.inr ⟨⟨"HourLets$LawText", "atWord", "(Ljava/lang/String;)Z"⟩, twn_19, tw_5_4, tw_5_5, rfl, rfl⟩⟩
theorem lv_X3_56_X3 : LkV RX3 56 RX3 yX6_step 0 cX6_step 1 ((Option.none : Option Jvm.ClassFile.FieldType)) := ⟨twn_1, tw_3_164, tw_1_7, ⟨by decide, by decide⟩, by decide +kernel, Or.inr ⟨⟨"HourLets$LawText", "step", "()V"⟩, twn_20, tw_5_7, tw_5_8, rfl, rfl⟩⟩
theorem lv_X3_59_X2 : LkV RX3 59 RX2 yX2_addLine 2 cX2_addLine 3 ((Option.none : Option Jvm.ClassFile.FieldType)) := ⟨tw_5_12, tw_5_11, tw_1_6, ⟨by decide, by decide⟩, by decide +kernel, Or.inl ⟨ps_4_2, Or.inr ⟨"HourLets", twn_21⟩⟩⟩
theorem lv_X3_43_X3 : LkV RX3 43 RX3 yX6_fail 0 cX6_fail 1 ((Option.some Jvm.ClassFile.FieldType.boolean)) := ⟨twn_4, tw_4_6, tw_1_7, ⟨by decide, by decide⟩, by decide +kernel, Or.inr ⟨⟨"HourLets$LawText", "fail", "()Z"⟩, twn_22, tw_5_22, tw_5_23, rfl, rfl⟩⟩
theorem lv_X3_67_X3 : LkV RX3 67 RX3 yX6_isNumber 3 cX6_isNumber 4 ((Option.some Jvm.ClassFile.FieldType.boolean)) := ⟨twn_5, tw_4_16, tw_1_7, ⟨by decide, by decide⟩, by decide +kernel, Or.inr ⟨⟨"HourLets$LawText", "isNumber", "(III)Z"⟩, twn_23, tw_5_16, tw_5_17, rfl, rfl⟩⟩
theorem lv_X3_71_X3 : LkV RX3 71 RX3 yX6_stepOver 0 cX6_stepOver 2 ((Option.some Jvm.ClassFile.FieldType.int)) := ⟨twn_12, tw_4_23, tw_1_7, ⟨by decide, by decide⟩, by decide +kernel, Or.inr ⟨⟨"HourLets$LawText", "stepOver", "()I"⟩, twn_24, tw_5_19, tw_5_20, rfl, rfl⟩⟩
theorem lv_X3_36_X3 : LkV RX3 36 RX3 yX3_readCondition 0 cX3_readCondition 2 ((Option.some Jvm.ClassFile.FieldType.boolean)) := ⟨tw_5_28, tw_5_27, tw_1_9, ⟨by decide, by decide⟩, by decide +kernel, Or.inl ⟨ps_4_3, Or.inl twn_25⟩⟩
theorem lv_X3_36_X3_p : Cond.selects RX3 yX3_readCondition yX3_readCondition ∈ TW ∧ Cond.methodLink RX3 36 yX3_readCondition ∈ TW := ⟨ps_4_3, twn_25⟩
theorem lv_X3_88_X3 : LkV RX3 88 RX3 yX6_atSign 1 cX6_atSign 2 ((Option.some Jvm.ClassFile.FieldType.boolean)) := ⟨twn_15, tw_4_120, tw_1_7, ⟨by decide, by decide⟩, by decide +kernel, Or.inr ⟨⟨"HourLets$LawText", "atSign", "(C)Z"⟩, tw_5_30, tw_5_31, tw_5_33, rfl, rfl⟩⟩
theorem lv_X3_91_X3 : LkV RX3 91 RX3 yX3_goDeeper 0 cX3_goDeeper 1 ((Option.none : Option Jvm.ClassFile.FieldType)) := ⟨tw_5_37, tw_5_36, tw_1_9, ⟨by decide, by decide⟩, by decide +kernel, Or.inl ⟨ps_4_4, Or.inl tw_5_34⟩⟩
theorem lv_X3_91_X3_p : Cond.selects RX3 yX3_goDeeper yX3_goDeeper ∈ TW ∧ Cond.methodLink RX3 91 yX3_goDeeper ∈ TW := ⟨ps_4_4, tw_5_34⟩
theorem lv_X3_110_X3 : LkV RX3 110 RX3 yX3_push 1 cX3_push 2 ((Option.none : Option Jvm.ClassFile.FieldType)) := ⟨tw_5_41, tw_5_40, tw_1_9, ⟨by decide, by decide⟩, by decide +kernel, Or.inl ⟨ps_4_5, Or.inl tw_5_38⟩⟩
theorem lv_X3_110_X3_p : Cond.selects RX3 yX3_push yX3_push ∈ TW ∧ Cond.methodLink RX3 110 yX3_push ∈ TW := ⟨ps_4_5, tw_5_38⟩
theorem lv_X3_94_X3 : LkV RX3 94 RX3 yX3_readAtom 0 cX3_readAtom 2 ((Option.some Jvm.ClassFile.FieldType.boolean)) := ⟨tw_5_45, tw_5_44, tw_1_9, ⟨by decide, by decide⟩, by decide +kernel, Or.inl ⟨ps_4_6, Or.inl tw_5_42⟩⟩
theorem lv_X3_94_X3_p : Cond.selects RX3 yX3_readAtom yX3_readAtom ∈ TW ∧ Cond.methodLink RX3 94 yX3_readAtom ∈ TW := ⟨ps_4_6, tw_5_42⟩
theorem lv_X3_116_X2 : LkV RX3 116 RX2 yX2_addWord 1 cX2_addWord 2 ((Option.none : Option Jvm.ClassFile.FieldType)) := ⟨tw_5_51, tw_5_50, tw_1_6, ⟨by decide, by decide⟩, by decide +kernel, Or.inl ⟨ps_4_7, Or.inr ⟨"HourLets", tw_5_48⟩⟩⟩
theorem lv_X3_123_X3 : LkV RX3 123 RX3 yX3_readSum 0 cX3_readSum 3 ((Option.some Jvm.ClassFile.FieldType.boolean)) := ⟨tw_5_55, tw_5_54, tw_1_9, ⟨by decide, by decide⟩, by decide +kernel, Or.inl ⟨ps_4_8, Or.inl tw_5_52⟩⟩
theorem lv_X3_123_X3_p : Cond.selects RX3 yX3_readSum yX3_readSum ∈ TW ∧ Cond.methodLink RX3 123 yX3_readSum ∈ TW := ⟨ps_4_8, tw_5_52⟩
theorem lv_X3_126_X3 : LkV RX3 126 RX3 yX3_partThere 0 cX3_partThere 1 ((Option.some Jvm.ClassFile.FieldType.int)) := ⟨tw_5_59, tw_5_58, tw_1_9, ⟨by decide, by decide⟩, by decide +kernel, Or.inl ⟨ps_4_9, Or.inl tw_5_56⟩⟩
theorem lv_X3_126_X3_p : Cond.selects RX3 yX3_partThere yX3_partThere ∈ TW ∧ Cond.methodLink RX3 126 yX3_partThere ∈ TW := ⟨ps_4_9, tw_5_56⟩
theorem lv_X3_129_X3 : LkV RX3 129 RX3 yX6_atNumber 0 cX6_atNumber 1 ((Option.some Jvm.ClassFile.FieldType.boolean)) := ⟨tw_5_65, tw_5_64, tw_1_7, ⟨by decide, by decide⟩, by decide +kernel, Or.inr ⟨⟨"HourLets$LawText", "atNumber", "()Z"⟩, tw_5_60, tw_5_61, tw_5_63, rfl, rfl⟩⟩
theorem lv_X3_132_X3 : LkV RX3 132 RX3 yX6_hasDigits 1 cX6_hasDigits 2 ((Option.some Jvm.ClassFile.FieldType.boolean)) := ⟨twn_11, twn_7, tw_1_7, ⟨by decide, by decide⟩, by decide +kernel, Or.inr ⟨⟨"HourLets$LawText", "hasDigits", "(I)Z"⟩, twn_26, twn_27, twn_28, rfl, rfl⟩⟩
theorem lv_X3_136_X3 : LkV RX3 136 RX3 yX6_readNumber 0 cX6_readNumber 1 ((Option.some Jvm.ClassFile.FieldType.int)) := ⟨tw_4_47, tw_4_46, tw_1_7, ⟨by decide, by decide⟩, by decide +kernel, Or.inr ⟨⟨"HourLets$LawText", "readNumber", "()I"⟩, twn_29, tw_5_67, tw_5_68, rfl, rfl⟩⟩
theorem lv_X3_97_X3 : LkV RX3 97 RX3 yX3_closeAll 0 cX3_closeAll 2 ((Option.none : Option Jvm.ClassFile.FieldType)) := ⟨tw_5_78, tw_5_77, tw_1_9, ⟨by decide, by decide⟩, by decide +kernel, Or.inl ⟨ps_4_10, Or.inl tw_5_75⟩⟩
theorem lv_X3_97_X3_p : Cond.selects RX3 yX3_closeAll yX3_closeAll ∈ TW ∧ Cond.methodLink RX3 97 yX3_closeAll ∈ TW := ⟨ps_4_10, tw_5_75⟩
theorem lv_X3_113_X3 : LkV RX3 113 RX3 yX3_unwind 1 cX3_unwind 2 ((Option.none : Option Jvm.ClassFile.FieldType)) := ⟨tw_5_82, tw_5_81, tw_1_9, ⟨by decide, by decide⟩, by decide +kernel, Or.inl ⟨ps_4_11, Or.inl tw_5_79⟩⟩
theorem lv_X3_113_X3_p : Cond.selects RX3 yX3_unwind yX3_unwind ∈ TW ∧ Cond.methodLink RX3 113 yX3_unwind ∈ TW := ⟨ps_4_11, tw_5_79⟩
theorem lv_X3_104_X3 : LkV RX3 104 RX3 yX3_endCondition 0 cX3_endCondition 1 ((Option.some Jvm.ClassFile.FieldType.boolean)) := ⟨tw_5_88, tw_5_87, tw_1_9, ⟨by decide, by decide⟩, by decide +kernel, Or.inl ⟨ps_4_12, Or.inl tw_5_85⟩⟩
theorem lv_X3_104_X3_p : Cond.selects RX3 yX3_endCondition yX3_endCondition ∈ TW ∧ Cond.methodLink RX3 104 yX3_endCondition ∈ TW := ⟨ps_4_12, tw_5_85⟩
theorem lv_X3_107_X3 : LkV RX3 107 RX3 yX3_joinOn 1 cX3_joinOn 2 ((Option.none : Option Jvm.ClassFile.FieldType)) := ⟨tw_5_92, tw_5_91, tw_1_9, ⟨by decide, by decide⟩, by decide +kernel, Or.inl ⟨ps_4_13, Or.inl tw_5_89⟩⟩
theorem lv_X3_107_X3_p : Cond.selects RX3 yX3_joinOn yX3_joinOn ∈ TW ∧ Cond.methodLink RX3 107 yX3_joinOn ∈ TW := ⟨ps_4_13, tw_5_89⟩
theorem lv_X3_39_X3 : LkV RX3 39 RX3 yX6_passSign 1 cX6_passSign 2 ((Option.some Jvm.ClassFile.FieldType.boolean)) := ⟨twn_14, tw_4_117, tw_1_7, ⟨by decide, by decide⟩, by decide +kernel, Or.inr ⟨⟨"HourLets$LawText", "passSign", "(C)Z"⟩, twn_30, tw_5_94, tw_5_95, rfl, rfl⟩⟩
theorem lv_X3_46_X3 : LkV RX3 46 RX3 yX6_firstWrong 0 cX6_firstWrong 1 ((Option.some Jvm.ClassFile.FieldType.int)) := ⟨tw_4_130, tw_4_129, tw_1_7, ⟨by decide, by decide⟩, by decide +kernel, Or.inr ⟨⟨"HourLets$LawText", "firstWrong", "()I"⟩, twn_31, tw_5_97, tw_5_98, rfl, rfl⟩⟩
theorem lv_X10_135_X2 : LkV RX10 135 RX2 yX2_copyFrom 1 cX2_copyFrom 2 ((Option.none : Option Jvm.ClassFile.FieldType)) := ⟨tw_3_117, tw_3_116, tw_1_6, ⟨by decide, by decide⟩, by decide +kernel, Or.inl ⟨ps_2_7, Or.inr ⟨"HourLets", tw_5_99⟩⟩⟩
theorem lv_L_20_X10 : LkV RL 20 RX10 yX10_tenant 2 cX10_tenant 3 ((Option.some Jvm.ClassFile.FieldType.int)) := ⟨tw_5_108, tw_5_106, tw_1_1, ⟨by decide, by decide⟩, by decide +kernel, Or.inl ⟨tw_5_107, Or.inl tw_5_105⟩⟩
theorem lv_L_20_X10_p : Cond.selects RX10 yX10_tenant yX10_tenant ∈ TW ∧ Cond.methodLink RL 20 yX10_tenant ∈ TW := ⟨tw_5_107, tw_5_105⟩
theorem lv_X10_143_X10 : LkV RX10 143 RX10 yX10_needTenant 1 cX10_needTenant 2 ((Option.none : Option Jvm.ClassFile.FieldType)) := ⟨tw_5_112, tw_5_111, tw_1_1, ⟨by decide, by decide⟩, by decide +kernel, Or.inl ⟨ps_4_14, Or.inl tw_5_109⟩⟩
theorem lv_X10_143_X10_p : Cond.selects RX10 yX10_needTenant yX10_needTenant ∈ TW ∧ Cond.methodLink RX10 143 yX10_needTenant ∈ TW := ⟨ps_4_14, tw_5_109⟩
theorem lv_X10_161_X9 : LkV RX10 161 RX9 yX9_homeOf 1 cX9_homeOf 2 ((Option.some Jvm.ClassFile.FieldType.int)) := ⟨tw_5_132, tw_5_131, tw_1_2, ⟨by decide, by decide⟩, by decide +kernel, Or.inl ⟨ps_4_15, Or.inr ⟨"HourLets", tw_5_129⟩⟩⟩
theorem lv_X10_167_X9 : LkV RX10 167 RX9 yX9_rentOfAll 1 cX9_rentOfAll 4 ((Option.some Jvm.ClassFile.FieldType.int)) := ⟨tw_5_136, tw_5_135, tw_1_2, ⟨by decide, by decide⟩, by decide +kernel, Or.inl ⟨ps_5_0, Or.inr ⟨"HourLets", tw_5_133⟩⟩⟩
theorem lv_X9_67_X9 : LkV RX9 67 RX9 yX9_rentOf 2 cX9_rentOf 3 ((Option.some Jvm.ClassFile.FieldType.int)) := ⟨tw_5_140, tw_5_139, tw_1_2, ⟨by decide, by decide⟩, by decide +kernel, Or.inl ⟨ps_5_1, Or.inl tw_5_137⟩⟩
theorem lv_X9_67_X9_p : Cond.selects RX9 yX9_rentOf yX9_rentOf ∈ TW ∧ Cond.methodLink RX9 67 yX9_rentOf ∈ TW := ⟨ps_5_1, tw_5_137⟩
theorem lv_X9_104_X2 : LkV RX9 104 RX2 yX2_sumOfLines 2 cX2_sumOfLines 5 ((Option.some Jvm.ClassFile.FieldType.int)) := ⟨tw_5_144, tw_5_143, tw_1_6, ⟨by decide, by decide⟩, by decide +kernel, Or.inl ⟨ps_5_2, Or.inr ⟨"HourLets", tw_5_141⟩⟩⟩
theorem lv_X10_170_X9 : LkV RX10 170 RX9 yX9_goodsOfAll 1 cX9_goodsOfAll 4 ((Option.some Jvm.ClassFile.FieldType.int)) := ⟨tw_5_148, tw_5_147, tw_1_2, ⟨by decide, by decide⟩, by decide +kernel, Or.inl ⟨ps_5_3, Or.inr ⟨"HourLets", tw_5_145⟩⟩⟩
theorem lv_L_28_X10 : LkV RL 28 RX10 yX10_room 2 cX10_room 3 ((Option.some Jvm.ClassFile.FieldType.int)) := ⟨tw_5_171, tw_5_169, tw_1_1, ⟨by decide, by decide⟩, by decide +kernel, Or.inl ⟨tw_5_170, Or.inl tw_5_168⟩⟩
theorem lv_L_28_X10_p : Cond.selects RX10 yX10_room yX10_room ∈ TW ∧ Cond.methodLink RL 28 yX10_room ∈ TW := ⟨tw_5_170, tw_5_168⟩
theorem ls_X10_178 : LkS RX10 178 yX10_needRoom 1 cX10_needRoom 1 ((Option.none : Option Jvm.ClassFile.FieldType)) := ⟨tw_5_174, tw_5_173, tw_1_1, ⟨by decide, by decide⟩, by decide +kernel, Or.inl tw_5_172⟩
theorem ls_X10_178_p : Cond.methodLink RX10 178 yX10_needRoom ∈ TW := tw_5_172
theorem ls_X10_408 : LkS RX10 408 yX10_isRoom 1 cX10_isRoom 1 ((Option.some Jvm.ClassFile.FieldType.boolean)) := ⟨tw_5_177, tw_5_176, tw_1_1, ⟨by decide, by decide⟩, by decide +kernel, Or.inl tw_5_175⟩
theorem ls_X10_408_p : Cond.methodLink RX10 408 yX10_isRoom ∈ TW := tw_5_175
theorem lv_X10_184_X7 : LkV RX10 184 RX7 yX7_livesIn 1 cX7_livesIn 2 ((Option.some Jvm.ClassFile.FieldType.int)) := ⟨tw_2_233, tw_2_232, tw_1_3, ⟨by decide, by decide⟩, by decide +kernel, Or.inl ⟨ps_1_2, Or.inr ⟨"HourLets", tw_5_179⟩⟩⟩
theorem ls_X10_193 : LkS RX10 193 yX10_before 1 cX10_before 1 ((Option.some Jvm.ClassFile.FieldType.int)) := ⟨tw_3_56, tw_3_55, tw_1_1, ⟨by decide, by decide⟩, by decide +kernel, Or.inl tw_5_180⟩
theorem ls_X10_193_p : Cond.methodLink RX10 193 yX10_before ∈ TW := tw_5_180
theorem ls_X10_196 : LkS RX10 196 yX10_after 1 cX10_after 1 ((Option.some Jvm.ClassFile.FieldType.int)) := ⟨tw_3_16, tw_3_15, tw_1_1, ⟨by decide, by decide⟩, by decide +kernel, Or.inl tw_5_181⟩
theorem ls_X10_196_p : Cond.methodLink RX10 196 yX10_after ∈ TW := tw_5_181
theorem lv_L_31_X10 : LkV RL 31 RX10 yX10_rule 3 cX10_rule 4 ((Option.some Jvm.ClassFile.FieldType.int)) := ⟨tw_5_188, tw_5_186, tw_1_1, ⟨by decide, by decide⟩, by decide +kernel, Or.inl ⟨tw_5_187, Or.inl tw_5_185⟩⟩
theorem lv_L_31_X10_p : Cond.selects RX10 yX10_rule yX10_rule ∈ TW ∧ Cond.methodLink RL 31 yX10_rule ∈ TW := ⟨tw_5_187, tw_5_185⟩
theorem lv_X10_199_X9 : LkV RX10 199 RX9 yX9_isChild 1 cX9_isChild 2 ((Option.some Jvm.ClassFile.FieldType.boolean)) := ⟨tw_3_5, tw_3_4, tw_1_2, ⟨by decide, by decide⟩, by decide +kernel, Or.inl ⟨ps_1_4, Or.inr ⟨"HourLets", tw_5_189⟩⟩⟩
theorem lv_X10_203_X9 : LkV RX10 203 RX9 yX9_isBarred 2 cX9_isBarred 3 ((Option.some Jvm.ClassFile.FieldType.boolean)) := ⟨tw_3_45, tw_3_44, tw_1_2, ⟨by decide, by decide⟩, by decide +kernel, Or.inl ⟨ps_1_12, Or.inr ⟨"HourLets", tw_5_190⟩⟩⟩
theorem lv_X10_207_X9 : LkV RX10 207 RX9 yX9_rentOf 2 cX9_rentOf 3 ((Option.some Jvm.ClassFile.FieldType.int)) := ⟨tw_5_140, tw_5_139, tw_1_2, ⟨by decide, by decide⟩, by decide +kernel, Or.inl ⟨ps_5_1, Or.inr ⟨"HourLets", tw_5_191⟩⟩⟩
theorem lv_X10_211_X9 : LkV RX10 211 RX9 yX9_valueOf 2 cX9_valueOf 3 ((Option.some Jvm.ClassFile.FieldType.int)) := ⟨tw_5_195, tw_5_194, tw_1_2, ⟨by decide, by decide⟩, by decide +kernel, Or.inl ⟨ps_5_4, Or.inr ⟨"HourLets", tw_5_192⟩⟩⟩
theorem lv_L_35_X10 : LkV RL 35 RX10 yX10_roomOf 3 cX10_roomOf 8 ((Option.some Jvm.ClassFile.FieldType.int)) := ⟨tw_5_202, tw_5_200, tw_1_1, ⟨by decide, by decide⟩, by decide +kernel, Or.inl ⟨tw_5_201, Or.inl tw_5_199⟩⟩
theorem lv_L_35_X10_p : Cond.selects RX10 yX10_roomOf yX10_roomOf ∈ TW ∧ Cond.methodLink RL 35 yX10_roomOf ∈ TW := ⟨tw_5_201, tw_5_199⟩
theorem lv_L_39_X10 : LkV RL 39 RX10 yX10_take 2 cX10_take 3 ((Option.some Jvm.ClassFile.FieldType.int)) := ⟨tw_5_210, tw_5_208, tw_1_1, ⟨by decide, by decide⟩, by decide +kernel, Or.inl ⟨tw_5_209, Or.inl tw_5_207⟩⟩
theorem lv_L_39_X10_p : Cond.selects RX10 yX10_take yX10_take ∈ TW ∧ Cond.methodLink RL 39 yX10_take ∈ TW := ⟨tw_5_209, tw_5_207⟩
theorem lv_X10_214_X9 : LkV RX10 214 RX9 yX9_mayTake 3 cX9_mayTake 4 ((Option.some Jvm.ClassFile.FieldType.boolean)) := ⟨tw_5_214, tw_5_213, tw_1_2, ⟨by decide, by decide⟩, by decide +kernel, Or.inl ⟨ps_5_5, Or.inr ⟨"HourLets", tw_5_211⟩⟩⟩
theorem lv_X9_111_X9 : LkV RX9 111 RX9 yX9_isFree 1 cX9_isFree 2 ((Option.some Jvm.ClassFile.FieldType.boolean)) := ⟨tw_3_37, tw_3_36, tw_1_2, ⟨by decide, by decide⟩, by decide +kernel, Or.inl ⟨ps_1_10, Or.inl tw_5_215⟩⟩
theorem lv_X9_111_X9_p : Cond.selects RX9 yX9_isFree yX9_isFree ∈ TW ∧ Cond.methodLink RX9 111 yX9_isFree ∈ TW := ⟨ps_1_10, tw_5_215⟩
theorem lv_X9_114_X9 : LkV RX9 114 RX9 yX9_isBarred 2 cX9_isBarred 3 ((Option.some Jvm.ClassFile.FieldType.boolean)) := ⟨tw_3_45, tw_3_44, tw_1_2, ⟨by decide, by decide⟩, by decide +kernel, Or.inl ⟨ps_1_12, Or.inl tw_5_216⟩⟩
theorem lv_X9_114_X9_p : Cond.selects RX9 yX9_isBarred yX9_isBarred ∈ TW ∧ Cond.methodLink RX9 114 yX9_isBarred ∈ TW := ⟨ps_1_12, tw_5_216⟩
theorem ls_X10_218 : LkS RX10 218 yX10_needAllowed 1 cX10_needAllowed 1 ((Option.none : Option Jvm.ClassFile.FieldType)) := ⟨tw_5_219, tw_5_218, tw_1_1, ⟨by decide, by decide⟩, by decide +kernel, Or.inl tw_5_217⟩
theorem ls_X10_218_p : Cond.methodLink RX10 218 yX10_needAllowed ∈ TW := tw_5_217
theorem lv_X10_222_X10 : LkV RX10 222 RX10 yX10_remember 0 cX10_remember 1 ((Option.none : Option Jvm.ClassFile.FieldType)) := ⟨tw_5_239, tw_5_238, tw_1_1, ⟨by decide, by decide⟩, by decide +kernel, Or.inl ⟨ps_5_6, Or.inl tw_5_236⟩⟩
theorem lv_X10_222_X10_p : Cond.selects RX10 yX10_remember yX10_remember ∈ TW ∧ Cond.methodLink RX10 222 yX10_remember ∈ TW := ⟨ps_5_6, tw_5_236⟩
theorem lv_X10_225_X9 : LkV RX10 225 RX9 yX9_giveTo 3 cX9_giveTo 5 ((Option.some Jvm.ClassFile.FieldType.int)) := ⟨tw_6_3, tw_6_2, tw_1_2, ⟨by decide, by decide⟩, by decide +kernel, Or.inl ⟨ps_5_7, Or.inr ⟨"HourLets", tw_6_0⟩⟩⟩
theorem lv_X9_117_X9 : LkV RX9 117 RX9 yX9_pay 2 cX9_pay 3 ((Option.none : Option Jvm.ClassFile.FieldType)) := ⟨tw_6_7, tw_6_6, tw_1_2, ⟨by decide, by decide⟩, by decide +kernel, Or.inl ⟨ps_5_8, Or.inl tw_6_4⟩⟩
theorem lv_X9_117_X9_p : Cond.selects RX9 yX9_pay yX9_pay ∈ TW ∧ Cond.methodLink RX9 117 yX9_pay ∈ TW := ⟨ps_5_8, tw_6_4⟩
theorem lv_X9_121_X7 : LkV RX9 121 RX7 yX7_comeTo 3 cX7_comeTo 4 ((Option.none : Option Jvm.ClassFile.FieldType)) := ⟨tw_6_11, tw_6_10, tw_1_3, ⟨by decide, by decide⟩, by decide +kernel, Or.inl ⟨ps_5_9, Or.inr ⟨"HourLets", tw_6_8⟩⟩⟩
theorem lv_X7_65_X7 : LkV RX7 65 RX7 yX7_setOwner 2 cX7_setOwner 3 ((Option.none : Option Jvm.ClassFile.FieldType)) := ⟨tw_4_74, tw_4_73, tw_1_3, ⟨by decide, by decide⟩, by decide +kernel, Or.inl ⟨ps_3_5, Or.inl tw_6_12⟩⟩
theorem lv_X7_65_X7_p : Cond.selects RX7 yX7_setOwner yX7_setOwner ∈ TW ∧ Cond.methodLink RX7 65 yX7_setOwner ∈ TW := ⟨ps_3_5, tw_6_12⟩
theorem lv_X7_69_X7 : LkV RX7 69 RX7 yX7_enter 3 cX7_enter 4 ((Option.none : Option Jvm.ClassFile.FieldType)) := ⟨tw_6_16, tw_6_15, tw_1_3, ⟨by decide, by decide⟩, by decide +kernel, Or.inl ⟨ps_5_10, Or.inl tw_6_13⟩⟩
theorem lv_X7_69_X7_p : Cond.selects RX7 yX7_enter yX7_enter ∈ TW ∧ Cond.methodLink RX7 69 yX7_enter ∈ TW := ⟨ps_5_10, tw_6_13⟩
theorem ls_X7_73 : LkS RX7 73 yJ9_min_7cf53 2 cJ9_min_7cf53 2 ((Option.some Jvm.ClassFile.FieldType.int)) := ⟨tw_3_76, tw_3_75, tw_1_15, ⟨by decide, by decide⟩, by decide +kernel, Or.inl tw_6_17⟩
theorem ls_X7_73_p : Cond.methodLink RX7 73 yJ9_min_7cf53 ∈ TW := tw_6_17
theorem lv_L_44_X10 : LkV RL 44 RX10 yX10_leave 1 cX10_leave 3 ((Option.some Jvm.ClassFile.FieldType.int)) := ⟨tw_6_24, tw_6_22, tw_1_1, ⟨by decide, by decide⟩, by decide +kernel, Or.inl ⟨tw_6_23, Or.inl tw_6_21⟩⟩
theorem lv_L_44_X10_p : Cond.selects RX10 yX10_leave yX10_leave ∈ TW ∧ Cond.methodLink RL 44 yX10_leave ∈ TW := ⟨tw_6_23, tw_6_21⟩
theorem lv_X10_229_X7 : LkV RX10 229 RX7 yX7_free 1 cX7_free 2 ((Option.none : Option Jvm.ClassFile.FieldType)) := ⟨tw_4_78, tw_4_77, tw_1_3, ⟨by decide, by decide⟩, by decide +kernel, Or.inl ⟨ps_3_6, Or.inr ⟨"HourLets", tw_6_25⟩⟩⟩
theorem lv_L_48_X10 : LkV RL 48 RX10 yX10_sublet 3 cX10_sublet 4 ((Option.some Jvm.ClassFile.FieldType.int)) := ⟨tw_6_32, tw_6_30, tw_1_1, ⟨by decide, by decide⟩, by decide +kernel, Or.inl ⟨tw_6_31, Or.inl tw_6_29⟩⟩
theorem lv_L_48_X10_p : Cond.selects RX10 yX10_sublet yX10_sublet ∈ TW ∧ Cond.methodLink RL 48 yX10_sublet ∈ TW := ⟨tw_6_31, tw_6_29⟩
theorem ls_X10_232 : LkS RX10 232 yX10_needNumber 3 cX10_needNumber 3 ((Option.none : Option Jvm.ClassFile.FieldType)) := ⟨tw_6_35, tw_6_34, tw_1_1, ⟨by decide, by decide⟩, by decide +kernel, Or.inl tw_6_33⟩
theorem ls_X10_232_p : Cond.methodLink RX10 232 yX10_needNumber ∈ TW := tw_6_33
theorem lv_X10_236_X9 : LkV RX10 236 RX9 yX9_maySublet 3 cX9_maySublet 5 ((Option.some Jvm.ClassFile.FieldType.boolean)) := ⟨tw_6_40, tw_6_39, tw_1_2, ⟨by decide, by decide⟩, by decide +kernel, Or.inl ⟨ps_5_11, Or.inr ⟨"HourLets", tw_6_37⟩⟩⟩
theorem lv_X10_239_X9 : LkV RX10 239 RX9 yX9_subletTo 3 cX9_subletTo 6 ((Option.none : Option Jvm.ClassFile.FieldType)) := ⟨tw_6_44, tw_6_43, tw_1_2, ⟨by decide, by decide⟩, by decide +kernel, Or.inl ⟨ps_5_12, Or.inr ⟨"HourLets", tw_6_41⟩⟩⟩
theorem ls_X9_128 : LkS RX9 128 yJ9_min_7cf53 2 cJ9_min_7cf53 2 ((Option.some Jvm.ClassFile.FieldType.int)) := ⟨tw_3_76, tw_3_75, tw_1_15, ⟨by decide, by decide⟩, by decide +kernel, Or.inl tw_6_45⟩
theorem ls_X9_128_p : Cond.methodLink RX9 128 yJ9_min_7cf53 ∈ TW := tw_6_45
theorem lv_X9_133_X7 : LkV RX9 133 RX7 yX7_enter 3 cX7_enter 4 ((Option.none : Option Jvm.ClassFile.FieldType)) := ⟨tw_6_16, tw_6_15, tw_1_3, ⟨by decide, by decide⟩, by decide +kernel, Or.inl ⟨ps_5_10, Or.inr ⟨"HourLets", tw_6_46⟩⟩⟩
theorem lv_L_51_X10 : LkV RL 51 RX10 yX10_ends 1 cX10_ends 3 ((Option.some Jvm.ClassFile.FieldType.int)) := ⟨tw_6_53, tw_6_51, tw_1_1, ⟨by decide, by decide⟩, by decide +kernel, Or.inl ⟨tw_6_52, Or.inl tw_6_50⟩⟩
theorem lv_L_51_X10_p : Cond.selects RX10 yX10_ends yX10_ends ∈ TW ∧ Cond.methodLink RL 51 yX10_ends ∈ TW := ⟨tw_6_52, tw_6_50⟩
theorem lv_L_54_X10 : LkV RL 54 RX10 yX10_evict 1 cX10_evict 2 ((Option.some Jvm.ClassFile.FieldType.int)) := ⟨tw_6_60, tw_6_58, tw_1_1, ⟨by decide, by decide⟩, by decide +kernel, Or.inl ⟨tw_6_59, Or.inl tw_6_57⟩⟩
theorem lv_L_54_X10_p : Cond.selects RX10 yX10_evict yX10_evict ∈ TW ∧ Cond.methodLink RL 54 yX10_evict ∈ TW := ⟨tw_6_59, tw_6_57⟩
theorem lv_X10_245_X9 : LkV RX10 245 RX9 yX9_putOut 1 cX9_putOut 5 ((Option.some Jvm.ClassFile.FieldType.int)) := ⟨tw_6_64, tw_6_63, tw_1_2, ⟨by decide, by decide⟩, by decide +kernel, Or.inl ⟨ps_5_13, Or.inr ⟨"HourLets", tw_6_61⟩⟩⟩
theorem lv_X9_136_X7 : LkV RX9 136 RX7 yX7_free 1 cX7_free 2 ((Option.none : Option Jvm.ClassFile.FieldType)) := ⟨tw_4_78, tw_4_77, tw_1_3, ⟨by decide, by decide⟩, by decide +kernel, Or.inl ⟨ps_3_6, Or.inr ⟨"HourLets", tw_6_65⟩⟩⟩
theorem lv_L_57_X10 : LkV RL 57 RX10 yX10_carry 4 cX10_carry 7 ((Option.some Jvm.ClassFile.FieldType.int)) := ⟨tw_6_72, tw_6_70, tw_1_1, ⟨by decide, by decide⟩, by decide +kernel, Or.inl ⟨tw_6_71, Or.inl tw_6_69⟩⟩
theorem lv_L_57_X10_p : Cond.selects RX10 yX10_carry yX10_carry ∈ TW ∧ Cond.methodLink RL 57 yX10_carry ∈ TW := ⟨tw_6_71, tw_6_69⟩
theorem ls_X10_248 : LkS RX10 248 yX10_needTwo 2 cX10_needTwo 2 ((Option.none : Option Jvm.ClassFile.FieldType)) := ⟨tw_6_75, tw_6_74, tw_1_1, ⟨by decide, by decide⟩, by decide +kernel, Or.inl tw_6_73⟩
theorem ls_X10_248_p : Cond.methodLink RX10 248 yX10_needTwo ∈ TW := tw_6_73
theorem ls_X10_252 : LkS RX10 252 yJ9_min_7cf53 2 cJ9_min_7cf53 2 ((Option.some Jvm.ClassFile.FieldType.int)) := ⟨tw_3_76, tw_3_75, tw_1_15, ⟨by decide, by decide⟩, by decide +kernel, Or.inl tw_6_77⟩
theorem ls_X10_252_p : Cond.methodLink RX10 252 yJ9_min_7cf53 ∈ TW := tw_6_77
theorem lv_L_61_X10 : LkV RL 61 RX10 yX10_swap 2 cX10_swap 5 ((Option.some Jvm.ClassFile.FieldType.int)) := ⟨tw_6_84, tw_6_82, tw_1_1, ⟨by decide, by decide⟩, by decide +kernel, Or.inl ⟨tw_6_83, Or.inl tw_6_81⟩⟩
theorem lv_L_61_X10_p : Cond.selects RX10 yX10_swap yX10_swap ∈ TW ∧ Cond.methodLink RL 61 yX10_swap ∈ TW := ⟨tw_6_83, tw_6_81⟩
theorem lv_X10_257_X9 : LkV RX10 257 RX9 yX9_maySwap 2 cX9_maySwap 5 ((Option.some Jvm.ClassFile.FieldType.boolean)) := ⟨tw_6_88, tw_6_87, tw_1_2, ⟨by decide, by decide⟩, by decide +kernel, Or.inl ⟨ps_5_14, Or.inr ⟨"HourLets", tw_6_85⟩⟩⟩
theorem lv_X10_260_X7 : LkV RX10 260 RX7 yX7_comeTo 3 cX7_comeTo 4 ((Option.none : Option Jvm.ClassFile.FieldType)) := ⟨tw_6_11, tw_6_10, tw_1_3, ⟨by decide, by decide⟩, by decide +kernel, Or.inl ⟨ps_5_9, Or.inr ⟨"HourLets", tw_6_89⟩⟩⟩
theorem lv_L_64_X10 : LkV RL 64 RX10 yX10_ticks 1 cX10_ticks 4 ((Option.some Jvm.ClassFile.FieldType.int)) := ⟨tw_6_96, tw_6_94, tw_1_1, ⟨by decide, by decide⟩, by decide +kernel, Or.inl ⟨tw_6_95, Or.inl tw_6_93⟩⟩
theorem lv_L_64_X10_p : Cond.selects RX10 yX10_ticks yX10_ticks ∈ TW ∧ Cond.methodLink RL 64 yX10_ticks ∈ TW := ⟨tw_6_95, tw_6_93⟩
theorem lv_X10_266_X9 : LkV RX10 266 RX9 yX9_tickOn 0 cX9_tickOn 2 ((Option.none : Option Jvm.ClassFile.FieldType)) := ⟨tw_6_100, tw_6_99, tw_1_2, ⟨by decide, by decide⟩, by decide +kernel, Or.inl ⟨ps_5_15, Or.inr ⟨"HourLets", tw_6_97⟩⟩⟩
theorem lv_X9_143_X9 : LkV RX9 143 RX9 yX9_payRents 1 cX9_payRents 4 ((Option.none : Option Jvm.ClassFile.FieldType)) := ⟨tw_6_104, tw_6_103, tw_1_2, ⟨by decide, by decide⟩, by decide +kernel, Or.inl ⟨ps_6_0, Or.inl tw_6_101⟩⟩
theorem lv_X9_143_X9_p : Cond.selects RX9 yX9_payRents yX9_payRents ∈ TW ∧ Cond.methodLink RX9 143 yX9_payRents ∈ TW := ⟨ps_6_0, tw_6_101⟩
theorem lv_X9_146_X9 : LkV RX9 146 RX9 yX9_drawRoom 1 cX9_drawRoom 3 ((Option.none : Option Jvm.ClassFile.FieldType)) := ⟨tw_6_108, tw_6_107, tw_1_2, ⟨by decide, by decide⟩, by decide +kernel, Or.inl ⟨ps_6_1, Or.inl tw_6_105⟩⟩
theorem lv_X9_146_X9_p : Cond.selects RX9 yX9_drawRoom yX9_drawRoom ∈ TW ∧ Cond.methodLink RX9 146 yX9_drawRoom ∈ TW := ⟨ps_6_1, tw_6_105⟩
theorem lv_X9_149_X7 : LkV RX9 149 RX7 yX7_draw 0 cX7_draw 1 ((Option.some Jvm.ClassFile.FieldType.int)) := ⟨tw_6_112, tw_6_111, tw_1_3, ⟨by decide, by decide⟩, by decide +kernel, Or.inl ⟨ps_6_2, Or.inr ⟨"HourLets", tw_6_109⟩⟩⟩
theorem lv_X9_156_X9 : LkV RX9 156 RX9 yX9_mayTake 3 cX9_mayTake 4 ((Option.some Jvm.ClassFile.FieldType.boolean)) := ⟨tw_5_214, tw_5_213, tw_1_2, ⟨by decide, by decide⟩, by decide +kernel, Or.inl ⟨ps_5_5, Or.inl tw_6_114⟩⟩
theorem lv_X9_156_X9_p : Cond.selects RX9 yX9_mayTake yX9_mayTake ∈ TW ∧ Cond.methodLink RX9 156 yX9_mayTake ∈ TW := ⟨ps_5_5, tw_6_114⟩
theorem lv_X9_160_X9 : LkV RX9 160 RX9 yX9_giveTo 3 cX9_giveTo 5 ((Option.some Jvm.ClassFile.FieldType.int)) := ⟨tw_6_3, tw_6_2, tw_1_2, ⟨by decide, by decide⟩, by decide +kernel, Or.inl ⟨ps_5_7, Or.inl tw_6_115⟩⟩
theorem lv_X9_160_X9_p : Cond.selects RX9 yX9_giveTo yX9_giveTo ∈ TW ∧ Cond.methodLink RX9 160 yX9_giveTo ∈ TW := ⟨ps_5_7, tw_6_115⟩
theorem lv_L_67_X10 : LkV RL 67 RX10 yX10_neighbours 3 cX10_neighbours 4 ((Option.some Jvm.ClassFile.FieldType.int)) := ⟨tw_6_122, tw_6_120, tw_1_1, ⟨by decide, by decide⟩, by decide +kernel, Or.inl ⟨tw_6_121, Or.inl tw_6_119⟩⟩
theorem lv_L_67_X10_p : Cond.selects RX10 yX10_neighbours yX10_neighbours ∈ TW ∧ Cond.methodLink RL 67 yX10_neighbours ∈ TW := ⟨tw_6_121, tw_6_119⟩
theorem lv_X10_269_X5 : LkV RX10 269 RX5 yX5_sideBySide 3 cX5_sideBySide 6 ((Option.some Jvm.ClassFile.FieldType.int)) := ⟨tw_6_126, tw_6_125, tw_1_10, ⟨by decide, by decide⟩, by decide +kernel, Or.inl ⟨ps_6_3, Or.inr ⟨"HourLets", tw_6_123⟩⟩⟩
theorem lv_L_70_X10 : LkV RL 70 RX10 yX10_run 2 cX10_run 3 ((Option.some Jvm.ClassFile.FieldType.int)) := ⟨tw_6_133, tw_6_131, tw_1_1, ⟨by decide, by decide⟩, by decide +kernel, Or.inl ⟨tw_6_132, Or.inl tw_6_130⟩⟩
theorem lv_L_70_X10_p : Cond.selects RX10 yX10_run yX10_run ∈ TW ∧ Cond.methodLink RL 70 yX10_run ∈ TW := ⟨tw_6_132, tw_6_130⟩
theorem lv_L_74_X10 : LkV RL 74 RX10 yX10_wedding 2 cX10_wedding 3 ((Option.some Jvm.ClassFile.FieldType.int)) := ⟨tw_6_140, tw_6_138, tw_1_1, ⟨by decide, by decide⟩, by decide +kernel, Or.inl ⟨tw_6_139, Or.inl tw_6_137⟩⟩
theorem lv_L_74_X10_p : Cond.selects RX10 yX10_wedding yX10_wedding ∈ TW ∧ Cond.methodLink RL 74 yX10_wedding ∈ TW := ⟨tw_6_139, tw_6_137⟩
theorem lv_X10_277_X5 : LkV RX10 277 RX5 yX5_firstMeeting 2 cX5_firstMeeting 7 ((Option.some Jvm.ClassFile.FieldType.int)) := ⟨tw_6_144, tw_6_143, tw_1_10, ⟨by decide, by decide⟩, by decide +kernel, Or.inl ⟨ps_6_4, Or.inr ⟨"HourLets", tw_6_141⟩⟩⟩
theorem lv_L_77_X10 : LkV RL 77 RX10 yX10_cheap 3 cX10_cheap 4 ((Option.some Jvm.ClassFile.FieldType.int)) := ⟨tw_6_151, tw_6_149, tw_1_1, ⟨by decide, by decide⟩, by decide +kernel, Or.inl ⟨tw_6_150, Or.inl tw_6_148⟩⟩
theorem lv_L_77_X10_p : Cond.selects RX10 yX10_cheap yX10_cheap ∈ TW ∧ Cond.methodLink RL 77 yX10_cheap ∈ TW := ⟨tw_6_150, tw_6_148⟩
theorem lv_X10_286_X0 : LkV RX10 286 RX0 yX0_cheapest 3 cX0_cheapest 7 ((Option.some Jvm.ClassFile.FieldType.int)) := ⟨tw_6_155, tw_6_154, tw_1_11, ⟨by decide, by decide⟩, by decide +kernel, Or.inl ⟨ps_6_5, Or.inr ⟨"HourLets", tw_6_152⟩⟩⟩
theorem lv_X0_48_X9 : LkV RX0 48 RX9 yX9_mayTake 3 cX9_mayTake 4 ((Option.some Jvm.ClassFile.FieldType.boolean)) := ⟨tw_5_214, tw_5_213, tw_1_2, ⟨by decide, by decide⟩, by decide +kernel, Or.inl ⟨ps_5_5, Or.inr ⟨"HourLets", tw_6_157⟩⟩⟩
theorem lv_X0_52_X9 : LkV RX0 52 RX9 yX9_rentOf 2 cX9_rentOf 3 ((Option.some Jvm.ClassFile.FieldType.int)) := ⟨tw_5_140, tw_5_139, tw_1_2, ⟨by decide, by decide⟩, by decide +kernel, Or.inl ⟨ps_5_1, Or.inr ⟨"HourLets", tw_6_158⟩⟩⟩
theorem lv_X0_56_X0 : LkV RX0 56 RX0 yX0_cheapestLeft 0 cX0_cheapestLeft 3 ((Option.some Jvm.ClassFile.FieldType.int)) := ⟨tw_6_162, tw_6_161, tw_1_11, ⟨by decide, by decide⟩, by decide +kernel, Or.inl ⟨ps_6_6, Or.inl tw_6_159⟩⟩
theorem lv_X0_56_X0_p : Cond.selects RX0 yX0_cheapestLeft yX0_cheapestLeft ∈ TW ∧ Cond.methodLink RX0 56 yX0_cheapestLeft ∈ TW := ⟨ps_6_6, tw_6_159⟩
theorem lv_X0_60_X0 : LkV RX0 60 RX0 yX0_chosen 1 cX0_chosen 4 ((Option.some Jvm.ClassFile.FieldType.int)) := ⟨tw_6_166, tw_6_165, tw_1_11, ⟨by decide, by decide⟩, by decide +kernel, Or.inl ⟨ps_6_7, Or.inl tw_6_163⟩⟩
theorem lv_X0_60_X0_p : Cond.selects RX0 yX0_chosen yX0_chosen ∈ TW ∧ Cond.methodLink RX0 60 yX0_chosen ∈ TW := ⟨ps_6_7, tw_6_163⟩
theorem lv_L_80_X10 : LkV RL 80 RX10 yX10_given 1 cX10_given 2 ((Option.some Jvm.ClassFile.FieldType.int)) := ⟨tw_6_173, tw_6_171, tw_1_1, ⟨by decide, by decide⟩, by decide +kernel, Or.inl ⟨tw_6_172, Or.inl tw_6_170⟩⟩
theorem lv_L_80_X10_p : Cond.selects RX10 yX10_given yX10_given ∈ TW ∧ Cond.methodLink RL 80 yX10_given ∈ TW := ⟨tw_6_172, tw_6_170⟩
theorem lv_X10_295_X1 : LkV RX10 295 RX1 yX1_wantOf 1 cX1_wantOf 2 ((Option.some Jvm.ClassFile.FieldType.int)) := ⟨tw_6_177, tw_6_176, tw_1_12, ⟨by decide, by decide⟩, by decide +kernel, Or.inl ⟨ps_6_8, Or.inr ⟨"HourLets", tw_6_174⟩⟩⟩
theorem lv_L_83_X10 : LkV RL 83 RX10 yX10_envies 1 cX10_envies 2 ((Option.some Jvm.ClassFile.FieldType.int)) := ⟨tw_6_184, tw_6_182, tw_1_1, ⟨by decide, by decide⟩, by decide +kernel, Or.inl ⟨tw_6_183, Or.inl tw_6_181⟩⟩
theorem lv_L_83_X10_p : Cond.selects RX10 yX10_envies yX10_envies ∈ TW ∧ Cond.methodLink RL 83 yX10_envies ∈ TW := ⟨tw_6_183, tw_6_181⟩
theorem lv_X10_298_X0 : LkV RX10 298 RX0 yX0_enviedBy 1 cX0_enviedBy 4 ((Option.some Jvm.ClassFile.FieldType.int)) := ⟨tw_6_188, tw_6_187, tw_1_11, ⟨by decide, by decide⟩, by decide +kernel, Or.inl ⟨ps_6_9, Or.inr ⟨"HourLets", tw_6_185⟩⟩⟩
theorem lv_X0_64_X9 : LkV RX0 64 RX9 yX9_isChild 1 cX9_isChild 2 ((Option.some Jvm.ClassFile.FieldType.boolean)) := ⟨tw_3_5, tw_3_4, tw_1_2, ⟨by decide, by decide⟩, by decide +kernel, Or.inl ⟨ps_1_4, Or.inr ⟨"HourLets", tw_6_189⟩⟩⟩
theorem ls_X0_68 : LkS RX0 68 yJ7_fill_53178 2 cJ7_fill_53178 4 ((Option.none : Option Jvm.ClassFile.FieldType)) := ⟨tw_1_51, tw_1_50, tw_1_4, ⟨by decide, by decide⟩, by decide +kernel, Or.inl tw_6_190⟩
theorem ls_X0_68_p : Cond.methodLink RX0 68 yJ7_fill_53178 ∈ TW := tw_6_190
theorem lv_X0_74_X7 : LkV RX0 74 RX7 yX7_livesIn 1 cX7_livesIn 2 ((Option.some Jvm.ClassFile.FieldType.int)) := ⟨tw_2_233, tw_2_232, tw_1_3, ⟨by decide, by decide⟩, by decide +kernel, Or.inl ⟨ps_1_2, Or.inr ⟨"HourLets", tw_6_191⟩⟩⟩
theorem lv_X0_79_X9 : LkV RX0 79 RX9 yX9_valueOf 2 cX9_valueOf 3 ((Option.some Jvm.ClassFile.FieldType.int)) := ⟨tw_5_195, tw_5_194, tw_1_2, ⟨by decide, by decide⟩, by decide +kernel, Or.inl ⟨ps_5_4, Or.inr ⟨"HourLets", tw_6_192⟩⟩⟩
theorem lv_L_86_X10 : LkV RL 86 RX10 yX10_fair 3 cX10_fair 5 ((Option.some Jvm.ClassFile.FieldType.int)) := ⟨tw_6_199, tw_6_197, tw_1_1, ⟨by decide, by decide⟩, by decide +kernel, Or.inl ⟨tw_6_198, Or.inl tw_6_196⟩⟩
theorem lv_L_86_X10_p : Cond.selects RX10 yX10_fair yX10_fair ∈ TW ∧ Cond.methodLink RL 86 yX10_fair ∈ TW := ⟨tw_6_198, tw_6_196⟩
theorem lv_X10_301_X0 : LkV RX10 301 RX0 yX0_seat 1 cX0_seat 4 ((Option.some Jvm.ClassFile.FieldType.boolean)) := ⟨tw_6_203, tw_6_202, tw_1_11, ⟨by decide, by decide⟩, by decide +kernel, Or.inl ⟨ps_6_10, Or.inr ⟨"HourLets", tw_6_200⟩⟩⟩
theorem ls_X0_82 : LkS RX0 82 yJ6_bitCount_0f7a4 1 cJ6_bitCount_0f7a4 1 ((Option.some Jvm.ClassFile.FieldType.int)) := ⟨tw_6_206, tw_6_205, tw_1_28, ⟨by decide, by decide⟩, by decide +kernel, Or.inl tw_6_204⟩
theorem ls_X0_82_p : Cond.methodLink RX0 82 yJ6_bitCount_0f7a4 ∈ TW := tw_6_204
theorem lv_X10_304_X0 : LkV RX10 304 RX0 yX0_dealFairly 1 cX0_dealFairly 6 ((Option.some Jvm.ClassFile.FieldType.int)) := ⟨tw_6_213, tw_6_212, tw_1_11, ⟨by decide, by decide⟩, by decide +kernel, Or.inl ⟨ps_6_11, Or.inr ⟨"HourLets", tw_6_210⟩⟩⟩
theorem lv_X0_91_X0 : LkV RX0 91 RX0 yX0_isFair 0 cX0_isFair 4 ((Option.some Jvm.ClassFile.FieldType.boolean)) := ⟨tw_6_217, tw_6_216, tw_1_11, ⟨by decide, by decide⟩, by decide +kernel, Or.inl ⟨ps_6_12, Or.inl tw_6_214⟩⟩
theorem lv_X0_91_X0_p : Cond.selects RX0 yX0_isFair yX0_isFair ∈ TW ∧ Cond.methodLink RX0 91 yX0_isFair ∈ TW := ⟨ps_6_12, tw_6_214⟩
theorem lv_X0_104_X0 : LkV RX0 104 RX0 yX0_worthOfSeat 2 cX0_worthOfSeat 5 ((Option.some Jvm.ClassFile.FieldType.int)) := ⟨tw_6_221, tw_6_220, tw_1_11, ⟨by decide, by decide⟩, by decide +kernel, Or.inl ⟨ps_6_13, Or.inl tw_6_218⟩⟩
theorem lv_X0_104_X0_p : Cond.selects RX0 yX0_worthOfSeat yX0_worthOfSeat ∈ TW ∧ Cond.methodLink RX0 104 yX0_worthOfSeat ∈ TW := ⟨ps_6_13, tw_6_218⟩
theorem lv_X0_101_X0 : LkV RX0 101 RX0 yX0_dealNext 0 cX0_dealNext 2 ((Option.none : Option Jvm.ClassFile.FieldType)) := ⟨tw_6_226, tw_6_225, tw_1_11, ⟨by decide, by decide⟩, by decide +kernel, Or.inl ⟨ps_6_14, Or.inl tw_6_223⟩⟩
theorem lv_X0_101_X0_p : Cond.selects RX0 yX0_dealNext yX0_dealNext ∈ TW ∧ Cond.methodLink RX0 101 yX0_dealNext ∈ TW := ⟨ps_6_14, tw_6_223⟩
theorem lv_X10_307_X0 : LkV RX10 307 RX0 yX0_dealtTo 1 cX0_dealtTo 2 ((Option.some Jvm.ClassFile.FieldType.int)) := ⟨tw_6_230, tw_6_229, tw_1_11, ⟨by decide, by decide⟩, by decide +kernel, Or.inl ⟨ps_6_15, Or.inr ⟨"HourLets", tw_6_227⟩⟩⟩
theorem lv_L_89_X10 : LkV RL 89 RX10 yX10_ring 2 cX10_ring 4 ((Option.some Jvm.ClassFile.FieldType.int)) := ⟨tw_6_237, tw_6_235, tw_1_1, ⟨by decide, by decide⟩, by decide +kernel, Or.inl ⟨tw_6_236, Or.inl tw_6_234⟩⟩
theorem lv_L_89_X10_p : Cond.selects RX10 yX10_ring yX10_ring ∈ TW ∧ Cond.methodLink RL 89 yX10_ring ∈ TW := ⟨tw_6_236, tw_6_234⟩
theorem lv_X10_312_X0 : LkV RX10 312 RX0 yX0_findRing 1 cX0_findRing 5 ((Option.some Jvm.ClassFile.FieldType.int)) := ⟨tw_7_2, tw_7_1, tw_1_11, ⟨by decide, by decide⟩, by decide +kernel, Or.inl ⟨ps_7_0, Or.inr ⟨"HourLets", tw_6_239⟩⟩⟩
theorem lv_X0_107_X0 : LkV RX0 107 RX0 yX0_pointsTo 1 cX0_pointsTo 6 ((Option.some Jvm.ClassFile.FieldType.int)) := ⟨tw_7_6, tw_7_5, tw_1_11, ⟨by decide, by decide⟩, by decide +kernel, Or.inl ⟨ps_7_1, Or.inl tw_7_3⟩⟩
theorem lv_X0_107_X0_p : Cond.selects RX0 yX0_pointsTo yX0_pointsTo ∈ TW ∧ Cond.methodLink RX0 107 yX0_pointsTo ∈ TW := ⟨ps_7_1, tw_7_3⟩
theorem ls_X0_116 : LkS RX0 116 yJ9_max_7cf53 2 cJ9_max_7cf53 2 ((Option.some Jvm.ClassFile.FieldType.int)) := ⟨tw_7_9, tw_7_8, tw_1_15, ⟨by decide, by decide⟩, by decide +kernel, Or.inl tw_7_7⟩
theorem ls_X0_116_p : Cond.methodLink RX0 116 yJ9_max_7cf53 ∈ TW := tw_7_7
theorem lv_X0_121_X0 : LkV RX0 121 RX0 yX0_mayPointTo 2 cX0_mayPointTo 4 ((Option.some Jvm.ClassFile.FieldType.boolean)) := ⟨tw_7_13, tw_7_12, tw_1_11, ⟨by decide, by decide⟩, by decide +kernel, Or.inl ⟨ps_7_2, Or.inl tw_7_10⟩⟩
theorem lv_X0_121_X0_p : Cond.selects RX0 yX0_mayPointTo yX0_mayPointTo ∈ TW ∧ Cond.methodLink RX0 121 yX0_mayPointTo ∈ TW := ⟨ps_7_2, tw_7_10⟩
theorem lv_X0_128_X9 : LkV RX0 128 RX9 yX9_isBarred 2 cX9_isBarred 3 ((Option.some Jvm.ClassFile.FieldType.boolean)) := ⟨tw_3_45, tw_3_44, tw_1_2, ⟨by decide, by decide⟩, by decide +kernel, Or.inl ⟨ps_1_12, Or.inr ⟨"HourLets", tw_7_14⟩⟩⟩
theorem lv_X10_315_X0 : LkV RX10 315 RX0 yX0_pointedBy 1 cX0_pointedBy 2 ((Option.some Jvm.ClassFile.FieldType.int)) := ⟨tw_7_18, tw_7_17, tw_1_11, ⟨by decide, by decide⟩, by decide +kernel, Or.inl ⟨ps_7_3, Or.inr ⟨"HourLets", tw_7_15⟩⟩⟩
theorem lv_L_92_X10 : LkV RL 92 RX10 yX10_turn 1 cX10_turn 3 ((Option.some Jvm.ClassFile.FieldType.int)) := ⟨tw_7_25, tw_7_23, tw_1_1, ⟨by decide, by decide⟩, by decide +kernel, Or.inl ⟨tw_7_24, Or.inl tw_7_22⟩⟩
theorem lv_L_92_X10_p : Cond.selects RX10 yX10_turn yX10_turn ∈ TW ∧ Cond.methodLink RL 92 yX10_turn ∈ TW := ⟨tw_7_24, tw_7_22⟩
theorem lv_X10_318_X0 : LkV RX10 318 RX0 yX0_turnRing 1 cX0_turnRing 3 ((Option.none : Option Jvm.ClassFile.FieldType)) := ⟨tw_7_29, tw_7_28, tw_1_11, ⟨by decide, by decide⟩, by decide +kernel, Or.inl ⟨ps_7_4, Or.inr ⟨"HourLets", tw_7_26⟩⟩⟩
theorem lv_X0_131_X7 : LkV RX0 131 RX7 yX7_comeTo 3 cX7_comeTo 4 ((Option.none : Option Jvm.ClassFile.FieldType)) := ⟨tw_6_11, tw_6_10, tw_1_3, ⟨by decide, by decide⟩, by decide +kernel, Or.inl ⟨ps_5_9, Or.inr ⟨"HourLets", tw_7_30⟩⟩⟩
theorem lv_L_95_X10 : LkV RL 95 RX10 yX10_soonest 2 cX10_soonest 3 ((Option.some Jvm.ClassFile.FieldType.int)) := ⟨tw_7_37, tw_7_35, tw_1_1, ⟨by decide, by decide⟩, by decide +kernel, Or.inl ⟨tw_7_36, Or.inl tw_7_34⟩⟩
theorem lv_L_95_X10_p : Cond.selects RX10 yX10_soonest yX10_soonest ∈ TW ∧ Cond.methodLink RL 95 yX10_soonest ∈ TW := ⟨tw_7_36, tw_7_34⟩
theorem lv_X10_321_X5 : LkV RX10 321 RX5 yX5_ticksToHear 2 cX5_ticksToHear 6 ((Option.some Jvm.ClassFile.FieldType.int)) := ⟨tw_7_41, tw_7_40, tw_1_10, ⟨by decide, by decide⟩, by decide +kernel, Or.inl ⟨ps_7_5, Or.inr ⟨"HourLets", tw_7_38⟩⟩⟩
theorem lv_X5_43_X5 : LkV RX5 43 RX5 yX5_toldOn 2 cX5_toldOn 5 ((Option.some Jvm.ClassFile.FieldType.int)) := ⟨tw_7_45, tw_7_44, tw_1_10, ⟨by decide, by decide⟩, by decide +kernel, Or.inl ⟨ps_7_6, Or.inl tw_7_42⟩⟩
theorem lv_X5_43_X5_p : Cond.selects RX5 yX5_toldOn yX5_toldOn ∈ TW ∧ Cond.methodLink RX5 43 yX5_toldOn ∈ TW := ⟨ps_7_6, tw_7_42⟩
theorem lv_L_98_X10 : LkV RL 98 RX10 yX10_heard 2 cX10_heard 3 ((Option.some Jvm.ClassFile.FieldType.int)) := ⟨tw_7_52, tw_7_50, tw_1_1, ⟨by decide, by decide⟩, by decide +kernel, Or.inl ⟨tw_7_51, Or.inl tw_7_49⟩⟩
theorem lv_L_98_X10_p : Cond.selects RX10 yX10_heard yX10_heard ∈ TW ∧ Cond.methodLink RL 98 yX10_heard ∈ TW := ⟨tw_7_51, tw_7_49⟩
theorem lv_X10_324_X5 : LkV RX10 324 RX5 yX5_knowBehind 2 cX5_knowBehind 6 ((Option.some Jvm.ClassFile.FieldType.int)) := ⟨tw_7_56, tw_7_55, tw_1_10, ⟨by decide, by decide⟩, by decide +kernel, Or.inl ⟨ps_7_7, Or.inr ⟨"HourLets", tw_7_53⟩⟩⟩
theorem lv_X5_46_X5 : LkV RX5 46 RX5 yX5_withChildren 1 cX5_withChildren 4 ((Option.some Jvm.ClassFile.FieldType.int)) := ⟨tw_7_60, tw_7_59, tw_1_10, ⟨by decide, by decide⟩, by decide +kernel, Or.inl ⟨ps_7_8, Or.inl tw_7_57⟩⟩
theorem lv_X5_46_X5_p : Cond.selects RX5 yX5_withChildren yX5_withChildren ∈ TW ∧ Cond.methodLink RX5 46 yX5_withChildren ∈ TW := ⟨ps_7_8, tw_7_57⟩
theorem lv_X5_58_X9 : LkV RX5 58 RX9 yX9_homeOf 1 cX9_homeOf 2 ((Option.some Jvm.ClassFile.FieldType.int)) := ⟨tw_5_132, tw_5_131, tw_1_2, ⟨by decide, by decide⟩, by decide +kernel, Or.inl ⟨ps_4_15, Or.inr ⟨"HourLets", tw_7_61⟩⟩⟩
theorem lv_L_101_X10 : LkV RL 101 RX10 yX10_roomsFor 3 cX10_roomsFor 4 ((Option.some Jvm.ClassFile.FieldType.int)) := ⟨tw_7_68, tw_7_66, tw_1_1, ⟨by decide, by decide⟩, by decide +kernel, Or.inl ⟨tw_7_67, Or.inl tw_7_65⟩⟩
theorem lv_L_101_X10_p : Cond.selects RX10 yX10_roomsFor yX10_roomsFor ∈ TW ∧ Cond.methodLink RL 101 yX10_roomsFor ∈ TW := ⟨tw_7_67, tw_7_65⟩
theorem lv_X10_327_X5 : LkV RX10 327 RX5 yX5_fewestEvictions 3 cX5_fewestEvictions 8 ((Option.some Jvm.ClassFile.FieldType.int)) := ⟨tw_7_72, tw_7_71, tw_1_10, ⟨by decide, by decide⟩, by decide +kernel, Or.inl ⟨ps_7_9, Or.inr ⟨"HourLets", tw_7_69⟩⟩⟩
theorem lv_X5_61_X9 : LkV RX5 61 RX9 yX9_isChild 1 cX9_isChild 2 ((Option.some Jvm.ClassFile.FieldType.boolean)) := ⟨tw_3_5, tw_3_4, tw_1_2, ⟨by decide, by decide⟩, by decide +kernel, Or.inl ⟨ps_1_4, Or.inr ⟨"HourLets", tw_7_73⟩⟩⟩
theorem lv_X5_65_X5 : LkV RX5 65 RX5 yX5_costOf 2 cX5_costOf 4 ((Option.some Jvm.ClassFile.FieldType.int)) := ⟨tw_7_77, tw_7_76, tw_1_10, ⟨by decide, by decide⟩, by decide +kernel, Or.inl ⟨ps_7_10, Or.inl tw_7_74⟩⟩
theorem lv_X5_65_X5_p : Cond.selects RX5 yX5_costOf yX5_costOf ∈ TW ∧ Cond.methodLink RX5 65 yX5_costOf ∈ TW := ⟨ps_7_10, tw_7_74⟩
theorem lv_X5_74_X9 : LkV RX5 74 RX9 yX9_isBarred 2 cX9_isBarred 3 ((Option.some Jvm.ClassFile.FieldType.boolean)) := ⟨tw_3_45, tw_3_44, tw_1_2, ⟨by decide, by decide⟩, by decide +kernel, Or.inl ⟨ps_1_12, Or.inr ⟨"HourLets", tw_7_78⟩⟩⟩
theorem lv_X5_68_X5 : LkV RX5 68 RX5 yX5_costOfRow 2 cX5_costOfRow 6 ((Option.some Jvm.ClassFile.FieldType.int)) := ⟨tw_7_82, tw_7_81, tw_1_10, ⟨by decide, by decide⟩, by decide +kernel, Or.inl ⟨ps_7_11, Or.inl tw_7_79⟩⟩
theorem lv_X5_68_X5_p : Cond.selects RX5 yX5_costOfRow yX5_costOfRow ∈ TW ∧ Cond.methodLink RX5 68 yX5_costOfRow ∈ TW := ⟨ps_7_11, tw_7_79⟩
theorem lv_L_104_X10 : LkV RL 104 RX10 yX10_thieves 0 cX10_thieves 4 ((Option.some Jvm.ClassFile.FieldType.int)) := ⟨tw_7_89, tw_7_87, tw_1_1, ⟨by decide, by decide⟩, by decide +kernel, Or.inl ⟨tw_7_88, Or.inl tw_7_86⟩⟩
theorem lv_L_104_X10_p : Cond.selects RX10 yX10_thieves yX10_thieves ∈ TW ∧ Cond.methodLink RL 104 yX10_thieves ∈ TW := ⟨tw_7_88, tw_7_86⟩
theorem lv_X10_330_X10 : LkV RX10 330 RX10 yX10_needAllRooms 2 cX10_needAllRooms 4 ((Option.none : Option Jvm.ClassFile.FieldType)) := ⟨tw_7_93, tw_7_92, tw_1_1, ⟨by decide, by decide⟩, by decide +kernel, Or.inl ⟨ps_7_12, Or.inl tw_7_90⟩⟩
theorem lv_X10_330_X10_p : Cond.selects RX10 yX10_needAllRooms yX10_needAllRooms ∈ TW ∧ Cond.methodLink RX10 330 yX10_needAllRooms ∈ TW := ⟨ps_7_12, tw_7_90⟩
theorem lv_X10_335_X5 : LkV RX10 335 RX5 yX5_nearBy 1 cX5_nearBy 2 ((Option.some Jvm.ClassFile.FieldType.int)) := ⟨tw_7_98, tw_7_97, tw_1_10, ⟨by decide, by decide⟩, by decide +kernel, Or.inl ⟨ps_7_13, Or.inr ⟨"HourLets", tw_7_95⟩⟩⟩
theorem ls_X5_81 : LkS RX5 81 yX10_before 1 cX10_before 1 ((Option.some Jvm.ClassFile.FieldType.int)) := ⟨tw_3_56, tw_3_55, tw_1_1, ⟨by decide, by decide⟩, by decide +kernel, Or.inr ⟨"HourLets", tw_7_99⟩⟩
theorem ls_X5_84 : LkS RX5 84 yX5_bitOf 1 cX5_bitOf 1 ((Option.some Jvm.ClassFile.FieldType.int)) := ⟨tw_7_102, tw_7_101, tw_1_10, ⟨by decide, by decide⟩, by decide +kernel, Or.inl tw_7_100⟩
theorem ls_X5_84_p : Cond.methodLink RX5 84 yX5_bitOf ∈ TW := tw_7_100
theorem lv_L_107_X10 : LkV RL 107 RX10 yX10_seen 0 cX10_seen 3 ((Option.some Jvm.ClassFile.FieldType.int)) := ⟨tw_7_109, tw_7_107, tw_1_1, ⟨by decide, by decide⟩, by decide +kernel, Or.inl ⟨tw_7_108, Or.inl tw_7_106⟩⟩
theorem lv_L_107_X10_p : Cond.selects RX10 yX10_seen yX10_seen ∈ TW ∧ Cond.methodLink RL 107 yX10_seen ∈ TW := ⟨tw_7_108, tw_7_106⟩
theorem lv_L_110_X10 : LkV RL 110 RX10 yX10_changed 3 cX10_changed 4 ((Option.some Jvm.ClassFile.FieldType.int)) := ⟨tw_7_117, tw_7_115, tw_1_1, ⟨by decide, by decide⟩, by decide +kernel, Or.inl ⟨tw_7_116, Or.inl tw_7_114⟩⟩
theorem lv_L_110_X10_p : Cond.selects RX10 yX10_changed yX10_changed ∈ TW ∧ Cond.methodLink RL 110 yX10_changed ∈ TW := ⟨tw_7_116, tw_7_114⟩
theorem lv_X10_343_X5 : LkV RX10 343 RX5 yX5_livedInRow 3 cX5_livedInRow 6 ((Option.some Jvm.ClassFile.FieldType.int)) := ⟨tw_7_121, tw_7_120, tw_1_10, ⟨by decide, by decide⟩, by decide +kernel, Or.inl ⟨ps_7_14, Or.inr ⟨"HourLets", tw_7_118⟩⟩⟩
theorem lv_X10_346_X5 : LkV RX10 346 RX5 yX5_mostInRow 2 cX5_mostInRow 7 ((Option.some Jvm.ClassFile.FieldType.int)) := ⟨tw_7_125, tw_7_124, tw_1_10, ⟨by decide, by decide⟩, by decide +kernel, Or.inl ⟨ps_7_15, Or.inr ⟨"HourLets", tw_7_122⟩⟩⟩
theorem lv_X5_87_X5 : LkV RX5 87 RX5 yX5_livedInRow 3 cX5_livedInRow 6 ((Option.some Jvm.ClassFile.FieldType.int)) := ⟨tw_7_121, tw_7_120, tw_1_10, ⟨by decide, by decide⟩, by decide +kernel, Or.inl ⟨ps_7_14, Or.inl tw_7_126⟩⟩
theorem lv_X5_87_X5_p : Cond.selects RX5 yX5_livedInRow yX5_livedInRow ∈ TW ∧ Cond.methodLink RX5 87 yX5_livedInRow ∈ TW := ⟨ps_7_14, tw_7_126⟩
theorem lv_L_113_X10 : LkV RL 113 RX10 yX10_log 2 cX10_log 4 ((Option.some Jvm.ClassFile.FieldType.int)) := ⟨tw_7_133, tw_7_131, tw_1_1, ⟨by decide, by decide⟩, by decide +kernel, Or.inl ⟨tw_7_132, Or.inl tw_7_130⟩⟩
theorem lv_L_113_X10_p : Cond.selects RX10 yX10_log yX10_log ∈ TW ∧ Cond.methodLink RL 113 yX10_log ∈ TW := ⟨tw_7_132, tw_7_130⟩
theorem lv_X10_352_X7 : LkV RX10 352 RX7 yX7_entryAgo 1 cX7_entryAgo 2 ((Option.some Jvm.ClassFile.FieldType.int)) := ⟨tw_7_137, tw_7_136, tw_1_3, ⟨by decide, by decide⟩, by decide +kernel, Or.inl ⟨ps_8_0, Or.inr ⟨"HourLets", tw_7_134⟩⟩⟩
theorem ls_X7_79 : LkS RX7 79 yJ9_floorMod_7cf53 2 cJ9_floorMod_7cf53 3 ((Option.some Jvm.ClassFile.FieldType.int)) := ⟨tw_7_140, tw_7_139, tw_1_15, ⟨by decide, by decide⟩, by decide +kernel, Or.inl tw_7_138⟩
theorem ls_X7_79_p : Cond.methodLink RX7 79 yJ9_floorMod_7cf53 ∈ TW := tw_7_138
theorem ls_X10_355 : LkS RX10 355 yX7_weekOf 1 cX7_weekOf 1 ((Option.some Jvm.ClassFile.FieldType.int)) := ⟨tw_7_143, tw_7_142, tw_1_3, ⟨by decide, by decide⟩, by decide +kernel, Or.inr ⟨"HourLets", tw_7_141⟩⟩
theorem ls_X10_358 : LkS RX10 358 yX7_roomIn 1 cX7_roomIn 1 ((Option.some Jvm.ClassFile.FieldType.int)) := ⟨tw_7_146, tw_7_145, tw_1_3, ⟨by decide, by decide⟩, by decide +kernel, Or.inr ⟨"HourLets", tw_7_144⟩⟩
theorem ls_X10_361 : LkS RX10 361 yX7_whoOf 1 cX7_whoOf 1 ((Option.some Jvm.ClassFile.FieldType.int)) := ⟨tw_7_149, tw_7_148, tw_1_3, ⟨by decide, by decide⟩, by decide +kernel, Or.inr ⟨"HourLets", tw_7_147⟩⟩
theorem ls_X10_364 : LkS RX10 364 yX7_howOf 1 cX7_howOf 1 ((Option.some Jvm.ClassFile.FieldType.int)) := ⟨tw_7_152, tw_7_151, tw_1_3, ⟨by decide, by decide⟩, by decide +kernel, Or.inr ⟨"HourLets", tw_7_150⟩⟩
theorem lv_L_116_X10 : LkV RL 116 RX10 yX10_led 2 cX10_led 6 ((Option.some Jvm.ClassFile.FieldType.int)) := ⟨tw_7_159, tw_7_157, tw_1_1, ⟨by decide, by decide⟩, by decide +kernel, Or.inl ⟨tw_7_158, Or.inl tw_7_156⟩⟩
theorem lv_L_116_X10_p : Cond.selects RX10 yX10_led yX10_led ∈ TW ∧ Cond.methodLink RL 116 yX10_led ∈ TW := ⟨tw_7_158, tw_7_156⟩
theorem lv_L_139_X11 : LkV RL 139 RX11 yX11_thrown 0 cX11_thrown 1 ((Option.some Jvm.ClassFile.FieldType.int)) := ⟨tw_8_31, tw_8_29, tw_1_13, ⟨by decide, by decide⟩, by decide +kernel, Or.inl ⟨tw_8_30, Or.inl tw_8_28⟩⟩
theorem lv_L_139_X11_p : Cond.selects RX11 yX11_thrown yX11_thrown ∈ TW ∧ Cond.methodLink RL 139 yX11_thrown ∈ TW := ⟨tw_8_30, tw_8_28⟩
theorem lv_L_127_X11 : LkV RL 127 RX11 yX11_feed 5 cX11_feed 8 ((Option.some Jvm.ClassFile.FieldType.int)) := ⟨tw_8_35, tw_8_33, tw_1_13, ⟨by decide, by decide⟩, by decide +kernel, Or.inl ⟨tw_8_34, Or.inl tw_8_32⟩⟩
theorem lv_L_127_X11_p : Cond.selects RX11 yX11_feed yX11_feed ∈ TW ∧ Cond.methodLink RL 127 yX11_feed ∈ TW := ⟨tw_8_34, tw_8_32⟩
theorem lv_L_132_X11 : LkV RL 132 RX11 yX11_end 1 cX11_end 2 ((Option.some Jvm.ClassFile.FieldType.boolean)) := ⟨tw_8_39, tw_8_37, tw_1_13, ⟨by decide, by decide⟩, by decide +kernel, Or.inl ⟨tw_8_38, Or.inl tw_8_36⟩⟩
theorem lv_L_132_X11_p : Cond.selects RX11 yX11_end yX11_end ∈ TW ∧ Cond.methodLink RL 132 yX11_end ∈ TW := ⟨tw_8_38, tw_8_36⟩
theorem ls_X11_72 : LkS RX11 72 yX11_isIn 3 cX11_isIn 3 ((Option.some Jvm.ClassFile.FieldType.boolean)) := ⟨tw_8_42, tw_8_41, tw_1_13, ⟨by decide, by decide⟩, by decide +kernel, Or.inl tw_8_40⟩
theorem ls_X11_72_p : Cond.methodLink RX11 72 yX11_isIn ∈ TW := tw_8_40
theorem lv_L_138_X11 : LkV RL 138 RX11 yX11_town 0 cX11_town 2 ((Option.some Jvm.ClassFile.FieldType.int)) := ⟨tw_8_46, tw_8_44, tw_1_13, ⟨by decide, by decide⟩, by decide +kernel, Or.inl ⟨tw_8_45, Or.inl tw_8_43⟩⟩
theorem lv_L_138_X11_p : Cond.selects RX11 yX11_town yX11_town ∈ TW ∧ Cond.methodLink RL 138 yX11_town ∈ TW := ⟨tw_8_45, tw_8_43⟩
theorem lv_X11_196_X11 : LkV RX11 196 RX11 yX11_begins 0 cX11_begins 1 ((Option.none : Option Jvm.ClassFile.FieldType)) := ⟨tw_8_50, tw_8_49, tw_1_13, ⟨by decide, by decide⟩, by decide +kernel, Or.inl ⟨ps_8_1, Or.inl tw_8_47⟩⟩
theorem lv_X11_196_X11_p : Cond.selects RX11 yX11_begins yX11_begins ∈ TW ∧ Cond.methodLink RX11 196 yX11_begins ∈ TW := ⟨ps_8_1, tw_8_47⟩
theorem lv_X11_199_X11 : LkV RX11 199 RX11 yX11_read 1 cX11_read 4 ((Option.some Jvm.ClassFile.FieldType.int)) := ⟨tw_8_54, tw_8_53, tw_1_13, ⟨by decide, by decide⟩, by decide +kernel, Or.inl ⟨ps_8_2, Or.inl tw_8_51⟩⟩
theorem lv_X11_199_X11_p : Cond.selects RX11 yX11_read yX11_read ∈ TW ∧ Cond.methodLink RX11 199 yX11_read ∈ TW := ⟨ps_8_2, tw_8_51⟩
theorem lv_X11_106_X11 : LkV RX11 106 RX11 yX11_skip 0 cX11_skip 1 ((Option.none : Option Jvm.ClassFile.FieldType)) := ⟨tw_8_58, tw_8_57, tw_1_13, ⟨by decide, by decide⟩, by decide +kernel, Or.inl ⟨ps_8_3, Or.inl tw_8_55⟩⟩
theorem lv_X11_106_X11_p : Cond.selects RX11 yX11_skip yX11_skip ∈ TW ∧ Cond.methodLink RX11 106 yX11_skip ∈ TW := ⟨ps_8_3, tw_8_55⟩
theorem lv_X11_103_X11 : LkV RX11 103 RX11 yX11_letter 1 cX11_letter 2 ((Option.some Jvm.ClassFile.FieldType.int)) := ⟨tw_8_62, tw_8_61, tw_1_13, ⟨by decide, by decide⟩, by decide +kernel, Or.inl ⟨ps_8_4, Or.inl tw_8_59⟩⟩
theorem lv_X11_103_X11_p : Cond.selects RX11 yX11_letter yX11_letter ∈ TW ∧ Cond.methodLink RX11 103 yX11_letter ∈ TW := ⟨ps_8_4, tw_8_59⟩
theorem lv_X11_123_X11 : LkV RX11 123 RX11 yX11_wrong 1 cX11_wrong 2 ((Option.none : Option Jvm.ClassFile.FieldType)) := ⟨tw_8_66, tw_8_65, tw_1_13, ⟨by decide, by decide⟩, by decide +kernel, Or.inl ⟨ps_8_5, Or.inl tw_8_63⟩⟩
theorem lv_X11_123_X11_p : Cond.selects RX11 yX11_wrong yX11_wrong ∈ TW ∧ Cond.methodLink RX11 123 yX11_wrong ∈ TW := ⟨ps_8_5, tw_8_63⟩
theorem lv_X11_187_X11 : LkV RX11 187 RX11 yX11_lawLine 0 cX11_lawLine 4 ((Option.none : Option Jvm.ClassFile.FieldType)) := ⟨tw_8_70, tw_8_69, tw_1_13, ⟨by decide, by decide⟩, by decide +kernel, Or.inl ⟨ps_8_6, Or.inl tw_8_67⟩⟩
theorem lv_X11_187_X11_p : Cond.selects RX11 yX11_lawLine yX11_lawLine ∈ TW ∧ Cond.methodLink RX11 187 yX11_lawLine ∈ TW := ⟨ps_8_6, tw_8_67⟩
theorem lv_X11_119_X11 : LkV RX11 119 RX11 yX11_has_ 1 cX11_has_ 4 ((Option.some Jvm.ClassFile.FieldType.boolean)) := ⟨tw_8_75, tw_8_74, tw_1_13, ⟨by decide, by decide⟩, by decide +kernel, Or.inl ⟨ps_8_7, Or.inl tw_8_72⟩⟩
theorem lv_X11_119_X11_p : Cond.selects RX11 yX11_has_ yX11_has_ ∈ TW ∧ Cond.methodLink RX11 119 yX11_has_ ∈ TW := ⟨ps_8_7, tw_8_72⟩
theorem lv_X11_109_J0 : LkV RX11 109 RJ0 yJ0_length_8abf5 0 cJ0_length_8abf5 1 ((Option.some Jvm.ClassFile.FieldType.int)) := ⟨tw_3_193, tw_3_191, tw_1_16, ⟨by decide, by decide⟩, by decide +kernel, Or.inl ⟨tw_3_192, Or.inl tw_8_76⟩⟩
theorem lv_X11_109_J0_p : Cond.selects RJ0 yJ0_length_8abf5 yJ0_length_8abf5 ∈ TW ∧ Cond.methodLink RX11 109 yJ0_length_8abf5 ∈ TW := ⟨tw_3_192, tw_8_76⟩
theorem lv_X11_115_J0 : LkV RX11 115 RJ0 yJ0_charAt_5068e 1 cJ0_charAt_5068e 2 ((Option.some Jvm.ClassFile.FieldType.char)) := ⟨tw_3_203, tw_3_201, tw_1_16, ⟨by decide, by decide⟩, by decide +kernel, Or.inl ⟨tw_3_202, Or.inl tw_8_77⟩⟩
theorem lv_X11_115_J0_p : Cond.selects RJ0 yJ0_charAt_5068e yJ0_charAt_5068e ∈ TW ∧ Cond.methodLink RX11 115 yJ0_charAt_5068e ∈ TW := ⟨tw_3_202, tw_8_77⟩
theorem lv_X11_130_X11 : LkV RX11 130 RX11 yX11_figures 3 cX11_figures 6 ((Option.some Jvm.ClassFile.FieldType.int)) := ⟨tw_8_83, tw_8_82, tw_1_13, ⟨by decide, by decide⟩, by decide +kernel, Or.inl ⟨ps_8_8, Or.inl tw_8_80⟩⟩
theorem lv_X11_130_X11_p : Cond.selects RX11 yX11_figures yX11_figures ∈ TW ∧ Cond.methodLink RX11 130 yX11_figures ∈ TW := ⟨ps_8_8, tw_8_80⟩
theorem lv_X11_127_X11 : LkV RX11 127 RX11 yX11_place 0 cX11_place 1 ((Option.some Jvm.ClassFile.FieldType.int)) := ⟨tw_8_87, tw_8_86, tw_1_13, ⟨by decide, by decide⟩, by decide +kernel, Or.inl ⟨ps_8_9, Or.inl tw_8_84⟩⟩
theorem lv_X11_127_X11_p : Cond.selects RX11 yX11_place yX11_place ∈ TW ∧ Cond.methodLink RX11 127 yX11_place ∈ TW := ⟨ps_8_9, tw_8_84⟩
theorem lv_X11_239_X11 : LkV RX11 239 RX11 yX11_some 0 cX11_some 3 ((Option.some Jvm.ClassFile.FieldType.boolean)) := ⟨tw_8_92, tw_8_91, tw_1_13, ⟨by decide, by decide⟩, by decide +kernel, Or.inl ⟨ps_8_10, Or.inl tw_8_89⟩⟩
theorem lv_X11_239_X11_p : Cond.selects RX11 yX11_some yX11_some ∈ TW ∧ Cond.methodLink RX11 239 yX11_some ∈ TW := ⟨ps_8_10, tw_8_89⟩
theorem lv_X11_244_X11 : LkV RX11 244 RX11 yX11_every 0 cX11_every 3 ((Option.some Jvm.ClassFile.FieldType.boolean)) := ⟨tw_8_96, tw_8_95, tw_1_13, ⟨by decide, by decide⟩, by decide +kernel, Or.inl ⟨ps_8_11, Or.inl tw_8_93⟩⟩
theorem lv_X11_244_X11_p : Cond.selects RX11 yX11_every yX11_every ∈ TW ∧ Cond.methodLink RX11 244 yX11_every ∈ TW := ⟨ps_8_11, tw_8_93⟩
theorem lv_X11_236_X11 : LkV RX11 236 RX11 yX11_atom 0 cX11_atom 4 ((Option.some Jvm.ClassFile.FieldType.boolean)) := ⟨tw_8_100, tw_8_99, tw_1_13, ⟨by decide, by decide⟩, by decide +kernel, Or.inl ⟨ps_8_12, Or.inl tw_8_97⟩⟩
theorem lv_X11_236_X11_p : Cond.selects RX11 yX11_atom yX11_atom ∈ TW ∧ Cond.methodLink RX11 236 yX11_atom ∈ TW := ⟨ps_8_12, tw_8_97⟩
theorem lv_X11_193_X11 : LkV RX11 193 RX11 yX11_isSign 1 cX11_isSign 2 ((Option.some Jvm.ClassFile.FieldType.boolean)) := ⟨tw_8_105, tw_8_104, tw_1_13, ⟨by decide, by decide⟩, by decide +kernel, Or.inl ⟨ps_8_13, Or.inl tw_8_102⟩⟩
theorem lv_X11_193_X11_p : Cond.selects RX11 yX11_isSign yX11_isSign ∈ TW ∧ Cond.methodLink RX11 193 yX11_isSign ∈ TW := ⟨ps_8_13, tw_8_102⟩
theorem lv_X11_232_X11 : LkV RX11 232 RX11 yX11_plain 0 cX11_plain 4 ((Option.some Jvm.ClassFile.FieldType.boolean)) := ⟨tw_8_109, tw_8_108, tw_1_13, ⟨by decide, by decide⟩, by decide +kernel, Or.inl ⟨ps_8_14, Or.inl tw_8_106⟩⟩
theorem lv_X11_232_X11_p : Cond.selects RX11 yX11_plain yX11_plain ∈ TW ∧ Cond.methodLink RX11 232 yX11_plain ∈ TW := ⟨ps_8_14, tw_8_106⟩
theorem lv_X11_227_X11 : LkV RX11 227 RX11 yX11_sum 0 cX11_sum 2 ((Option.some Jvm.ClassFile.FieldType.int)) := ⟨tw_8_115, tw_8_114, tw_1_13, ⟨by decide, by decide⟩, by decide +kernel, Or.inl ⟨ps_8_15, Or.inl tw_8_112⟩⟩
theorem lv_X11_227_X11_p : Cond.selects RX11 yX11_sum yX11_sum ∈ TW ∧ Cond.methodLink RX11 227 yX11_sum ∈ TW := ⟨ps_8_15, tw_8_112⟩
theorem lv_X11_215_X11 : LkV RX11 215 RX11 yX11_part 0 cX11_part 2 ((Option.some Jvm.ClassFile.FieldType.int)) := ⟨tw_8_119, tw_8_118, tw_1_13, ⟨by decide, by decide⟩, by decide +kernel, Or.inl ⟨ps_9_0, Or.inl tw_8_116⟩⟩
theorem lv_X11_215_X11_p : Cond.selects RX11 yX11_part yX11_part ∈ TW ∧ Cond.methodLink RX11 215 yX11_part ∈ TW := ⟨ps_9_0, tw_8_116⟩
theorem lv_X11_190_X11 : LkV RX11 190 RX11 yX11_townLine 0 cX11_townLine 5 ((Option.none : Option Jvm.ClassFile.FieldType)) := ⟨tw_8_131, tw_8_130, tw_1_13, ⟨by decide, by decide⟩, by decide +kernel, Or.inl ⟨ps_9_1, Or.inl tw_8_128⟩⟩
theorem lv_X11_190_X11_p : Cond.selects RX11 yX11_townLine yX11_townLine ∈ TW ∧ Cond.methodLink RX11 190 yX11_townLine ∈ TW := ⟨ps_9_1, tw_8_128⟩
theorem lv_X11_154_X11 : LkV RX11 154 RX11 yX11_tenantLine 1 cX11_tenantLine 5 ((Option.none : Option Jvm.ClassFile.FieldType)) := ⟨tw_8_136, tw_8_135, tw_1_13, ⟨by decide, by decide⟩, by decide +kernel, Or.inl ⟨ps_9_2, Or.inl tw_8_133⟩⟩
theorem lv_X11_154_X11_p : Cond.selects RX11 yX11_tenantLine yX11_tenantLine ∈ TW ∧ Cond.methodLink RX11 154 yX11_tenantLine ∈ TW := ⟨ps_9_2, tw_8_133⟩
theorem lv_X11_136_X11 : LkV RX11 136 RX11 yX11_must 1 cX11_must 2 ((Option.none : Option Jvm.ClassFile.FieldType)) := ⟨tw_8_140, tw_8_139, tw_1_13, ⟨by decide, by decide⟩, by decide +kernel, Or.inl ⟨ps_9_3, Or.inl tw_8_137⟩⟩
theorem lv_X11_136_X11_p : Cond.selects RX11 yX11_must yX11_must ∈ TW ∧ Cond.methodLink RX11 136 yX11_must ∈ TW := ⟨ps_9_3, tw_8_137⟩
theorem lv_X11_142_X11 : LkV RX11 142 RX11 yX11_comes 4 cX11_comes 6 ((Option.none : Option Jvm.ClassFile.FieldType)) := ⟨tw_8_145, tw_8_144, tw_1_13, ⟨by decide, by decide⟩, by decide +kernel, Or.inl ⟨ps_9_4, Or.inl tw_8_142⟩⟩
theorem lv_X11_142_X11_p : Cond.selects RX11 yX11_comes yX11_comes ∈ TW ∧ Cond.methodLink RX11 142 yX11_comes ∈ TW := ⟨ps_9_4, tw_8_142⟩
theorem lv_X11_146_X11 : LkV RX11 146 RX11 yX11_tenantHere 0 cX11_tenantHere 3 ((Option.some Jvm.ClassFile.FieldType.int)) := ⟨tw_8_151, tw_8_150, tw_1_13, ⟨by decide, by decide⟩, by decide +kernel, Or.inl ⟨ps_9_5, Or.inl tw_8_148⟩⟩
theorem lv_X11_146_X11_p : Cond.selects RX11 yX11_tenantHere yX11_tenantHere ∈ TW ∧ Cond.methodLink RX11 146 yX11_tenantHere ∈ TW := ⟨ps_9_5, tw_8_148⟩
theorem lv_X11_80_X11 : LkV RX11 80 RX11 yX11_isChild 1 cX11_isChild 2 ((Option.some Jvm.ClassFile.FieldType.boolean)) := ⟨tw_8_155, tw_8_154, tw_1_13, ⟨by decide, by decide⟩, by decide +kernel, Or.inl ⟨ps_9_6, Or.inl tw_8_152⟩⟩
theorem lv_X11_80_X11_p : Cond.selects RX11 yX11_isChild yX11_isChild ∈ TW ∧ Cond.methodLink RX11 80 yX11_isChild ∈ TW := ⟨ps_9_6, tw_8_152⟩
theorem lv_X11_76_X11 : LkV RX11 76 RX11 yX11_of 2 cX11_of 3 ((Option.some Jvm.ClassFile.FieldType.int)) := ⟨tw_8_159, tw_8_158, tw_1_13, ⟨by decide, by decide⟩, by decide +kernel, Or.inl ⟨ps_9_7, Or.inl tw_8_156⟩⟩
theorem lv_X11_76_X11_p : Cond.selects RX11 yX11_of yX11_of ∈ TW ∧ Cond.methodLink RX11 76 yX11_of ∈ TW := ⟨ps_9_7, tw_8_156⟩
theorem lv_X11_162_X11 : LkV RX11 162 RX11 yX11_letLine 0 cX11_letLine 7 ((Option.none : Option Jvm.ClassFile.FieldType)) := ⟨tw_8_164, tw_8_163, tw_1_13, ⟨by decide, by decide⟩, by decide +kernel, Or.inl ⟨ps_9_8, Or.inl tw_8_161⟩⟩
theorem lv_X11_162_X11_p : Cond.selects RX11 yX11_letLine yX11_letLine ∈ TW ∧ Cond.methodLink RX11 162 yX11_letLine ∈ TW := ⟨ps_9_8, tw_8_161⟩
theorem lv_X11_84_X11 : LkV RX11 84 RX11 yX11_ofRoom 2 cX11_ofRoom 3 ((Option.some Jvm.ClassFile.FieldType.int)) := ⟨tw_8_168, tw_8_167, tw_1_13, ⟨by decide, by decide⟩, by decide +kernel, Or.inl ⟨ps_9_9, Or.inl tw_8_165⟩⟩
theorem lv_X11_84_X11_p : Cond.selects RX11 yX11_ofRoom yX11_ofRoom ∈ TW ∧ Cond.methodLink RX11 84 yX11_ofRoom ∈ TW := ⟨ps_9_9, tw_8_165⟩
theorem lv_X11_149_X11 : LkV RX11 149 RX11 yX11_has 3 cX11_has 4 ((Option.none : Option Jvm.ClassFile.FieldType)) := ⟨tw_8_172, tw_8_171, tw_1_13, ⟨by decide, by decide⟩, by decide +kernel, Or.inl ⟨ps_9_10, Or.inl tw_8_169⟩⟩
theorem lv_X11_149_X11_p : Cond.selects RX11 yX11_has yX11_has ∈ TW ∧ Cond.methodLink RX11 149 yX11_has ∈ TW := ⟨ps_9_10, tw_8_169⟩
theorem lv_X11_169_X11 : LkV RX11 169 RX11 yX11_roomHere 1 cX11_roomHere 5 ((Option.some Jvm.ClassFile.FieldType.int)) := ⟨tw_8_177, tw_8_176, tw_1_13, ⟨by decide, by decide⟩, by decide +kernel, Or.inl ⟨ps_9_11, Or.inl tw_8_174⟩⟩
theorem lv_X11_169_X11_p : Cond.selects RX11 yX11_roomHere yX11_roomHere ∈ TW ∧ Cond.methodLink RX11 169 yX11_roomHere ∈ TW := ⟨ps_9_11, tw_8_174⟩
theorem lv_X11_177_X11 : LkV RX11 177 RX11 yX11_wantLine 0 cX11_wantLine 6 ((Option.none : Option Jvm.ClassFile.FieldType)) := ⟨tw_8_183, tw_8_182, tw_1_13, ⟨by decide, by decide⟩, by decide +kernel, Or.inl ⟨ps_9_12, Or.inl tw_8_180⟩⟩
theorem lv_X11_177_X11_p : Cond.selects RX11 yX11_wantLine yX11_wantLine ∈ TW ∧ Cond.methodLink RX11 177 yX11_wantLine ∈ TW := ⟨ps_9_12, tw_8_180⟩
theorem lv_L_144_X11 : LkV RL 144 RX11 yX11_law 0 cX11_law 3 ((Option.some Jvm.ClassFile.FieldType.int)) := ⟨tw_8_189, tw_8_187, tw_1_13, ⟨by decide, by decide⟩, by decide +kernel, Or.inl ⟨tw_8_188, Or.inl tw_8_186⟩⟩
theorem lv_L_144_X11_p : Cond.selects RX11 yX11_law yX11_law ∈ TW ∧ Cond.methodLink RL 144 yX11_law ∈ TW := ⟨tw_8_188, tw_8_186⟩
theorem lv_L_148_X11 : LkV RL 148 RX11 yX11_fault 0 cX11_fault 1 ((Option.some Jvm.ClassFile.FieldType.int)) := ⟨tw_8_193, tw_8_191, tw_1_13, ⟨by decide, by decide⟩, by decide +kernel, Or.inl ⟨tw_8_192, Or.inl tw_8_190⟩⟩
theorem lv_L_148_X11_p : Cond.selects RX11 yX11_fault yX11_fault ∈ TW ∧ Cond.methodLink RL 148 yX11_fault ∈ TW := ⟨tw_8_192, tw_8_190⟩
theorem lv_L_152_X11 : LkV RL 152 RX11 yX11_tenant 2 cX11_tenant 3 ((Option.some Jvm.ClassFile.FieldType.int)) := ⟨tw_8_197, tw_8_195, tw_1_13, ⟨by decide, by decide⟩, by decide +kernel, Or.inl ⟨tw_8_196, Or.inl tw_8_194⟩⟩
theorem lv_L_152_X11_p : Cond.selects RX11 yX11_tenant yX11_tenant ∈ TW ∧ Cond.methodLink RL 152 yX11_tenant ∈ TW := ⟨tw_8_196, tw_8_194⟩
theorem lv_X11_277_X11 : LkV RX11 277 RX11 yX11_isTenant 1 cX11_isTenant 2 ((Option.some Jvm.ClassFile.FieldType.boolean)) := ⟨tw_8_201, tw_8_200, tw_1_13, ⟨by decide, by decide⟩, by decide +kernel, Or.inl ⟨ps_9_13, Or.inl tw_8_198⟩⟩
theorem lv_X11_277_X11_p : Cond.selects RX11 yX11_isTenant yX11_isTenant ∈ TW ∧ Cond.methodLink RX11 277 yX11_isTenant ∈ TW := ⟨ps_9_13, tw_8_198⟩
theorem lv_X11_267_X11 : LkV RX11 267 RX11 yX11_ownsOf 1 cX11_ownsOf 4 ((Option.some Jvm.ClassFile.FieldType.int)) := ⟨tw_8_205, tw_8_204, tw_1_13, ⟨by decide, by decide⟩, by decide +kernel, Or.inl ⟨ps_9_14, Or.inl tw_8_202⟩⟩
theorem lv_X11_267_X11_p : Cond.selects RX11 yX11_ownsOf yX11_ownsOf ∈ TW ∧ Cond.methodLink RX11 267 yX11_ownsOf ∈ TW := ⟨ps_9_14, tw_8_202⟩
theorem lv_X11_280_X11 : LkV RX11 280 RX11 yX11_livesOf 1 cX11_livesOf 4 ((Option.some Jvm.ClassFile.FieldType.int)) := ⟨tw_8_209, tw_8_208, tw_1_13, ⟨by decide, by decide⟩, by decide +kernel, Or.inl ⟨ps_9_15, Or.inl tw_8_206⟩⟩
theorem lv_X11_280_X11_p : Cond.selects RX11 yX11_livesOf yX11_livesOf ∈ TW ∧ Cond.methodLink RX11 280 yX11_livesOf ∈ TW := ⟨ps_9_15, tw_8_206⟩
theorem lv_X11_87_X11 : LkV RX11 87 RX11 yX11_adult 1 cX11_adult 2 ((Option.some Jvm.ClassFile.FieldType.int)) := ⟨tw_8_213, tw_8_212, tw_1_13, ⟨by decide, by decide⟩, by decide +kernel, Or.inl ⟨ps_10_0, Or.inl tw_8_210⟩⟩
theorem lv_X11_87_X11_p : Cond.selects RX11 yX11_adult yX11_adult ∈ TW ∧ Cond.methodLink RX11 87 yX11_adult ∈ TW := ⟨ps_10_0, tw_8_210⟩
theorem lv_X11_283_X11 : LkV RX11 283 RX11 yX11_rentsOf 1 cX11_rentsOf 4 ((Option.some Jvm.ClassFile.FieldType.int)) := ⟨tw_8_217, tw_8_216, tw_1_13, ⟨by decide, by decide⟩, by decide +kernel, Or.inl ⟨ps_10_1, Or.inl tw_8_214⟩⟩
theorem lv_X11_283_X11_p : Cond.selects RX11 yX11_rentsOf yX11_rentsOf ∈ TW ∧ Cond.methodLink RX11 283 yX11_rentsOf ∈ TW := ⟨ps_10_1, tw_8_214⟩
theorem lv_X11_274_X11 : LkV RX11 274 RX11 yX11_rentOf 2 cX11_rentOf 3 ((Option.some Jvm.ClassFile.FieldType.int)) := ⟨tw_8_221, tw_8_220, tw_1_13, ⟨by decide, by decide⟩, by decide +kernel, Or.inl ⟨ps_10_2, Or.inl tw_8_218⟩⟩
theorem lv_X11_274_X11_p : Cond.selects RX11 yX11_rentOf yX11_rentOf ∈ TW ∧ Cond.methodLink RX11 274 yX11_rentOf ∈ TW := ⟨ps_10_2, tw_8_218⟩
theorem lv_X11_270_X11 : LkV RX11 270 RX11 yX11_asks 2 cX11_asks 5 ((Option.none : Option Jvm.ClassFile.FieldType)) := ⟨tw_8_225, tw_8_224, tw_1_13, ⟨by decide, by decide⟩, by decide +kernel, Or.inl ⟨ps_10_3, Or.inl tw_8_222⟩⟩
theorem lv_X11_270_X11_p : Cond.selects RX11 yX11_asks yX11_asks ∈ TW ∧ Cond.methodLink RX11 270 yX11_asks ∈ TW := ⟨ps_10_3, tw_8_222⟩
theorem lv_X11_264_X11 : LkV RX11 264 RX11 yX11_livesIn 1 cX11_livesIn 2 ((Option.some Jvm.ClassFile.FieldType.int)) := ⟨tw_8_229, tw_8_228, tw_1_13, ⟨by decide, by decide⟩, by decide +kernel, Or.inl ⟨ps_10_4, Or.inl tw_8_226⟩⟩
theorem lv_X11_264_X11_p : Cond.selects RX11 yX11_livesIn yX11_livesIn ∈ TW ∧ Cond.methodLink RX11 264 yX11_livesIn ∈ TW := ⟨ps_10_4, tw_8_226⟩
theorem lv_X11_286_X11 : LkV RX11 286 RX11 yX11_goodsOf 1 cX11_goodsOf 4 ((Option.some Jvm.ClassFile.FieldType.int)) := ⟨tw_8_233, tw_8_232, tw_1_13, ⟨by decide, by decide⟩, by decide +kernel, Or.inl ⟨ps_10_5, Or.inl tw_8_230⟩⟩
theorem lv_X11_286_X11_p : Cond.selects RX11 yX11_goodsOf yX11_goodsOf ∈ TW ∧ Cond.methodLink RX11 286 yX11_goodsOf ∈ TW := ⟨ps_10_5, tw_8_230⟩
theorem lv_L_155_X11 : LkV RL 155 RX11 yX11_room 2 cX11_room 3 ((Option.some Jvm.ClassFile.FieldType.int)) := ⟨tw_8_237, tw_8_235, tw_1_13, ⟨by decide, by decide⟩, by decide +kernel, Or.inl ⟨tw_8_236, Or.inl tw_8_234⟩⟩
theorem lv_L_155_X11_p : Cond.selects RX11 yX11_room yX11_room ∈ TW ∧ Cond.methodLink RL 155 yX11_room ∈ TW := ⟨tw_8_236, tw_8_234⟩
theorem ls_X11_289 : LkS RX11 289 yX11_isRoom 1 cX11_isRoom 1 ((Option.some Jvm.ClassFile.FieldType.boolean)) := ⟨tw_9_0, tw_8_239, tw_1_13, ⟨by decide, by decide⟩, by decide +kernel, Or.inl tw_8_238⟩
theorem ls_X11_289_p : Cond.methodLink RX11 289 yX11_isRoom ∈ TW := tw_8_238
theorem lv_L_159_X11 : LkV RL 159 RX11 yX11_rule 3 cX11_rule 4 ((Option.some Jvm.ClassFile.FieldType.int)) := ⟨tw_9_4, tw_9_2, tw_1_13, ⟨by decide, by decide⟩, by decide +kernel, Or.inl ⟨tw_9_3, Or.inl tw_9_1⟩⟩
theorem lv_L_159_X11_p : Cond.selects RX11 yX11_rule yX11_rule ∈ TW ∧ Cond.methodLink RL 159 yX11_rule ∈ TW := ⟨tw_9_3, tw_9_1⟩
theorem lv_L_163_X11 : LkV RL 163 RX11 yX11_roomOf 3 cX11_roomOf 6 ((Option.some Jvm.ClassFile.FieldType.int)) := ⟨tw_9_8, tw_9_6, tw_1_13, ⟨by decide, by decide⟩, by decide +kernel, Or.inl ⟨tw_9_7, Or.inl tw_9_5⟩⟩
theorem lv_L_163_X11_p : Cond.selects RX11 yX11_roomOf yX11_roomOf ∈ TW ∧ Cond.methodLink RL 163 yX11_roomOf ∈ TW := ⟨tw_9_7, tw_9_5⟩
theorem lv_L_166_X11 : LkV RL 166 RX11 yX11_take 2 cX11_take 3 ((Option.some Jvm.ClassFile.FieldType.int)) := ⟨tw_9_12, tw_9_10, tw_1_13, ⟨by decide, by decide⟩, by decide +kernel, Or.inl ⟨tw_9_11, Or.inl tw_9_9⟩⟩
theorem lv_L_166_X11_p : Cond.selects RX11 yX11_take yX11_take ∈ TW ∧ Cond.methodLink RL 166 yX11_take ∈ TW := ⟨tw_9_11, tw_9_9⟩
theorem lv_X11_301_X11 : LkV RX11 301 RX11 yX11_mayTake 2 cX11_mayTake 3 ((Option.some Jvm.ClassFile.FieldType.boolean)) := ⟨tw_9_16, tw_9_15, tw_1_13, ⟨by decide, by decide⟩, by decide +kernel, Or.inl ⟨ps_10_6, Or.inl tw_9_13⟩⟩
theorem lv_X11_301_X11_p : Cond.selects RX11 yX11_mayTake yX11_mayTake ∈ TW ∧ Cond.methodLink RX11 301 yX11_mayTake ∈ TW := ⟨ps_10_6, tw_9_13⟩
theorem lv_X11_305_X11 : LkV RX11 305 RX11 yX11_remembers 0 cX11_remembers 2 ((Option.none : Option Jvm.ClassFile.FieldType)) := ⟨tw_9_20, tw_9_19, tw_1_13, ⟨by decide, by decide⟩, by decide +kernel, Or.inl ⟨ps_10_7, Or.inl tw_9_17⟩⟩
theorem lv_X11_305_X11_p : Cond.selects RX11 yX11_remembers yX11_remembers ∈ TW ∧ Cond.methodLink RX11 305 yX11_remembers ∈ TW := ⟨ps_10_7, tw_9_17⟩
theorem lv_X11_308_X11 : LkV RX11 308 RX11 yX11_takes 3 cX11_takes 5 ((Option.some Jvm.ClassFile.FieldType.int)) := ⟨tw_9_24, tw_9_23, tw_1_13, ⟨by decide, by decide⟩, by decide +kernel, Or.inl ⟨ps_10_8, Or.inl tw_9_21⟩⟩
theorem lv_X11_308_X11_p : Cond.selects RX11 yX11_takes yX11_takes ∈ TW ∧ Cond.methodLink RX11 308 yX11_takes ∈ TW := ⟨ps_10_8, tw_9_21⟩
theorem lv_X11_295_X11 : LkV RX11 295 RX11 yX11_pays 2 cX11_pays 3 ((Option.none : Option Jvm.ClassFile.FieldType)) := ⟨tw_9_28, tw_9_27, tw_1_13, ⟨by decide, by decide⟩, by decide +kernel, Or.inl ⟨ps_10_9, Or.inl tw_9_25⟩⟩
theorem lv_X11_295_X11_p : Cond.selects RX11 yX11_pays yX11_pays ∈ TW ∧ Cond.methodLink RX11 295 yX11_pays ∈ TW := ⟨ps_10_9, tw_9_25⟩
theorem lv_X11_298_X11 : LkV RX11 298 RX11 yX11_writes 3 cX11_writes 5 ((Option.none : Option Jvm.ClassFile.FieldType)) := ⟨tw_9_32, tw_9_31, tw_1_13, ⟨by decide, by decide⟩, by decide +kernel, Or.inl ⟨ps_10_10, Or.inl tw_9_29⟩⟩
theorem lv_X11_298_X11_p : Cond.selects RX11 yX11_writes yX11_writes ∈ TW ∧ Cond.methodLink RX11 298 yX11_writes ∈ TW := ⟨ps_10_10, tw_9_29⟩
theorem ls_X11_292 : LkS RX11 292 yX11_lesser 2 cX11_lesser 2 ((Option.some Jvm.ClassFile.FieldType.int)) := ⟨tw_9_35, tw_9_34, tw_1_13, ⟨by decide, by decide⟩, by decide +kernel, Or.inl tw_9_33⟩
theorem ls_X11_292_p : Cond.methodLink RX11 292 yX11_lesser ∈ TW := tw_9_33
theorem lv_L_170_X11 : LkV RL 170 RX11 yX11_leave 1 cX11_leave 3 ((Option.some Jvm.ClassFile.FieldType.int)) := ⟨tw_9_39, tw_9_37, tw_1_13, ⟨by decide, by decide⟩, by decide +kernel, Or.inl ⟨tw_9_38, Or.inl tw_9_36⟩⟩
theorem lv_L_170_X11_p : Cond.selects RX11 yX11_leave yX11_leave ∈ TW ∧ Cond.methodLink RL 170 yX11_leave ∈ TW := ⟨tw_9_38, tw_9_36⟩
theorem lv_L_173_X11 : LkV RL 173 RX11 yX11_sublet 3 cX11_sublet 6 ((Option.some Jvm.ClassFile.FieldType.int)) := ⟨tw_9_43, tw_9_41, tw_1_13, ⟨by decide, by decide⟩, by decide +kernel, Or.inl ⟨tw_9_42, Or.inl tw_9_40⟩⟩
theorem lv_L_173_X11_p : Cond.selects RX11 yX11_sublet yX11_sublet ∈ TW ∧ Cond.methodLink RL 173 yX11_sublet ∈ TW := ⟨tw_9_42, tw_9_40⟩
theorem lv_X11_317_X11 : LkV RX11 317 RX11 yX11_maySublet 3 cX11_maySublet 5 ((Option.some Jvm.ClassFile.FieldType.boolean)) := ⟨tw_9_47, tw_9_46, tw_1_13, ⟨by decide, by decide⟩, by decide +kernel, Or.inl ⟨ps_10_11, Or.inl tw_9_44⟩⟩
theorem lv_X11_317_X11_p : Cond.selects RX11 yX11_maySublet yX11_maySublet ∈ TW ∧ Cond.methodLink RX11 317 yX11_maySublet ∈ TW := ⟨ps_10_11, tw_9_44⟩
theorem lv_X11_311_X11 : LkV RX11 311 RX11 yX11_isSublet 1 cX11_isSublet 2 ((Option.some Jvm.ClassFile.FieldType.boolean)) := ⟨tw_9_51, tw_9_50, tw_1_13, ⟨by decide, by decide⟩, by decide +kernel, Or.inl ⟨ps_10_12, Or.inl tw_9_48⟩⟩
theorem lv_X11_311_X11_p : Cond.selects RX11 yX11_isSublet yX11_isSublet ∈ TW ∧ Cond.methodLink RX11 311 yX11_isSublet ∈ TW := ⟨ps_10_12, tw_9_48⟩
theorem lv_X11_314_X11 : LkV RX11 314 RX11 yX11_isBarred 2 cX11_isBarred 3 ((Option.some Jvm.ClassFile.FieldType.boolean)) := ⟨tw_9_55, tw_9_54, tw_1_13, ⟨by decide, by decide⟩, by decide +kernel, Or.inl ⟨ps_10_13, Or.inl tw_9_52⟩⟩
theorem lv_X11_314_X11_p : Cond.selects RX11 yX11_isBarred yX11_isBarred ∈ TW ∧ Cond.methodLink RX11 314 yX11_isBarred ∈ TW := ⟨ps_10_13, tw_9_52⟩
theorem lv_L_176_X11 : LkV RL 176 RX11 yX11_ends 1 cX11_ends 3 ((Option.some Jvm.ClassFile.FieldType.int)) := ⟨tw_9_59, tw_9_57, tw_1_13, ⟨by decide, by decide⟩, by decide +kernel, Or.inl ⟨tw_9_58, Or.inl tw_9_56⟩⟩
theorem lv_L_176_X11_p : Cond.selects RX11 yX11_ends yX11_ends ∈ TW ∧ Cond.methodLink RL 176 yX11_ends ∈ TW := ⟨tw_9_58, tw_9_56⟩
theorem lv_L_179_X11 : LkV RL 179 RX11 yX11_evict 1 cX11_evict 4 ((Option.some Jvm.ClassFile.FieldType.int)) := ⟨tw_9_63, tw_9_61, tw_1_13, ⟨by decide, by decide⟩, by decide +kernel, Or.inl ⟨tw_9_62, Or.inl tw_9_60⟩⟩
theorem lv_L_179_X11_p : Cond.selects RX11 yX11_evict yX11_evict ∈ TW ∧ Cond.methodLink RL 179 yX11_evict ∈ TW := ⟨tw_9_62, tw_9_60⟩
theorem lv_L_183_X11 : LkV RL 183 RX11 yX11_carry 4 cX11_carry 6 ((Option.some Jvm.ClassFile.FieldType.int)) := ⟨tw_9_67, tw_9_65, tw_1_13, ⟨by decide, by decide⟩, by decide +kernel, Or.inl ⟨tw_9_66, Or.inl tw_9_64⟩⟩
theorem lv_L_183_X11_p : Cond.selects RX11 yX11_carry yX11_carry ∈ TW ∧ Cond.methodLink RL 183 yX11_carry ∈ TW := ⟨tw_9_66, tw_9_64⟩
theorem lv_L_186_X11 : LkV RL 186 RX11 yX11_swap 2 cX11_swap 5 ((Option.some Jvm.ClassFile.FieldType.int)) := ⟨tw_9_71, tw_9_69, tw_1_13, ⟨by decide, by decide⟩, by decide +kernel, Or.inl ⟨tw_9_70, Or.inl tw_9_68⟩⟩
theorem lv_L_186_X11_p : Cond.selects RX11 yX11_swap yX11_swap ∈ TW ∧ Cond.methodLink RL 186 yX11_swap ∈ TW := ⟨tw_9_70, tw_9_68⟩
theorem lv_X11_320_X11 : LkV RX11 320 RX11 yX11_maySwap 2 cX11_maySwap 5 ((Option.some Jvm.ClassFile.FieldType.boolean)) := ⟨tw_9_75, tw_9_74, tw_1_13, ⟨by decide, by decide⟩, by decide +kernel, Or.inl ⟨ps_10_14, Or.inl tw_9_72⟩⟩
theorem lv_X11_320_X11_p : Cond.selects RX11 yX11_maySwap yX11_maySwap ∈ TW ∧ Cond.methodLink RX11 320 yX11_maySwap ∈ TW := ⟨ps_10_14, tw_9_72⟩
theorem lv_L_189_X11 : LkV RL 189 RX11 yX11_ticks 1 cX11_ticks 4 ((Option.some Jvm.ClassFile.FieldType.int)) := ⟨tw_9_79, tw_9_77, tw_1_13, ⟨by decide, by decide⟩, by decide +kernel, Or.inl ⟨tw_9_78, Or.inl tw_9_76⟩⟩
theorem lv_L_189_X11_p : Cond.selects RX11 yX11_ticks yX11_ticks ∈ TW ∧ Cond.methodLink RL 189 yX11_ticks ∈ TW := ⟨tw_9_78, tw_9_76⟩
theorem lv_X11_330_X11 : LkV RX11 330 RX11 yX11_weekMore 0 cX11_weekMore 3 ((Option.none : Option Jvm.ClassFile.FieldType)) := ⟨tw_9_83, tw_9_82, tw_1_13, ⟨by decide, by decide⟩, by decide +kernel, Or.inl ⟨ps_10_15, Or.inl tw_9_80⟩⟩
theorem lv_X11_330_X11_p : Cond.selects RX11 yX11_weekMore yX11_weekMore ∈ TW ∧ Cond.methodLink RX11 330 yX11_weekMore ∈ TW := ⟨ps_10_15, tw_9_80⟩
theorem lv_X11_324_X11 : LkV RX11 324 RX11 yX11_rentsDue 0 cX11_rentsDue 4 ((Option.none : Option Jvm.ClassFile.FieldType)) := ⟨tw_9_87, tw_9_86, tw_1_13, ⟨by decide, by decide⟩, by decide +kernel, Or.inl ⟨ps_11_0, Or.inl tw_9_84⟩⟩
theorem lv_X11_324_X11_p : Cond.selects RX11 yX11_rentsDue yX11_rentsDue ∈ TW ∧ Cond.methodLink RX11 324 yX11_rentsDue ∈ TW := ⟨ps_11_0, tw_9_84⟩
theorem lv_X11_327_X11 : LkV RX11 327 RX11 yX11_draw 1 cX11_draw 2 ((Option.some Jvm.ClassFile.FieldType.int)) := ⟨tw_9_91, tw_9_90, tw_1_13, ⟨by decide, by decide⟩, by decide +kernel, Or.inl ⟨ps_11_1, Or.inl tw_9_88⟩⟩
theorem lv_X11_327_X11_p : Cond.selects RX11 yX11_draw yX11_draw ∈ TW ∧ Cond.methodLink RX11 327 yX11_draw ∈ TW := ⟨ps_11_1, tw_9_88⟩
theorem lv_L_192_X11 : LkV RL 192 RX11 yX11_neighbours 3 cX11_neighbours 6 ((Option.some Jvm.ClassFile.FieldType.int)) := ⟨tw_9_96, tw_9_94, tw_1_13, ⟨by decide, by decide⟩, by decide +kernel, Or.inl ⟨tw_9_95, Or.inl tw_9_93⟩⟩
theorem lv_L_192_X11_p : Cond.selects RX11 yX11_neighbours yX11_neighbours ∈ TW ∧ Cond.methodLink RL 192 yX11_neighbours ∈ TW := ⟨tw_9_95, tw_9_93⟩
theorem lv_X11_333_X11 : LkV RX11 333 RX11 yX11_areNeighbours 3 cX11_areNeighbours 4 ((Option.some Jvm.ClassFile.FieldType.boolean)) := ⟨tw_9_100, tw_9_99, tw_1_13, ⟨by decide, by decide⟩, by decide +kernel, Or.inl ⟨ps_11_2, Or.inl tw_9_97⟩⟩
theorem lv_X11_333_X11_p : Cond.selects RX11 yX11_areNeighbours yX11_areNeighbours ∈ TW ∧ Cond.methodLink RX11 333 yX11_areNeighbours ∈ TW := ⟨ps_11_2, tw_9_97⟩
theorem lv_L_196_X11 : LkV RL 196 RX11 yX11_run 2 cX11_run 3 ((Option.some Jvm.ClassFile.FieldType.int)) := ⟨tw_9_104, tw_9_102, tw_1_13, ⟨by decide, by decide⟩, by decide +kernel, Or.inl ⟨tw_9_103, Or.inl tw_9_101⟩⟩
theorem lv_L_196_X11_p : Cond.selects RX11 yX11_run yX11_run ∈ TW ∧ Cond.methodLink RL 196 yX11_run ∈ TW := ⟨tw_9_103, tw_9_101⟩
theorem lv_X11_336_X11 : LkV RX11 336 RX11 yX11_runs 3 cX11_runs 8 ((Option.some Jvm.ClassFile.FieldType.int)) := ⟨tw_9_108, tw_9_107, tw_1_13, ⟨by decide, by decide⟩, by decide +kernel, Or.inl ⟨ps_11_3, Or.inl tw_9_105⟩⟩
theorem lv_X11_336_X11_p : Cond.selects RX11 yX11_runs yX11_runs ∈ TW ∧ Cond.methodLink RX11 336 yX11_runs ∈ TW := ⟨ps_11_3, tw_9_105⟩
theorem lv_L_201_X11 : LkV RL 201 RX11 yX11_empty 1 cX11_empty 2 ((Option.some Jvm.ClassFile.FieldType.int)) := ⟨tw_9_112, tw_9_110, tw_1_13, ⟨by decide, by decide⟩, by decide +kernel, Or.inl ⟨tw_9_111, Or.inl tw_9_109⟩⟩
theorem lv_L_201_X11_p : Cond.selects RX11 yX11_empty yX11_empty ∈ TW ∧ Cond.methodLink RL 201 yX11_empty ∈ TW := ⟨tw_9_111, tw_9_109⟩
theorem lv_L_204_X11 : LkV RL 204 RX11 yX11_wedding 2 cX11_wedding 5 ((Option.some Jvm.ClassFile.FieldType.int)) := ⟨tw_9_116, tw_9_114, tw_1_13, ⟨by decide, by decide⟩, by decide +kernel, Or.inl ⟨tw_9_115, Or.inl tw_9_113⟩⟩
theorem lv_L_204_X11_p : Cond.selects RX11 yX11_wedding yX11_wedding ∈ TW ∧ Cond.methodLink RL 204 yX11_wedding ∈ TW := ⟨tw_9_115, tw_9_113⟩
theorem lv_L_208_X11 : LkV RL 208 RX11 yX11_court 2 cX11_court 9 ((Option.some Jvm.ClassFile.FieldType.int)) := ⟨tw_9_120, tw_9_118, tw_1_13, ⟨by decide, by decide⟩, by decide +kernel, Or.inl ⟨tw_9_119, Or.inl tw_9_117⟩⟩
theorem lv_L_208_X11_p : Cond.selects RX11 yX11_court yX11_court ∈ TW ∧ Cond.methodLink RL 208 yX11_court ∈ TW := ⟨tw_9_119, tw_9_117⟩
theorem ls_X11_340 : LkS RX11 340 yX11_isOf 2 cX11_isOf 2 ((Option.some Jvm.ClassFile.FieldType.boolean)) := ⟨tw_9_123, tw_9_122, tw_1_13, ⟨by decide, by decide⟩, by decide +kernel, Or.inl tw_9_121⟩
theorem ls_X11_340_p : Cond.methodLink RX11 340 yX11_isOf ∈ TW := tw_9_121
theorem lv_L_211_X11 : LkV RL 211 RX11 yX11_cheap 3 cX11_cheap 8 ((Option.some Jvm.ClassFile.FieldType.int)) := ⟨tw_9_127, tw_9_125, tw_1_13, ⟨by decide, by decide⟩, by decide +kernel, Or.inl ⟨tw_9_126, Or.inl tw_9_124⟩⟩
theorem lv_L_211_X11_p : Cond.selects RX11 yX11_cheap yX11_cheap ∈ TW ∧ Cond.methodLink RL 211 yX11_cheap ∈ TW := ⟨tw_9_126, tw_9_124⟩
theorem lv_L_215_X11 : LkV RL 215 RX11 yX11_fitted 1 cX11_fitted 4 ((Option.some Jvm.ClassFile.FieldType.int)) := ⟨tw_9_131, tw_9_129, tw_1_13, ⟨by decide, by decide⟩, by decide +kernel, Or.inl ⟨tw_9_130, Or.inl tw_9_128⟩⟩
theorem lv_L_215_X11_p : Cond.selects RX11 yX11_fitted yX11_fitted ∈ TW ∧ Cond.methodLink RL 215 yX11_fitted ∈ TW := ⟨tw_9_130, tw_9_128⟩
theorem lv_X11_355_X11 : LkV RX11 355 RX11 yX11_fits 0 cX11_fits 4 ((Option.none : Option Jvm.ClassFile.FieldType)) := ⟨tw_9_135, tw_9_134, tw_1_13, ⟨by decide, by decide⟩, by decide +kernel, Or.inl ⟨ps_11_4, Or.inl tw_9_132⟩⟩
theorem lv_X11_355_X11_p : Cond.selects RX11 yX11_fits yX11_fits ∈ TW ∧ Cond.methodLink RX11 355 yX11_fits ∈ TW := ⟨ps_11_4, tw_9_132⟩
theorem lv_X11_343_X11 : LkV RX11 343 RX11 yX11_isFor 2 cX11_isFor 4 ((Option.some Jvm.ClassFile.FieldType.boolean)) := ⟨tw_9_139, tw_9_138, tw_1_13, ⟨by decide, by decide⟩, by decide +kernel, Or.inl ⟨ps_11_5, Or.inl tw_9_136⟩⟩
theorem lv_X11_343_X11_p : Cond.selects RX11 yX11_isFor yX11_isFor ∈ TW ∧ Cond.methodLink RX11 343 yX11_isFor ∈ TW := ⟨ps_11_5, tw_9_136⟩
theorem lv_X11_346_X11 : LkV RX11 346 RX11 yX11_counts 2 cX11_counts 4 ((Option.none : Option Jvm.ClassFile.FieldType)) := ⟨tw_9_143, tw_9_142, tw_1_13, ⟨by decide, by decide⟩, by decide +kernel, Or.inl ⟨ps_11_6, Or.inl tw_9_140⟩⟩
theorem lv_X11_346_X11_p : Cond.selects RX11 yX11_counts yX11_counts ∈ TW ∧ Cond.methodLink RX11 346 yX11_counts ∈ TW := ⟨ps_11_6, tw_9_140⟩
theorem lv_X11_349_X11 : LkV RX11 349 RX11 yX11_mostGiven 0 cX11_mostGiven 5 ((Option.some Jvm.ClassFile.FieldType.int)) := ⟨tw_9_147, tw_9_146, tw_1_13, ⟨by decide, by decide⟩, by decide +kernel, Or.inl ⟨ps_11_7, Or.inl tw_9_144⟩⟩
theorem lv_X11_349_X11_p : Cond.selects RX11 yX11_mostGiven yX11_mostGiven ∈ TW ∧ Cond.methodLink RX11 349 yX11_mostGiven ∈ TW := ⟨ps_11_7, tw_9_144⟩
theorem lv_L_218_X11 : LkV RL 218 RX11 yX11_given 1 cX11_given 2 ((Option.some Jvm.ClassFile.FieldType.int)) := ⟨tw_9_151, tw_9_149, tw_1_13, ⟨by decide, by decide⟩, by decide +kernel, Or.inl ⟨tw_9_150, Or.inl tw_9_148⟩⟩
theorem lv_L_218_X11_p : Cond.selects RX11 yX11_given yX11_given ∈ TW ∧ Cond.methodLink RL 218 yX11_given ∈ TW := ⟨tw_9_150, tw_9_148⟩
theorem lv_L_221_X11 : LkV RL 221 RX11 yX11_envies 1 cX11_envies 5 ((Option.some Jvm.ClassFile.FieldType.int)) := ⟨tw_9_155, tw_9_153, tw_1_13, ⟨by decide, by decide⟩, by decide +kernel, Or.inl ⟨tw_9_154, Or.inl tw_9_152⟩⟩
theorem lv_L_221_X11_p : Cond.selects RX11 yX11_envies yX11_envies ∈ TW ∧ Cond.methodLink RL 221 yX11_envies ∈ TW := ⟨tw_9_154, tw_9_152⟩
theorem lv_X11_361_X11 : LkV RX11 361 RX11 yX11_valuesOf 2 cX11_valuesOf 5 ((Option.some Jvm.ClassFile.FieldType.int)) := ⟨tw_9_159, tw_9_158, tw_1_13, ⟨by decide, by decide⟩, by decide +kernel, Or.inl ⟨ps_11_8, Or.inl tw_9_156⟩⟩
theorem lv_X11_361_X11_p : Cond.selects RX11 yX11_valuesOf yX11_valuesOf ∈ TW ∧ Cond.methodLink RX11 361 yX11_valuesOf ∈ TW := ⟨ps_11_8, tw_9_156⟩
theorem lv_X11_358_X11 : LkV RX11 358 RX11 yX11_valueOf 2 cX11_valueOf 3 ((Option.some Jvm.ClassFile.FieldType.int)) := ⟨tw_9_163, tw_9_162, tw_1_13, ⟨by decide, by decide⟩, by decide +kernel, Or.inl ⟨ps_11_9, Or.inl tw_9_160⟩⟩
theorem lv_X11_358_X11_p : Cond.selects RX11 yX11_valueOf yX11_valueOf ∈ TW ∧ Cond.methodLink RX11 358 yX11_valueOf ∈ TW := ⟨ps_11_9, tw_9_160⟩
theorem lv_L_224_X11 : LkV RL 224 RX11 yX11_fair 3 cX11_fair 10 ((Option.some Jvm.ClassFile.FieldType.int)) := ⟨tw_9_167, tw_9_165, tw_1_13, ⟨by decide, by decide⟩, by decide +kernel, Or.inl ⟨tw_9_166, Or.inl tw_9_164⟩⟩
theorem lv_L_224_X11_p : Cond.selects RX11 yX11_fair yX11_fair ∈ TW ∧ Cond.methodLink RL 224 yX11_fair ∈ TW := ⟨tw_9_166, tw_9_164⟩
theorem lv_X11_364_X11 : LkV RX11 364 RX11 yX11_isFair 1 cX11_isFair 6 ((Option.some Jvm.ClassFile.FieldType.boolean)) := ⟨tw_9_171, tw_9_170, tw_1_13, ⟨by decide, by decide⟩, by decide +kernel, Or.inl ⟨ps_11_10, Or.inl tw_9_168⟩⟩
theorem lv_X11_364_X11_p : Cond.selects RX11 yX11_isFair yX11_isFair ∈ TW ∧ Cond.methodLink RX11 364 yX11_isFair ∈ TW := ⟨ps_11_10, tw_9_168⟩
theorem lv_L_227_X11 : LkV RL 227 RX11 yX11_ring 2 cX11_ring 4 ((Option.some Jvm.ClassFile.FieldType.int)) := ⟨tw_9_175, tw_9_173, tw_1_13, ⟨by decide, by decide⟩, by decide +kernel, Or.inl ⟨tw_9_174, Or.inl tw_9_172⟩⟩
theorem lv_L_227_X11_p : Cond.selects RX11 yX11_ring yX11_ring ∈ TW ∧ Cond.methodLink RL 227 yX11_ring ∈ TW := ⟨tw_9_174, tw_9_172⟩
theorem lv_X11_370_X11 : LkV RX11 370 RX11 yX11_rings 1 cX11_rings 5 ((Option.some Jvm.ClassFile.FieldType.int)) := ⟨tw_9_179, tw_9_178, tw_1_13, ⟨by decide, by decide⟩, by decide +kernel, Or.inl ⟨ps_11_11, Or.inl tw_9_176⟩⟩
theorem lv_X11_370_X11_p : Cond.selects RX11 yX11_rings yX11_rings ∈ TW ∧ Cond.methodLink RX11 370 yX11_rings ∈ TW := ⟨ps_11_11, tw_9_176⟩
theorem lv_X11_367_X11 : LkV RX11 367 RX11 yX11_pointsTo 1 cX11_pointsTo 6 ((Option.some Jvm.ClassFile.FieldType.int)) := ⟨tw_9_183, tw_9_182, tw_1_13, ⟨by decide, by decide⟩, by decide +kernel, Or.inl ⟨ps_11_12, Or.inl tw_9_180⟩⟩
theorem lv_X11_367_X11_p : Cond.selects RX11 yX11_pointsTo yX11_pointsTo ∈ TW ∧ Cond.methodLink RX11 367 yX11_pointsTo ∈ TW := ⟨ps_11_12, tw_9_180⟩
theorem lv_L_230_X11 : LkV RL 230 RX11 yX11_turn 1 cX11_turn 4 ((Option.some Jvm.ClassFile.FieldType.int)) := ⟨tw_9_187, tw_9_185, tw_1_13, ⟨by decide, by decide⟩, by decide +kernel, Or.inl ⟨tw_9_186, Or.inl tw_9_184⟩⟩
theorem lv_L_230_X11_p : Cond.selects RX11 yX11_turn yX11_turn ∈ TW ∧ Cond.methodLink RL 230 yX11_turn ∈ TW := ⟨tw_9_186, tw_9_184⟩
theorem lv_L_233_X11 : LkV RL 233 RX11 yX11_soonest 2 cX11_soonest 5 ((Option.some Jvm.ClassFile.FieldType.int)) := ⟨tw_9_191, tw_9_189, tw_1_13, ⟨by decide, by decide⟩, by decide +kernel, Or.inl ⟨tw_9_190, Or.inl tw_9_188⟩⟩
theorem lv_L_233_X11_p : Cond.selects RX11 yX11_soonest yX11_soonest ∈ TW ∧ Cond.methodLink RL 233 yX11_soonest ∈ TW := ⟨tw_9_190, tw_9_188⟩
theorem lv_X11_373_X11 : LkV RX11 373 RX11 yX11_family 1 cX11_family 4 ((Option.some Jvm.ClassFile.FieldType.int)) := ⟨tw_9_195, tw_9_194, tw_1_13, ⟨by decide, by decide⟩, by decide +kernel, Or.inl ⟨ps_11_13, Or.inl tw_9_192⟩⟩
theorem lv_X11_373_X11_p : Cond.selects RX11 yX11_family yX11_family ∈ TW ∧ Cond.methodLink RX11 373 yX11_family ∈ TW := ⟨ps_11_13, tw_9_192⟩
theorem lv_X11_376_X11 : LkV RX11 376 RX11 yX11_tells 2 cX11_tells 6 ((Option.some Jvm.ClassFile.FieldType.int)) := ⟨tw_9_199, tw_9_198, tw_1_13, ⟨by decide, by decide⟩, by decide +kernel, Or.inl ⟨ps_11_14, Or.inl tw_9_196⟩⟩
theorem lv_X11_376_X11_p : Cond.selects RX11 yX11_tells yX11_tells ∈ TW ∧ Cond.methodLink RX11 376 yX11_tells ∈ TW := ⟨ps_11_14, tw_9_196⟩
theorem lv_L_236_X11 : LkV RL 236 RX11 yX11_heard 2 cX11_heard 5 ((Option.some Jvm.ClassFile.FieldType.int)) := ⟨tw_9_203, tw_9_201, tw_1_13, ⟨by decide, by decide⟩, by decide +kernel, Or.inl ⟨tw_9_202, Or.inl tw_9_200⟩⟩
theorem lv_L_236_X11_p : Cond.selects RX11 yX11_heard yX11_heard ∈ TW ∧ Cond.methodLink RL 236 yX11_heard ∈ TW := ⟨tw_9_202, tw_9_200⟩
theorem lv_L_239_X11 : LkV RL 239 RX11 yX11_roomsFor 3 cX11_roomsFor 10 ((Option.some Jvm.ClassFile.FieldType.int)) := ⟨tw_9_207, tw_9_205, tw_1_13, ⟨by decide, by decide⟩, by decide +kernel, Or.inl ⟨tw_9_206, Or.inl tw_9_204⟩⟩
theorem lv_L_239_X11_p : Cond.selects RX11 yX11_roomsFor yX11_roomsFor ∈ TW ∧ Cond.methodLink RL 239 yX11_roomsFor ∈ TW := ⟨tw_9_206, tw_9_204⟩
theorem lv_L_242_X11 : LkV RL 242 RX11 yX11_thieves 0 cX11_thieves 7 ((Option.some Jvm.ClassFile.FieldType.int)) := ⟨tw_9_211, tw_9_209, tw_1_13, ⟨by decide, by decide⟩, by decide +kernel, Or.inl ⟨tw_9_210, Or.inl tw_9_208⟩⟩
theorem lv_L_242_X11_p : Cond.selects RX11 yX11_thieves yX11_thieves ∈ TW ∧ Cond.methodLink RL 242 yX11_thieves ∈ TW := ⟨tw_9_210, tw_9_208⟩
theorem lv_L_245_X11 : LkV RL 245 RX11 yX11_seen 0 cX11_seen 4 ((Option.some Jvm.ClassFile.FieldType.int)) := ⟨tw_9_215, tw_9_213, tw_1_13, ⟨by decide, by decide⟩, by decide +kernel, Or.inl ⟨tw_9_214, Or.inl tw_9_212⟩⟩
theorem lv_L_245_X11_p : Cond.selects RX11 yX11_seen yX11_seen ∈ TW ∧ Cond.methodLink RL 245 yX11_seen ∈ TW := ⟨tw_9_214, tw_9_212⟩
theorem lv_L_248_X11 : LkV RL 248 RX11 yX11_changed 3 cX11_changed 7 ((Option.some Jvm.ClassFile.FieldType.int)) := ⟨tw_9_219, tw_9_217, tw_1_13, ⟨by decide, by decide⟩, by decide +kernel, Or.inl ⟨tw_9_218, Or.inl tw_9_216⟩⟩
theorem lv_L_248_X11_p : Cond.selects RX11 yX11_changed yX11_changed ∈ TW ∧ Cond.methodLink RL 248 yX11_changed ∈ TW := ⟨tw_9_218, tw_9_216⟩
theorem lv_X11_379_X11 : LkV RX11 379 RX11 yX11_livesAmong 3 cX11_livesAmong 6 ((Option.some Jvm.ClassFile.FieldType.int)) := ⟨tw_9_223, tw_9_222, tw_1_13, ⟨by decide, by decide⟩, by decide +kernel, Or.inl ⟨ps_11_15, Or.inl tw_9_220⟩⟩
theorem lv_X11_379_X11_p : Cond.selects RX11 yX11_livesAmong yX11_livesAmong ∈ TW ∧ Cond.methodLink RX11 379 yX11_livesAmong ∈ TW := ⟨ps_11_15, tw_9_220⟩
theorem lv_L_251_X11 : LkV RL 251 RX11 yX11_log 2 cX11_log 3 ((Option.some Jvm.ClassFile.FieldType.int)) := ⟨tw_9_227, tw_9_225, tw_1_13, ⟨by decide, by decide⟩, by decide +kernel, Or.inl ⟨tw_9_226, Or.inl tw_9_224⟩⟩
theorem lv_L_251_X11_p : Cond.selects RX11 yX11_log yX11_log ∈ TW ∧ Cond.methodLink RL 251 yX11_log ∈ TW := ⟨tw_9_226, tw_9_224⟩
theorem lv_L_254_X11 : LkV RL 254 RX11 yX11_led 2 cX11_led 5 ((Option.some Jvm.ClassFile.FieldType.int)) := ⟨tw_9_231, tw_9_229, tw_1_13, ⟨by decide, by decide⟩, by decide +kernel, Or.inl ⟨tw_9_230, Or.inl tw_9_228⟩⟩
theorem lv_L_254_X11_p : Cond.selects RX11 yX11_led yX11_led ∈ TW ∧ Cond.methodLink RL 254 yX11_led ∈ TW := ⟨tw_9_230, tw_9_228⟩
theorem lv_L_258_X11 : LkV RL 258 RX11 yX11_seed 1 cX11_seed 3 ((Option.some Jvm.ClassFile.FieldType.int)) := ⟨tw_9_235, tw_9_233, tw_1_13, ⟨by decide, by decide⟩, by decide +kernel, Or.inl ⟨tw_9_234, Or.inl tw_9_232⟩⟩
theorem lv_L_258_X11_p : Cond.selects RX11 yX11_seed yX11_seed ∈ TW ∧ Cond.methodLink RL 258 yX11_seed ∈ TW := ⟨tw_9_234, tw_9_232⟩
theorem lv_L_263_X11 : LkV RL 263 RX11 yX11_undo 0 cX11_undo 2 ((Option.some Jvm.ClassFile.FieldType.boolean)) := ⟨tw_9_239, tw_9_237, tw_1_13, ⟨by decide, by decide⟩, by decide +kernel, Or.inl ⟨tw_9_238, Or.inl tw_9_236⟩⟩
theorem lv_L_263_X11_p : Cond.selects RX11 yX11_undo yX11_undo ∈ TW ∧ Cond.methodLink RL 263 yX11_undo ∈ TW := ⟨tw_9_238, tw_9_236⟩
theorem lv_L_267_X11 : LkV RL 267 RX11 yX11_image 0 cX11_image 2 ((Option.none : Option Jvm.ClassFile.FieldType)) := ⟨tw_10_3, tw_10_1, tw_1_13, ⟨by decide, by decide⟩, by decide +kernel, Or.inl ⟨tw_10_2, Or.inl tw_10_0⟩⟩
theorem lv_L_267_X11_p : Cond.selects RX11 yX11_image yX11_image ∈ TW ∧ Cond.methodLink RL 267 yX11_image ∈ TW := ⟨tw_10_2, tw_10_0⟩
theorem lv_L_271_X11 : LkV RL 271 RX11 yX11_back 0 cX11_back 2 ((Option.some Jvm.ClassFile.FieldType.boolean)) := ⟨tw_10_7, tw_10_5, tw_1_13, ⟨by decide, by decide⟩, by decide +kernel, Or.inl ⟨tw_10_6, Or.inl tw_10_4⟩⟩
theorem lv_L_271_X11_p : Cond.selects RX11 yX11_back yX11_back ∈ TW ∧ Cond.methodLink RL 271 yX11_back ∈ TW := ⟨tw_10_6, tw_10_4⟩
theorem lv_L_275_X11 : LkV RL 275 RX11 yX11_count 1 cX11_count 2 ((Option.some Jvm.ClassFile.FieldType.int)) := ⟨tw_10_11, tw_10_9, tw_1_13, ⟨by decide, by decide⟩, by decide +kernel, Or.inl ⟨tw_10_10, Or.inl tw_10_8⟩⟩
theorem lv_L_275_X11_p : Cond.selects RX11 yX11_count yX11_count ∈ TW ∧ Cond.methodLink RL 275 yX11_count ∈ TW := ⟨tw_10_10, tw_10_8⟩
theorem lv_X11_385_X11 : LkV RX11 385 RX11 yX11_roomsNow 1 cX11_roomsNow 4 ((Option.some Jvm.ClassFile.FieldType.int)) := ⟨tw_10_15, tw_10_14, tw_1_13, ⟨by decide, by decide⟩, by decide +kernel, Or.inl ⟨ps_12_0, Or.inl tw_10_12⟩⟩
theorem lv_X11_385_X11_p : Cond.selects RX11 yX11_roomsNow yX11_roomsNow ∈ TW ∧ Cond.methodLink RX11 385 yX11_roomsNow ∈ TW := ⟨ps_12_0, tw_10_12⟩
theorem lv_X11_388_X11 : LkV RX11 388 RX11 yX11_coinsNow 0 cX11_coinsNow 3 ((Option.some Jvm.ClassFile.FieldType.int)) := ⟨tw_10_19, tw_10_18, tw_1_13, ⟨by decide, by decide⟩, by decide +kernel, Or.inl ⟨ps_12_1, Or.inl tw_10_16⟩⟩
theorem lv_X11_388_X11_p : Cond.selects RX11 yX11_coinsNow yX11_coinsNow ∈ TW ∧ Cond.methodLink RX11 388 yX11_coinsNow ∈ TW := ⟨ps_12_1, tw_10_16⟩
