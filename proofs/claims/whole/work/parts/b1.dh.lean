-- after: b0.ca
theorem dL_town_0 : decode cL_town 0 = .ok (.aload_n 1, 1) := by decide +kernel
theorem dL_town_1 : decode cL_town 1 = .ok (.iconst 0, 1) := by decide +kernel
theorem dL_town_2 : decode cL_town 2 = .ok (.aload_n 0, 1) := by decide +kernel
theorem dL_town_3 : decode cL_town 3 = .ok (.invokevirtual 7, 3) := by decide +kernel
theorem dL_town_6 : decode cL_town 6 = .ok (.i2l, 1) := by decide +kernel
theorem dL_town_7 : decode cL_town 7 = .ok (.lastore, 1) := by decide +kernel
theorem dL_town_8 : decode cL_town 8 = .ok (.goto 9, 3) := by decide +kernel
theorem dL_town_11 : decode cL_town 11 = .ok (.astore_n 2, 1) := by decide +kernel
theorem dL_town_12 : decode cL_town 12 = .ok (.iconst 1, 1) := by decide +kernel
theorem dL_town_13 : decode cL_town 13 = .ok (.ireturn, 1) := by decide +kernel
theorem dL_town_14 : decode cL_town 14 = .ok (.astore_n 2, 1) := by decide +kernel
theorem dL_town_15 : decode cL_town 15 = .ok (.iconst 2, 1) := by decide +kernel
theorem dL_town_16 : decode cL_town 16 = .ok (.ireturn, 1) := by decide +kernel
theorem dL_town_17 : decode cL_town 17 = .ok (.iconst 0, 1) := by decide +kernel
theorem dL_town_18 : decode cL_town 18 = .ok (.ireturn, 1) := by decide +kernel
theorem dL_law_0 : decode cL_law 0 = .ok (.aload_n 1, 1) := by decide +kernel
theorem dL_law_1 : decode cL_law 1 = .ok (.iconst 0, 1) := by decide +kernel
theorem dL_law_2 : decode cL_law 2 = .ok (.aload_n 0, 1) := by decide +kernel
theorem dL_law_3 : decode cL_law 3 = .ok (.invokevirtual 17, 3) := by decide +kernel
theorem dL_law_6 : decode cL_law 6 = .ok (.i2l, 1) := by decide +kernel
theorem dL_law_7 : decode cL_law 7 = .ok (.lastore, 1) := by decide +kernel
theorem dL_law_8 : decode cL_law 8 = .ok (.goto 6, 3) := by decide +kernel
theorem dL_law_11 : decode cL_law 11 = .ok (.astore_n 2, 1) := by decide +kernel
theorem dL_law_12 : decode cL_law 12 = .ok (.iconst 1, 1) := by decide +kernel
theorem dL_law_13 : decode cL_law 13 = .ok (.ireturn, 1) := by decide +kernel
theorem dL_law_14 : decode cL_law 14 = .ok (.iconst 0, 1) := by decide +kernel
theorem dL_law_15 : decode cL_law 15 = .ok (.ireturn, 1) := by decide +kernel
theorem dL_tenant_0 : decode cL_tenant 0 = .ok (.aload_n 3, 1) := by decide +kernel
theorem dL_tenant_1 : decode cL_tenant 1 = .ok (.iconst 0, 1) := by decide +kernel
theorem dL_tenant_2 : decode cL_tenant 2 = .ok (.aload_n 0, 1) := by decide +kernel
theorem dL_tenant_3 : decode cL_tenant 3 = .ok (.iload_n 1, 1) := by decide +kernel
theorem dL_tenant_4 : decode cL_tenant 4 = .ok (.iload_n 2, 1) := by decide +kernel
theorem dL_tenant_5 : decode cL_tenant 5 = .ok (.invokevirtual 20, 3) := by decide +kernel
theorem dL_tenant_8 : decode cL_tenant 8 = .ok (.i2l, 1) := by decide +kernel
theorem dL_tenant_9 : decode cL_tenant 9 = .ok (.lastore, 1) := by decide +kernel
theorem dL_tenant_10 : decode cL_tenant 10 = .ok (.goto 11, 3) := by decide +kernel
theorem dL_tenant_13 : decode cL_tenant 13 = .ok (.astore 4, 2) := by decide +kernel
theorem dL_tenant_15 : decode cL_tenant 15 = .ok (.iconst 1, 1) := by decide +kernel
theorem dL_tenant_16 : decode cL_tenant 16 = .ok (.ireturn, 1) := by decide +kernel
theorem dL_tenant_17 : decode cL_tenant 17 = .ok (.astore 4, 2) := by decide +kernel
theorem dL_tenant_19 : decode cL_tenant 19 = .ok (.iconst 2, 1) := by decide +kernel
theorem dL_tenant_20 : decode cL_tenant 20 = .ok (.ireturn, 1) := by decide +kernel
theorem dL_tenant_21 : decode cL_tenant 21 = .ok (.iconst 0, 1) := by decide +kernel
theorem dL_tenant_22 : decode cL_tenant 22 = .ok (.ireturn, 1) := by decide +kernel
theorem dL_room_0 : decode cL_room 0 = .ok (.aload_n 3, 1) := by decide +kernel
theorem dL_room_1 : decode cL_room 1 = .ok (.iconst 0, 1) := by decide +kernel
theorem dL_room_2 : decode cL_room 2 = .ok (.aload_n 0, 1) := by decide +kernel
theorem dL_room_3 : decode cL_room 3 = .ok (.iload_n 1, 1) := by decide +kernel
theorem dL_room_4 : decode cL_room 4 = .ok (.iload_n 2, 1) := by decide +kernel
theorem dL_room_5 : decode cL_room 5 = .ok (.invokevirtual 28, 3) := by decide +kernel
theorem dL_room_8 : decode cL_room 8 = .ok (.i2l, 1) := by decide +kernel
theorem dL_room_9 : decode cL_room 9 = .ok (.lastore, 1) := by decide +kernel
theorem dL_room_10 : decode cL_room 10 = .ok (.goto 11, 3) := by decide +kernel
theorem dL_room_13 : decode cL_room 13 = .ok (.astore 4, 2) := by decide +kernel
theorem dL_room_15 : decode cL_room 15 = .ok (.iconst 1, 1) := by decide +kernel
theorem dL_room_16 : decode cL_room 16 = .ok (.ireturn, 1) := by decide +kernel
theorem dL_room_17 : decode cL_room 17 = .ok (.astore 4, 2) := by decide +kernel
theorem dL_room_19 : decode cL_room 19 = .ok (.iconst 2, 1) := by decide +kernel
theorem dL_room_20 : decode cL_room 20 = .ok (.ireturn, 1) := by decide +kernel
theorem dL_room_21 : decode cL_room 21 = .ok (.iconst 0, 1) := by decide +kernel
theorem dL_room_22 : decode cL_room 22 = .ok (.ireturn, 1) := by decide +kernel
theorem dL_rule_0 : decode cL_rule 0 = .ok (.aload 4, 2) := by decide +kernel
theorem dL_rule_2 : decode cL_rule 2 = .ok (.iconst 0, 1) := by decide +kernel
theorem dL_rule_3 : decode cL_rule 3 = .ok (.aload_n 0, 1) := by decide +kernel
theorem dL_rule_4 : decode cL_rule 4 = .ok (.iload_n 1, 1) := by decide +kernel
theorem dL_rule_5 : decode cL_rule 5 = .ok (.iload_n 2, 1) := by decide +kernel
theorem dL_rule_6 : decode cL_rule 6 = .ok (.iload_n 3, 1) := by decide +kernel
theorem dL_rule_7 : decode cL_rule 7 = .ok (.invokevirtual 31, 3) := by decide +kernel
theorem dL_rule_10 : decode cL_rule 10 = .ok (.i2l, 1) := by decide +kernel
theorem dL_rule_11 : decode cL_rule 11 = .ok (.lastore, 1) := by decide +kernel
theorem dL_rule_12 : decode cL_rule 12 = .ok (.goto 11, 3) := by decide +kernel
theorem dL_rule_15 : decode cL_rule 15 = .ok (.astore 5, 2) := by decide +kernel
theorem dL_rule_17 : decode cL_rule 17 = .ok (.iconst 1, 1) := by decide +kernel
theorem dL_rule_18 : decode cL_rule 18 = .ok (.ireturn, 1) := by decide +kernel
theorem dL_rule_19 : decode cL_rule 19 = .ok (.astore 5, 2) := by decide +kernel
theorem dL_rule_21 : decode cL_rule 21 = .ok (.iconst 2, 1) := by decide +kernel
theorem dL_rule_22 : decode cL_rule 22 = .ok (.ireturn, 1) := by decide +kernel
theorem dL_rule_23 : decode cL_rule 23 = .ok (.iconst 0, 1) := by decide +kernel
theorem dL_rule_24 : decode cL_rule 24 = .ok (.ireturn, 1) := by decide +kernel
theorem dL_roomOf_0 : decode cL_roomOf 0 = .ok (.aload 4, 2) := by decide +kernel
theorem dL_roomOf_2 : decode cL_roomOf 2 = .ok (.iconst 0, 1) := by decide +kernel
theorem dL_roomOf_3 : decode cL_roomOf 3 = .ok (.aload_n 0, 1) := by decide +kernel
theorem dL_roomOf_4 : decode cL_roomOf 4 = .ok (.iload_n 1, 1) := by decide +kernel
theorem dL_roomOf_5 : decode cL_roomOf 5 = .ok (.iload_n 2, 1) := by decide +kernel
theorem dL_roomOf_6 : decode cL_roomOf 6 = .ok (.iload_n 3, 1) := by decide +kernel
theorem dL_roomOf_7 : decode cL_roomOf 7 = .ok (.invokevirtual 35, 3) := by decide +kernel
theorem dL_roomOf_10 : decode cL_roomOf 10 = .ok (.i2l, 1) := by decide +kernel
theorem dL_roomOf_11 : decode cL_roomOf 11 = .ok (.lastore, 1) := by decide +kernel
theorem dL_roomOf_12 : decode cL_roomOf 12 = .ok (.goto 7, 3) := by decide +kernel
theorem dL_roomOf_15 : decode cL_roomOf 15 = .ok (.astore 5, 2) := by decide +kernel
theorem dL_roomOf_17 : decode cL_roomOf 17 = .ok (.iconst 1, 1) := by decide +kernel
theorem dL_roomOf_18 : decode cL_roomOf 18 = .ok (.ireturn, 1) := by decide +kernel
theorem dL_roomOf_19 : decode cL_roomOf 19 = .ok (.iconst 0, 1) := by decide +kernel
theorem dL_roomOf_20 : decode cL_roomOf 20 = .ok (.ireturn, 1) := by decide +kernel
theorem dL_take_0 : decode cL_take 0 = .ok (.aload_n 3, 1) := by decide +kernel
theorem dL_take_1 : decode cL_take 1 = .ok (.iconst 0, 1) := by decide +kernel
theorem dL_take_2 : decode cL_take 2 = .ok (.aload_n 0, 1) := by decide +kernel
theorem dL_take_3 : decode cL_take 3 = .ok (.iload_n 1, 1) := by decide +kernel
theorem dL_take_4 : decode cL_take 4 = .ok (.iload_n 2, 1) := by decide +kernel
theorem dL_take_5 : decode cL_take 5 = .ok (.invokevirtual 39, 3) := by decide +kernel
theorem dL_take_8 : decode cL_take 8 = .ok (.i2l, 1) := by decide +kernel
theorem dL_take_9 : decode cL_take 9 = .ok (.lastore, 1) := by decide +kernel
theorem dL_take_10 : decode cL_take 10 = .ok (.goto 11, 3) := by decide +kernel
theorem dL_take_13 : decode cL_take 13 = .ok (.astore 4, 2) := by decide +kernel
theorem dL_take_15 : decode cL_take 15 = .ok (.iconst 1, 1) := by decide +kernel
theorem dL_take_16 : decode cL_take 16 = .ok (.ireturn, 1) := by decide +kernel
theorem dL_take_17 : decode cL_take 17 = .ok (.astore 4, 2) := by decide +kernel
theorem dL_take_19 : decode cL_take 19 = .ok (.iconst 2, 1) := by decide +kernel
theorem dL_take_20 : decode cL_take 20 = .ok (.ireturn, 1) := by decide +kernel
theorem dL_take_21 : decode cL_take 21 = .ok (.iconst 0, 1) := by decide +kernel
theorem dL_take_22 : decode cL_take 22 = .ok (.ireturn, 1) := by decide +kernel
theorem dL_leave_0 : decode cL_leave 0 = .ok (.aload_n 2, 1) := by decide +kernel
theorem dL_leave_1 : decode cL_leave 1 = .ok (.iconst 0, 1) := by decide +kernel
theorem dL_leave_2 : decode cL_leave 2 = .ok (.aload_n 0, 1) := by decide +kernel
theorem dL_leave_3 : decode cL_leave 3 = .ok (.iload_n 1, 1) := by decide +kernel
theorem dL_leave_4 : decode cL_leave 4 = .ok (.invokevirtual 44, 3) := by decide +kernel
theorem dL_leave_7 : decode cL_leave 7 = .ok (.i2l, 1) := by decide +kernel
theorem dL_leave_8 : decode cL_leave 8 = .ok (.lastore, 1) := by decide +kernel
theorem dL_leave_9 : decode cL_leave 9 = .ok (.goto 9, 3) := by decide +kernel
theorem dL_leave_12 : decode cL_leave 12 = .ok (.astore_n 3, 1) := by decide +kernel
theorem dL_leave_13 : decode cL_leave 13 = .ok (.iconst 1, 1) := by decide +kernel
theorem dL_leave_14 : decode cL_leave 14 = .ok (.ireturn, 1) := by decide +kernel
theorem dL_leave_15 : decode cL_leave 15 = .ok (.astore_n 3, 1) := by decide +kernel
theorem dL_leave_16 : decode cL_leave 16 = .ok (.iconst 2, 1) := by decide +kernel
theorem dL_leave_17 : decode cL_leave 17 = .ok (.ireturn, 1) := by decide +kernel
theorem dL_leave_18 : decode cL_leave 18 = .ok (.iconst 0, 1) := by decide +kernel
theorem dL_leave_19 : decode cL_leave 19 = .ok (.ireturn, 1) := by decide +kernel
theorem dL_sublet_0 : decode cL_sublet 0 = .ok (.aload 4, 2) := by decide +kernel
theorem dL_sublet_2 : decode cL_sublet 2 = .ok (.iconst 0, 1) := by decide +kernel
theorem dL_sublet_3 : decode cL_sublet 3 = .ok (.aload_n 0, 1) := by decide +kernel
theorem dL_sublet_4 : decode cL_sublet 4 = .ok (.iload_n 1, 1) := by decide +kernel
theorem dL_sublet_5 : decode cL_sublet 5 = .ok (.iload_n 2, 1) := by decide +kernel
theorem dL_sublet_6 : decode cL_sublet 6 = .ok (.iload_n 3, 1) := by decide +kernel
theorem dL_sublet_7 : decode cL_sublet 7 = .ok (.invokevirtual 48, 3) := by decide +kernel
theorem dL_sublet_10 : decode cL_sublet 10 = .ok (.i2l, 1) := by decide +kernel
theorem dL_sublet_11 : decode cL_sublet 11 = .ok (.lastore, 1) := by decide +kernel
theorem dL_sublet_12 : decode cL_sublet 12 = .ok (.goto 15, 3) := by decide +kernel
theorem dL_sublet_15 : decode cL_sublet 15 = .ok (.astore 5, 2) := by decide +kernel
theorem dL_sublet_17 : decode cL_sublet 17 = .ok (.iconst 1, 1) := by decide +kernel
theorem dL_sublet_18 : decode cL_sublet 18 = .ok (.ireturn, 1) := by decide +kernel
theorem dL_sublet_19 : decode cL_sublet 19 = .ok (.astore 5, 2) := by decide +kernel
theorem dL_sublet_21 : decode cL_sublet 21 = .ok (.iconst 2, 1) := by decide +kernel
theorem dL_sublet_22 : decode cL_sublet 22 = .ok (.ireturn, 1) := by decide +kernel
theorem dL_sublet_23 : decode cL_sublet 23 = .ok (.astore 5, 2) := by decide +kernel
theorem dL_sublet_25 : decode cL_sublet 25 = .ok (.iconst 3, 1) := by decide +kernel
theorem dL_sublet_26 : decode cL_sublet 26 = .ok (.ireturn, 1) := by decide +kernel
theorem dL_sublet_27 : decode cL_sublet 27 = .ok (.iconst 0, 1) := by decide +kernel
theorem dL_sublet_28 : decode cL_sublet 28 = .ok (.ireturn, 1) := by decide +kernel
theorem dL_ends_0 : decode cL_ends 0 = .ok (.aload_n 2, 1) := by decide +kernel
theorem dL_ends_1 : decode cL_ends 1 = .ok (.iconst 0, 1) := by decide +kernel
theorem dL_ends_2 : decode cL_ends 2 = .ok (.aload_n 0, 1) := by decide +kernel
theorem dL_ends_3 : decode cL_ends 3 = .ok (.iload_n 1, 1) := by decide +kernel
theorem dL_ends_4 : decode cL_ends 4 = .ok (.invokevirtual 51, 3) := by decide +kernel
theorem dL_ends_7 : decode cL_ends 7 = .ok (.i2l, 1) := by decide +kernel
theorem dL_ends_8 : decode cL_ends 8 = .ok (.lastore, 1) := by decide +kernel
theorem dL_ends_9 : decode cL_ends 9 = .ok (.goto 9, 3) := by decide +kernel
theorem dL_ends_12 : decode cL_ends 12 = .ok (.astore_n 3, 1) := by decide +kernel
theorem dL_ends_13 : decode cL_ends 13 = .ok (.iconst 1, 1) := by decide +kernel
theorem dL_ends_14 : decode cL_ends 14 = .ok (.ireturn, 1) := by decide +kernel
theorem dL_ends_15 : decode cL_ends 15 = .ok (.astore_n 3, 1) := by decide +kernel
theorem dL_ends_16 : decode cL_ends 16 = .ok (.iconst 2, 1) := by decide +kernel
theorem dL_ends_17 : decode cL_ends 17 = .ok (.ireturn, 1) := by decide +kernel
theorem dL_ends_18 : decode cL_ends 18 = .ok (.iconst 0, 1) := by decide +kernel
theorem dL_ends_19 : decode cL_ends 19 = .ok (.ireturn, 1) := by decide +kernel
theorem dL_evict_0 : decode cL_evict 0 = .ok (.aload_n 2, 1) := by decide +kernel
theorem dL_evict_1 : decode cL_evict 1 = .ok (.iconst 0, 1) := by decide +kernel
theorem dL_evict_2 : decode cL_evict 2 = .ok (.aload_n 0, 1) := by decide +kernel
theorem dL_evict_3 : decode cL_evict 3 = .ok (.iload_n 1, 1) := by decide +kernel
theorem dL_evict_4 : decode cL_evict 4 = .ok (.invokevirtual 54, 3) := by decide +kernel
theorem dL_evict_7 : decode cL_evict 7 = .ok (.i2l, 1) := by decide +kernel
theorem dL_evict_8 : decode cL_evict 8 = .ok (.lastore, 1) := by decide +kernel
theorem dL_evict_9 : decode cL_evict 9 = .ok (.goto 9, 3) := by decide +kernel
theorem dL_evict_12 : decode cL_evict 12 = .ok (.astore_n 3, 1) := by decide +kernel
theorem dL_evict_13 : decode cL_evict 13 = .ok (.iconst 1, 1) := by decide +kernel
theorem dL_evict_14 : decode cL_evict 14 = .ok (.ireturn, 1) := by decide +kernel
theorem dL_evict_15 : decode cL_evict 15 = .ok (.astore_n 3, 1) := by decide +kernel
theorem dL_evict_16 : decode cL_evict 16 = .ok (.iconst 2, 1) := by decide +kernel
theorem dL_evict_17 : decode cL_evict 17 = .ok (.ireturn, 1) := by decide +kernel
theorem dL_evict_18 : decode cL_evict 18 = .ok (.iconst 0, 1) := by decide +kernel
theorem dL_evict_19 : decode cL_evict 19 = .ok (.ireturn, 1) := by decide +kernel
theorem dL_carry_0 : decode cL_carry 0 = .ok (.aload 5, 2) := by decide +kernel
theorem dL_carry_2 : decode cL_carry 2 = .ok (.iconst 0, 1) := by decide +kernel
theorem dL_carry_3 : decode cL_carry 3 = .ok (.aload_n 0, 1) := by decide +kernel
theorem dL_carry_4 : decode cL_carry 4 = .ok (.iload_n 1, 1) := by decide +kernel
theorem dL_carry_5 : decode cL_carry 5 = .ok (.iload_n 2, 1) := by decide +kernel
theorem dL_carry_6 : decode cL_carry 6 = .ok (.iload_n 3, 1) := by decide +kernel
theorem dL_carry_7 : decode cL_carry 7 = .ok (.iload 4, 2) := by decide +kernel
theorem dL_carry_9 : decode cL_carry 9 = .ok (.invokevirtual 57, 3) := by decide +kernel
theorem dL_carry_12 : decode cL_carry 12 = .ok (.i2l, 1) := by decide +kernel
theorem dL_carry_13 : decode cL_carry 13 = .ok (.lastore, 1) := by decide +kernel
theorem dL_carry_14 : decode cL_carry 14 = .ok (.goto 15, 3) := by decide +kernel
theorem dL_carry_17 : decode cL_carry 17 = .ok (.astore 6, 2) := by decide +kernel
theorem dL_carry_19 : decode cL_carry 19 = .ok (.iconst 1, 1) := by decide +kernel
theorem dL_carry_20 : decode cL_carry 20 = .ok (.ireturn, 1) := by decide +kernel
theorem dL_carry_21 : decode cL_carry 21 = .ok (.astore 6, 2) := by decide +kernel
theorem dL_carry_23 : decode cL_carry 23 = .ok (.iconst 2, 1) := by decide +kernel
theorem dL_carry_24 : decode cL_carry 24 = .ok (.ireturn, 1) := by decide +kernel
theorem dL_carry_25 : decode cL_carry 25 = .ok (.astore 6, 2) := by decide +kernel
theorem dL_carry_27 : decode cL_carry 27 = .ok (.iconst 3, 1) := by decide +kernel
theorem dL_carry_28 : decode cL_carry 28 = .ok (.ireturn, 1) := by decide +kernel
theorem dL_carry_29 : decode cL_carry 29 = .ok (.iconst 0, 1) := by decide +kernel
theorem dL_carry_30 : decode cL_carry 30 = .ok (.ireturn, 1) := by decide +kernel
theorem dL_swap_0 : decode cL_swap 0 = .ok (.aload_n 3, 1) := by decide +kernel
theorem dL_swap_1 : decode cL_swap 1 = .ok (.iconst 0, 1) := by decide +kernel
theorem dL_swap_2 : decode cL_swap 2 = .ok (.aload_n 0, 1) := by decide +kernel
theorem dL_swap_3 : decode cL_swap 3 = .ok (.iload_n 1, 1) := by decide +kernel
theorem dL_swap_4 : decode cL_swap 4 = .ok (.iload_n 2, 1) := by decide +kernel
theorem dL_swap_5 : decode cL_swap 5 = .ok (.invokevirtual 61, 3) := by decide +kernel
theorem dL_swap_8 : decode cL_swap 8 = .ok (.i2l, 1) := by decide +kernel
theorem dL_swap_9 : decode cL_swap 9 = .ok (.lastore, 1) := by decide +kernel
theorem dL_swap_10 : decode cL_swap 10 = .ok (.goto 15, 3) := by decide +kernel
theorem dL_swap_13 : decode cL_swap 13 = .ok (.astore 4, 2) := by decide +kernel
theorem dL_swap_15 : decode cL_swap 15 = .ok (.iconst 1, 1) := by decide +kernel
theorem dL_swap_16 : decode cL_swap 16 = .ok (.ireturn, 1) := by decide +kernel
theorem dL_swap_17 : decode cL_swap 17 = .ok (.astore 4, 2) := by decide +kernel
theorem dL_swap_19 : decode cL_swap 19 = .ok (.iconst 2, 1) := by decide +kernel
theorem dL_swap_20 : decode cL_swap 20 = .ok (.ireturn, 1) := by decide +kernel
theorem dL_swap_21 : decode cL_swap 21 = .ok (.astore 4, 2) := by decide +kernel
theorem dL_swap_23 : decode cL_swap 23 = .ok (.iconst 3, 1) := by decide +kernel
theorem dL_swap_24 : decode cL_swap 24 = .ok (.ireturn, 1) := by decide +kernel
theorem dL_swap_25 : decode cL_swap 25 = .ok (.iconst 0, 1) := by decide +kernel
theorem dL_swap_26 : decode cL_swap 26 = .ok (.ireturn, 1) := by decide +kernel
theorem dL_ticks_0 : decode cL_ticks 0 = .ok (.aload_n 2, 1) := by decide +kernel
theorem dL_ticks_1 : decode cL_ticks 1 = .ok (.iconst 0, 1) := by decide +kernel
theorem dL_ticks_2 : decode cL_ticks 2 = .ok (.aload_n 0, 1) := by decide +kernel
theorem dL_ticks_3 : decode cL_ticks 3 = .ok (.iload_n 1, 1) := by decide +kernel
theorem dL_ticks_4 : decode cL_ticks 4 = .ok (.invokevirtual 64, 3) := by decide +kernel
theorem dL_ticks_7 : decode cL_ticks 7 = .ok (.i2l, 1) := by decide +kernel
theorem dL_ticks_8 : decode cL_ticks 8 = .ok (.lastore, 1) := by decide +kernel
theorem dL_ticks_9 : decode cL_ticks 9 = .ok (.goto 6, 3) := by decide +kernel
theorem dL_ticks_12 : decode cL_ticks 12 = .ok (.astore_n 3, 1) := by decide +kernel
theorem dL_ticks_13 : decode cL_ticks 13 = .ok (.iconst 1, 1) := by decide +kernel
theorem dL_ticks_14 : decode cL_ticks 14 = .ok (.ireturn, 1) := by decide +kernel
theorem dL_ticks_15 : decode cL_ticks 15 = .ok (.iconst 0, 1) := by decide +kernel
theorem dL_ticks_16 : decode cL_ticks 16 = .ok (.ireturn, 1) := by decide +kernel
theorem dL_neighbours_0 : decode cL_neighbours 0 = .ok (.aload 4, 2) := by decide +kernel
theorem dL_neighbours_2 : decode cL_neighbours 2 = .ok (.iconst 0, 1) := by decide +kernel
theorem dL_neighbours_3 : decode cL_neighbours 3 = .ok (.aload_n 0, 1) := by decide +kernel
theorem dL_neighbours_4 : decode cL_neighbours 4 = .ok (.iload_n 1, 1) := by decide +kernel
theorem dL_neighbours_5 : decode cL_neighbours 5 = .ok (.iload_n 2, 1) := by decide +kernel
theorem dL_neighbours_6 : decode cL_neighbours 6 = .ok (.iload_n 3, 1) := by decide +kernel
theorem dL_neighbours_7 : decode cL_neighbours 7 = .ok (.invokevirtual 67, 3) := by decide +kernel
theorem dL_neighbours_10 : decode cL_neighbours 10 = .ok (.i2l, 1) := by decide +kernel
theorem dL_neighbours_11 : decode cL_neighbours 11 = .ok (.lastore, 1) := by decide +kernel
theorem dL_neighbours_12 : decode cL_neighbours 12 = .ok (.goto 7, 3) := by decide +kernel
theorem dL_neighbours_15 : decode cL_neighbours 15 = .ok (.astore 5, 2) := by decide +kernel
theorem dL_neighbours_17 : decode cL_neighbours 17 = .ok (.iconst 1, 1) := by decide +kernel
theorem dL_neighbours_18 : decode cL_neighbours 18 = .ok (.ireturn, 1) := by decide +kernel
theorem dL_neighbours_19 : decode cL_neighbours 19 = .ok (.iconst 0, 1) := by decide +kernel
theorem dL_neighbours_20 : decode cL_neighbours 20 = .ok (.ireturn, 1) := by decide +kernel
theorem dL_run_0 : decode cL_run 0 = .ok (.aload_n 3, 1) := by decide +kernel
theorem dL_run_1 : decode cL_run 1 = .ok (.iconst 0, 1) := by decide +kernel
theorem dL_run_2 : decode cL_run 2 = .ok (.aload_n 0, 1) := by decide +kernel
theorem dL_run_3 : decode cL_run 3 = .ok (.iload_n 1, 1) := by decide +kernel
theorem dL_run_4 : decode cL_run 4 = .ok (.iload_n 2, 1) := by decide +kernel
theorem dL_run_5 : decode cL_run 5 = .ok (.invokevirtual 70, 3) := by decide +kernel
theorem dL_run_8 : decode cL_run 8 = .ok (.i2l, 1) := by decide +kernel
theorem dL_run_9 : decode cL_run 9 = .ok (.lastore, 1) := by decide +kernel
theorem dL_run_10 : decode cL_run 10 = .ok (.goto 7, 3) := by decide +kernel
theorem dL_run_13 : decode cL_run 13 = .ok (.astore 4, 2) := by decide +kernel
theorem dL_run_15 : decode cL_run 15 = .ok (.iconst 1, 1) := by decide +kernel
theorem dL_run_16 : decode cL_run 16 = .ok (.ireturn, 1) := by decide +kernel
theorem dL_run_17 : decode cL_run 17 = .ok (.iconst 0, 1) := by decide +kernel
theorem dL_run_18 : decode cL_run 18 = .ok (.ireturn, 1) := by decide +kernel
theorem dL_wedding_0 : decode cL_wedding 0 = .ok (.aload_n 3, 1) := by decide +kernel
theorem dL_wedding_1 : decode cL_wedding 1 = .ok (.iconst 0, 1) := by decide +kernel
theorem dL_wedding_2 : decode cL_wedding 2 = .ok (.aload_n 0, 1) := by decide +kernel
theorem dL_wedding_3 : decode cL_wedding 3 = .ok (.iload_n 1, 1) := by decide +kernel
theorem dL_wedding_4 : decode cL_wedding 4 = .ok (.iload_n 2, 1) := by decide +kernel
theorem dL_wedding_5 : decode cL_wedding 5 = .ok (.invokevirtual 74, 3) := by decide +kernel
theorem dL_wedding_8 : decode cL_wedding 8 = .ok (.i2l, 1) := by decide +kernel
theorem dL_wedding_9 : decode cL_wedding 9 = .ok (.lastore, 1) := by decide +kernel
theorem dL_wedding_10 : decode cL_wedding 10 = .ok (.goto 11, 3) := by decide +kernel
theorem dL_wedding_13 : decode cL_wedding 13 = .ok (.astore 4, 2) := by decide +kernel
theorem dL_wedding_15 : decode cL_wedding 15 = .ok (.iconst 1, 1) := by decide +kernel
theorem dL_wedding_16 : decode cL_wedding 16 = .ok (.ireturn, 1) := by decide +kernel
theorem dL_wedding_17 : decode cL_wedding 17 = .ok (.astore 4, 2) := by decide +kernel
theorem dL_wedding_19 : decode cL_wedding 19 = .ok (.iconst 2, 1) := by decide +kernel
theorem dL_wedding_20 : decode cL_wedding 20 = .ok (.ireturn, 1) := by decide +kernel
theorem dL_wedding_21 : decode cL_wedding 21 = .ok (.iconst 0, 1) := by decide +kernel
theorem dL_wedding_22 : decode cL_wedding 22 = .ok (.ireturn, 1) := by decide +kernel
theorem dL_cheap_0 : decode cL_cheap 0 = .ok (.aload 4, 2) := by decide +kernel
theorem dL_cheap_2 : decode cL_cheap 2 = .ok (.iconst 0, 1) := by decide +kernel
theorem dL_cheap_3 : decode cL_cheap 3 = .ok (.aload_n 0, 1) := by decide +kernel
theorem dL_cheap_4 : decode cL_cheap 4 = .ok (.iload_n 1, 1) := by decide +kernel
theorem dL_cheap_5 : decode cL_cheap 5 = .ok (.iload_n 2, 1) := by decide +kernel
theorem dL_cheap_6 : decode cL_cheap 6 = .ok (.iload_n 3, 1) := by decide +kernel
theorem dL_cheap_7 : decode cL_cheap 7 = .ok (.invokevirtual 77, 3) := by decide +kernel
theorem dL_cheap_10 : decode cL_cheap 10 = .ok (.i2l, 1) := by decide +kernel
theorem dL_cheap_11 : decode cL_cheap 11 = .ok (.lastore, 1) := by decide +kernel
theorem dL_cheap_12 : decode cL_cheap 12 = .ok (.goto 11, 3) := by decide +kernel
theorem dL_cheap_15 : decode cL_cheap 15 = .ok (.astore 5, 2) := by decide +kernel
theorem dL_cheap_17 : decode cL_cheap 17 = .ok (.iconst 1, 1) := by decide +kernel
theorem dL_cheap_18 : decode cL_cheap 18 = .ok (.ireturn, 1) := by decide +kernel
theorem dL_cheap_19 : decode cL_cheap 19 = .ok (.astore 5, 2) := by decide +kernel
theorem dL_cheap_21 : decode cL_cheap 21 = .ok (.iconst 2, 1) := by decide +kernel
theorem dL_cheap_22 : decode cL_cheap 22 = .ok (.ireturn, 1) := by decide +kernel
theorem dL_cheap_23 : decode cL_cheap 23 = .ok (.iconst 0, 1) := by decide +kernel
theorem dL_cheap_24 : decode cL_cheap 24 = .ok (.ireturn, 1) := by decide +kernel
theorem dL_given_0 : decode cL_given 0 = .ok (.aload_n 2, 1) := by decide +kernel
theorem dL_given_1 : decode cL_given 1 = .ok (.iconst 0, 1) := by decide +kernel
theorem dL_given_2 : decode cL_given 2 = .ok (.aload_n 0, 1) := by decide +kernel
theorem dL_given_3 : decode cL_given 3 = .ok (.iload_n 1, 1) := by decide +kernel
theorem dL_given_4 : decode cL_given 4 = .ok (.invokevirtual 80, 3) := by decide +kernel
theorem dL_given_7 : decode cL_given 7 = .ok (.i2l, 1) := by decide +kernel
theorem dL_given_8 : decode cL_given 8 = .ok (.lastore, 1) := by decide +kernel
theorem dL_given_9 : decode cL_given 9 = .ok (.goto 6, 3) := by decide +kernel
theorem dL_given_12 : decode cL_given 12 = .ok (.astore_n 3, 1) := by decide +kernel
theorem dL_given_13 : decode cL_given 13 = .ok (.iconst 1, 1) := by decide +kernel
theorem dL_given_14 : decode cL_given 14 = .ok (.ireturn, 1) := by decide +kernel
theorem dL_given_15 : decode cL_given 15 = .ok (.iconst 0, 1) := by decide +kernel
theorem dL_given_16 : decode cL_given 16 = .ok (.ireturn, 1) := by decide +kernel
theorem dL_envies_0 : decode cL_envies 0 = .ok (.aload_n 2, 1) := by decide +kernel
theorem dL_envies_1 : decode cL_envies 1 = .ok (.iconst 0, 1) := by decide +kernel
theorem dL_envies_2 : decode cL_envies 2 = .ok (.aload_n 0, 1) := by decide +kernel
theorem dL_envies_3 : decode cL_envies 3 = .ok (.iload_n 1, 1) := by decide +kernel
theorem dL_envies_4 : decode cL_envies 4 = .ok (.invokevirtual 83, 3) := by decide +kernel
theorem dL_envies_7 : decode cL_envies 7 = .ok (.i2l, 1) := by decide +kernel
theorem dL_envies_8 : decode cL_envies 8 = .ok (.lastore, 1) := by decide +kernel
theorem dL_envies_9 : decode cL_envies 9 = .ok (.goto 6, 3) := by decide +kernel
theorem dL_envies_12 : decode cL_envies 12 = .ok (.astore_n 3, 1) := by decide +kernel
theorem dL_envies_13 : decode cL_envies 13 = .ok (.iconst 1, 1) := by decide +kernel
theorem dL_envies_14 : decode cL_envies 14 = .ok (.ireturn, 1) := by decide +kernel
theorem dL_envies_15 : decode cL_envies 15 = .ok (.iconst 0, 1) := by decide +kernel
theorem dL_envies_16 : decode cL_envies 16 = .ok (.ireturn, 1) := by decide +kernel
theorem dL_fair_0 : decode cL_fair 0 = .ok (.aload 4, 2) := by decide +kernel
theorem dL_fair_2 : decode cL_fair 2 = .ok (.iconst 0, 1) := by decide +kernel
theorem dL_fair_3 : decode cL_fair 3 = .ok (.aload_n 0, 1) := by decide +kernel
theorem dL_fair_4 : decode cL_fair 4 = .ok (.iload_n 1, 1) := by decide +kernel
theorem dL_fair_5 : decode cL_fair 5 = .ok (.iload_n 2, 1) := by decide +kernel
theorem dL_fair_6 : decode cL_fair 6 = .ok (.iload_n 3, 1) := by decide +kernel
theorem dL_fair_7 : decode cL_fair 7 = .ok (.invokevirtual 86, 3) := by decide +kernel
theorem dL_fair_10 : decode cL_fair 10 = .ok (.i2l, 1) := by decide +kernel
theorem dL_fair_11 : decode cL_fair 11 = .ok (.lastore, 1) := by decide +kernel
theorem dL_fair_12 : decode cL_fair 12 = .ok (.goto 7, 3) := by decide +kernel
theorem dL_fair_15 : decode cL_fair 15 = .ok (.astore 5, 2) := by decide +kernel
theorem dL_fair_17 : decode cL_fair 17 = .ok (.iconst 1, 1) := by decide +kernel
theorem dL_fair_18 : decode cL_fair 18 = .ok (.ireturn, 1) := by decide +kernel
theorem dL_fair_19 : decode cL_fair 19 = .ok (.iconst 0, 1) := by decide +kernel
theorem dL_fair_20 : decode cL_fair 20 = .ok (.ireturn, 1) := by decide +kernel
theorem dL_ring_0 : decode cL_ring 0 = .ok (.aload_n 3, 1) := by decide +kernel
theorem dL_ring_1 : decode cL_ring 1 = .ok (.iconst 0, 1) := by decide +kernel
theorem dL_ring_2 : decode cL_ring 2 = .ok (.aload_n 0, 1) := by decide +kernel
theorem dL_ring_3 : decode cL_ring 3 = .ok (.iload_n 1, 1) := by decide +kernel
theorem dL_ring_4 : decode cL_ring 4 = .ok (.iload_n 2, 1) := by decide +kernel
theorem dL_ring_5 : decode cL_ring 5 = .ok (.invokevirtual 89, 3) := by decide +kernel
theorem dL_ring_8 : decode cL_ring 8 = .ok (.i2l, 1) := by decide +kernel
theorem dL_ring_9 : decode cL_ring 9 = .ok (.lastore, 1) := by decide +kernel
theorem dL_ring_10 : decode cL_ring 10 = .ok (.goto 11, 3) := by decide +kernel
theorem dL_ring_13 : decode cL_ring 13 = .ok (.astore 4, 2) := by decide +kernel
theorem dL_ring_15 : decode cL_ring 15 = .ok (.iconst 1, 1) := by decide +kernel
theorem dL_ring_16 : decode cL_ring 16 = .ok (.ireturn, 1) := by decide +kernel
theorem dL_ring_17 : decode cL_ring 17 = .ok (.astore 4, 2) := by decide +kernel
theorem dL_ring_19 : decode cL_ring 19 = .ok (.iconst 2, 1) := by decide +kernel
theorem dL_ring_20 : decode cL_ring 20 = .ok (.ireturn, 1) := by decide +kernel
theorem dL_ring_21 : decode cL_ring 21 = .ok (.iconst 0, 1) := by decide +kernel
theorem dL_ring_22 : decode cL_ring 22 = .ok (.ireturn, 1) := by decide +kernel
theorem dL_turn_0 : decode cL_turn 0 = .ok (.aload_n 2, 1) := by decide +kernel
theorem dL_turn_1 : decode cL_turn 1 = .ok (.iconst 0, 1) := by decide +kernel
theorem dL_turn_2 : decode cL_turn 2 = .ok (.aload_n 0, 1) := by decide +kernel
theorem dL_turn_3 : decode cL_turn 3 = .ok (.iload_n 1, 1) := by decide +kernel
theorem dL_turn_4 : decode cL_turn 4 = .ok (.invokevirtual 92, 3) := by decide +kernel
theorem dL_turn_7 : decode cL_turn 7 = .ok (.i2l, 1) := by decide +kernel
theorem dL_turn_8 : decode cL_turn 8 = .ok (.lastore, 1) := by decide +kernel
theorem dL_turn_9 : decode cL_turn 9 = .ok (.goto 9, 3) := by decide +kernel
theorem dL_turn_12 : decode cL_turn 12 = .ok (.astore_n 3, 1) := by decide +kernel
theorem dL_turn_13 : decode cL_turn 13 = .ok (.iconst 1, 1) := by decide +kernel
theorem dL_turn_14 : decode cL_turn 14 = .ok (.ireturn, 1) := by decide +kernel
theorem dL_turn_15 : decode cL_turn 15 = .ok (.astore_n 3, 1) := by decide +kernel
theorem dL_turn_16 : decode cL_turn 16 = .ok (.iconst 2, 1) := by decide +kernel
theorem dL_turn_17 : decode cL_turn 17 = .ok (.ireturn, 1) := by decide +kernel
theorem dL_turn_18 : decode cL_turn 18 = .ok (.iconst 0, 1) := by decide +kernel
theorem dL_turn_19 : decode cL_turn 19 = .ok (.ireturn, 1) := by decide +kernel
theorem dL_soonest_0 : decode cL_soonest 0 = .ok (.aload_n 3, 1) := by decide +kernel
theorem dL_soonest_1 : decode cL_soonest 1 = .ok (.iconst 0, 1) := by decide +kernel
theorem dL_soonest_2 : decode cL_soonest 2 = .ok (.aload_n 0, 1) := by decide +kernel
theorem dL_soonest_3 : decode cL_soonest 3 = .ok (.iload_n 1, 1) := by decide +kernel
theorem dL_soonest_4 : decode cL_soonest 4 = .ok (.iload_n 2, 1) := by decide +kernel
theorem dL_soonest_5 : decode cL_soonest 5 = .ok (.invokevirtual 95, 3) := by decide +kernel
theorem dL_soonest_8 : decode cL_soonest 8 = .ok (.i2l, 1) := by decide +kernel
theorem dL_soonest_9 : decode cL_soonest 9 = .ok (.lastore, 1) := by decide +kernel
theorem dL_soonest_10 : decode cL_soonest 10 = .ok (.goto 7, 3) := by decide +kernel
theorem dL_soonest_13 : decode cL_soonest 13 = .ok (.astore 4, 2) := by decide +kernel
theorem dL_soonest_15 : decode cL_soonest 15 = .ok (.iconst 1, 1) := by decide +kernel
theorem dL_soonest_16 : decode cL_soonest 16 = .ok (.ireturn, 1) := by decide +kernel
theorem dL_soonest_17 : decode cL_soonest 17 = .ok (.iconst 0, 1) := by decide +kernel
theorem dL_soonest_18 : decode cL_soonest 18 = .ok (.ireturn, 1) := by decide +kernel
theorem dL_heard_0 : decode cL_heard 0 = .ok (.aload_n 3, 1) := by decide +kernel
theorem dL_heard_1 : decode cL_heard 1 = .ok (.iconst 0, 1) := by decide +kernel
theorem dL_heard_2 : decode cL_heard 2 = .ok (.aload_n 0, 1) := by decide +kernel
theorem dL_heard_3 : decode cL_heard 3 = .ok (.iload_n 1, 1) := by decide +kernel
theorem dL_heard_4 : decode cL_heard 4 = .ok (.iload_n 2, 1) := by decide +kernel
theorem dL_heard_5 : decode cL_heard 5 = .ok (.invokevirtual 98, 3) := by decide +kernel
theorem dL_heard_8 : decode cL_heard 8 = .ok (.i2l, 1) := by decide +kernel
theorem dL_heard_9 : decode cL_heard 9 = .ok (.lastore, 1) := by decide +kernel
theorem dL_heard_10 : decode cL_heard 10 = .ok (.goto 11, 3) := by decide +kernel
theorem dL_heard_13 : decode cL_heard 13 = .ok (.astore 4, 2) := by decide +kernel
theorem dL_heard_15 : decode cL_heard 15 = .ok (.iconst 1, 1) := by decide +kernel
theorem dL_heard_16 : decode cL_heard 16 = .ok (.ireturn, 1) := by decide +kernel
theorem dL_heard_17 : decode cL_heard 17 = .ok (.astore 4, 2) := by decide +kernel
theorem dL_heard_19 : decode cL_heard 19 = .ok (.iconst 2, 1) := by decide +kernel
theorem dL_heard_20 : decode cL_heard 20 = .ok (.ireturn, 1) := by decide +kernel
theorem dL_heard_21 : decode cL_heard 21 = .ok (.iconst 0, 1) := by decide +kernel
theorem dL_heard_22 : decode cL_heard 22 = .ok (.ireturn, 1) := by decide +kernel
theorem dL_roomsFor_0 : decode cL_roomsFor 0 = .ok (.aload 4, 2) := by decide +kernel
theorem dL_roomsFor_2 : decode cL_roomsFor 2 = .ok (.iconst 0, 1) := by decide +kernel
theorem dL_roomsFor_3 : decode cL_roomsFor 3 = .ok (.aload_n 0, 1) := by decide +kernel
theorem dL_roomsFor_4 : decode cL_roomsFor 4 = .ok (.iload_n 1, 1) := by decide +kernel
theorem dL_roomsFor_5 : decode cL_roomsFor 5 = .ok (.iload_n 2, 1) := by decide +kernel
theorem dL_roomsFor_6 : decode cL_roomsFor 6 = .ok (.iload_n 3, 1) := by decide +kernel
theorem dL_roomsFor_7 : decode cL_roomsFor 7 = .ok (.invokevirtual 101, 3) := by decide +kernel
theorem dL_roomsFor_10 : decode cL_roomsFor 10 = .ok (.i2l, 1) := by decide +kernel
theorem dL_roomsFor_11 : decode cL_roomsFor 11 = .ok (.lastore, 1) := by decide +kernel
theorem dL_roomsFor_12 : decode cL_roomsFor 12 = .ok (.goto 11, 3) := by decide +kernel
theorem dL_roomsFor_15 : decode cL_roomsFor 15 = .ok (.astore 5, 2) := by decide +kernel
theorem dL_roomsFor_17 : decode cL_roomsFor 17 = .ok (.iconst 1, 1) := by decide +kernel
theorem dL_roomsFor_18 : decode cL_roomsFor 18 = .ok (.ireturn, 1) := by decide +kernel
theorem dL_roomsFor_19 : decode cL_roomsFor 19 = .ok (.astore 5, 2) := by decide +kernel
theorem dL_roomsFor_21 : decode cL_roomsFor 21 = .ok (.iconst 2, 1) := by decide +kernel
theorem dL_roomsFor_22 : decode cL_roomsFor 22 = .ok (.ireturn, 1) := by decide +kernel
theorem dL_roomsFor_23 : decode cL_roomsFor 23 = .ok (.iconst 0, 1) := by decide +kernel
theorem dL_roomsFor_24 : decode cL_roomsFor 24 = .ok (.ireturn, 1) := by decide +kernel
theorem dL_thieves_0 : decode cL_thieves 0 = .ok (.aload_n 1, 1) := by decide +kernel
theorem dL_thieves_1 : decode cL_thieves 1 = .ok (.iconst 0, 1) := by decide +kernel
theorem dL_thieves_2 : decode cL_thieves 2 = .ok (.aload_n 0, 1) := by decide +kernel
theorem dL_thieves_3 : decode cL_thieves 3 = .ok (.invokevirtual 104, 3) := by decide +kernel
theorem dL_thieves_6 : decode cL_thieves 6 = .ok (.i2l, 1) := by decide +kernel
theorem dL_thieves_7 : decode cL_thieves 7 = .ok (.lastore, 1) := by decide +kernel
theorem dL_thieves_8 : decode cL_thieves 8 = .ok (.goto 6, 3) := by decide +kernel
theorem dL_thieves_11 : decode cL_thieves 11 = .ok (.astore_n 2, 1) := by decide +kernel
theorem dL_thieves_12 : decode cL_thieves 12 = .ok (.iconst 1, 1) := by decide +kernel
theorem dL_thieves_13 : decode cL_thieves 13 = .ok (.ireturn, 1) := by decide +kernel
theorem dL_thieves_14 : decode cL_thieves 14 = .ok (.iconst 0, 1) := by decide +kernel
theorem dL_thieves_15 : decode cL_thieves 15 = .ok (.ireturn, 1) := by decide +kernel
theorem dL_seen_0 : decode cL_seen 0 = .ok (.aload_n 1, 1) := by decide +kernel
theorem dL_seen_1 : decode cL_seen 1 = .ok (.iconst 0, 1) := by decide +kernel
theorem dL_seen_2 : decode cL_seen 2 = .ok (.aload_n 0, 1) := by decide +kernel
theorem dL_seen_3 : decode cL_seen 3 = .ok (.invokevirtual 107, 3) := by decide +kernel
theorem dL_seen_6 : decode cL_seen 6 = .ok (.i2l, 1) := by decide +kernel
theorem dL_seen_7 : decode cL_seen 7 = .ok (.lastore, 1) := by decide +kernel
theorem dL_seen_8 : decode cL_seen 8 = .ok (.goto 6, 3) := by decide +kernel
theorem dL_seen_11 : decode cL_seen 11 = .ok (.astore_n 2, 1) := by decide +kernel
theorem dL_seen_12 : decode cL_seen 12 = .ok (.iconst 1, 1) := by decide +kernel
theorem dL_seen_13 : decode cL_seen 13 = .ok (.ireturn, 1) := by decide +kernel
theorem dL_seen_14 : decode cL_seen 14 = .ok (.iconst 0, 1) := by decide +kernel
theorem dL_seen_15 : decode cL_seen 15 = .ok (.ireturn, 1) := by decide +kernel
theorem dL_changed_0 : decode cL_changed 0 = .ok (.aload 4, 2) := by decide +kernel
theorem dL_changed_2 : decode cL_changed 2 = .ok (.iconst 0, 1) := by decide +kernel
theorem dL_changed_3 : decode cL_changed 3 = .ok (.aload_n 0, 1) := by decide +kernel
theorem dL_changed_4 : decode cL_changed 4 = .ok (.iload_n 1, 1) := by decide +kernel
theorem dL_changed_5 : decode cL_changed 5 = .ok (.iload_n 2, 1) := by decide +kernel
theorem dL_changed_6 : decode cL_changed 6 = .ok (.iload_n 3, 1) := by decide +kernel
theorem dL_changed_7 : decode cL_changed 7 = .ok (.invokevirtual 110, 3) := by decide +kernel
theorem dL_changed_10 : decode cL_changed 10 = .ok (.i2l, 1) := by decide +kernel
theorem dL_changed_11 : decode cL_changed 11 = .ok (.lastore, 1) := by decide +kernel
theorem dL_changed_12 : decode cL_changed 12 = .ok (.goto 11, 3) := by decide +kernel
theorem dL_changed_15 : decode cL_changed 15 = .ok (.astore 5, 2) := by decide +kernel
theorem dL_changed_17 : decode cL_changed 17 = .ok (.iconst 1, 1) := by decide +kernel
theorem dL_changed_18 : decode cL_changed 18 = .ok (.ireturn, 1) := by decide +kernel
theorem dL_changed_19 : decode cL_changed 19 = .ok (.astore 5, 2) := by decide +kernel
theorem dL_changed_21 : decode cL_changed 21 = .ok (.iconst 2, 1) := by decide +kernel
theorem dL_changed_22 : decode cL_changed 22 = .ok (.ireturn, 1) := by decide +kernel
theorem dL_changed_23 : decode cL_changed 23 = .ok (.iconst 0, 1) := by decide +kernel
theorem dL_changed_24 : decode cL_changed 24 = .ok (.ireturn, 1) := by decide +kernel
theorem dL_log_0 : decode cL_log 0 = .ok (.aload_n 3, 1) := by decide +kernel
theorem dL_log_1 : decode cL_log 1 = .ok (.iconst 0, 1) := by decide +kernel
theorem dL_log_2 : decode cL_log 2 = .ok (.aload_n 0, 1) := by decide +kernel
theorem dL_log_3 : decode cL_log 3 = .ok (.iload_n 1, 1) := by decide +kernel
theorem dL_log_4 : decode cL_log 4 = .ok (.iload_n 2, 1) := by decide +kernel
theorem dL_log_5 : decode cL_log 5 = .ok (.invokevirtual 113, 3) := by decide +kernel
theorem dL_log_8 : decode cL_log 8 = .ok (.i2l, 1) := by decide +kernel
theorem dL_log_9 : decode cL_log 9 = .ok (.lastore, 1) := by decide +kernel
theorem dL_log_10 : decode cL_log 10 = .ok (.goto 7, 3) := by decide +kernel
theorem dL_log_13 : decode cL_log 13 = .ok (.astore 4, 2) := by decide +kernel
theorem dL_log_15 : decode cL_log 15 = .ok (.iconst 1, 1) := by decide +kernel
theorem dL_log_16 : decode cL_log 16 = .ok (.ireturn, 1) := by decide +kernel
theorem dL_log_17 : decode cL_log 17 = .ok (.iconst 0, 1) := by decide +kernel
theorem dL_log_18 : decode cL_log 18 = .ok (.ireturn, 1) := by decide +kernel
theorem dL_led_0 : decode cL_led 0 = .ok (.aload_n 3, 1) := by decide +kernel
theorem dL_led_1 : decode cL_led 1 = .ok (.iconst 0, 1) := by decide +kernel
theorem dL_led_2 : decode cL_led 2 = .ok (.aload_n 0, 1) := by decide +kernel
theorem dL_led_3 : decode cL_led 3 = .ok (.iload_n 1, 1) := by decide +kernel
theorem dL_led_4 : decode cL_led 4 = .ok (.iload_n 2, 1) := by decide +kernel
theorem dL_led_5 : decode cL_led 5 = .ok (.invokevirtual 116, 3) := by decide +kernel
theorem dL_led_8 : decode cL_led 8 = .ok (.i2l, 1) := by decide +kernel
theorem dL_led_9 : decode cL_led 9 = .ok (.lastore, 1) := by decide +kernel
theorem dL_led_10 : decode cL_led 10 = .ok (.goto 11, 3) := by decide +kernel
theorem dL_led_13 : decode cL_led 13 = .ok (.astore 4, 2) := by decide +kernel
theorem dL_led_15 : decode cL_led 15 = .ok (.iconst 1, 1) := by decide +kernel
theorem dL_led_16 : decode cL_led 16 = .ok (.ireturn, 1) := by decide +kernel
theorem dL_led_17 : decode cL_led 17 = .ok (.astore 4, 2) := by decide +kernel
theorem dL_led_19 : decode cL_led 19 = .ok (.iconst 2, 1) := by decide +kernel
theorem dL_led_20 : decode cL_led 20 = .ok (.ireturn, 1) := by decide +kernel
theorem dL_led_21 : decode cL_led 21 = .ok (.iconst 0, 1) := by decide +kernel
theorem dL_led_22 : decode cL_led 22 = .ok (.ireturn, 1) := by decide +kernel
