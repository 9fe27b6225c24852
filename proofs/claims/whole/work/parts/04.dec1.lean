theorem dX2_init_0 : decode cX2_init 0 = .ok (.aload_n 0, 1) := by decide +kernel
theorem dX2_init_1 : decode cX2_init 1 = .ok (.invokespecial 3, 3) := by decide +kernel
theorem dX2_init_4 : decode cX2_init 4 = .ok (.aload_n 0, 1) := by decide +kernel
theorem dX2_init_5 : decode cX2_init 5 = .ok (.sipush 400, 3) := by decide +kernel
theorem dX2_init_8 : decode cX2_init 8 = .ok (.newarray .int, 2) := by decide +kernel
theorem dX2_init_10 : decode cX2_init 10 = .ok (.putfield 9, 3) := by decide +kernel
theorem dX2_init_13 : decode cX2_init 13 = .ok (.aload_n 0, 1) := by decide +kernel
theorem dX2_init_14 : decode cX2_init 14 = .ok (.bipush 13, 2) := by decide +kernel
theorem dX2_init_16 : decode cX2_init 16 = .ok (.newarray .int, 2) := by decide +kernel
theorem dX2_init_18 : decode cX2_init 18 = .ok (.putfield 15, 3) := by decide +kernel
theorem dX2_init_21 : decode cX2_init 21 = .ok (.aload_n 0, 1) := by decide +kernel
theorem dX2_init_22 : decode cX2_init 22 = .ok (.bipush 12, 2) := by decide +kernel
theorem dX2_init_24 : decode cX2_init 24 = .ok (.newarray .int, 2) := by decide +kernel
theorem dX2_init_26 : decode cX2_init 26 = .ok (.putfield 18, 3) := by decide +kernel
theorem dX2_init_29 : decode cX2_init 29 = .ok (.aload_n 0, 1) := by decide +kernel
theorem dX2_init_30 : decode cX2_init 30 = .ok (.bipush 12, 2) := by decide +kernel
theorem dX2_init_32 : decode cX2_init 32 = .ok (.newarray .int, 2) := by decide +kernel
theorem dX2_init_34 : decode cX2_init 34 = .ok (.putfield 21, 3) := by decide +kernel
theorem dX2_init_37 : decode cX2_init 37 = .ok (.aload_n 0, 1) := by decide +kernel
theorem dX2_init_38 : decode cX2_init 38 = .ok (.bipush 40, 2) := by decide +kernel
theorem dX2_init_40 : decode cX2_init 40 = .ok (.newarray .int, 2) := by decide +kernel
theorem dX2_init_42 : decode cX2_init 42 = .ok (.putfield 24, 3) := by decide +kernel
theorem dX2_init_45 : decode cX2_init 45 = .ok (.aload_n 0, 1) := by decide +kernel
theorem dX2_init_46 : decode cX2_init 46 = .ok (.iconst (-1), 1) := by decide +kernel
theorem dX2_init_47 : decode cX2_init 47 = .ok (.putfield 27, 3) := by decide +kernel
theorem dX2_init_50 : decode cX2_init 50 = .ok (.return_, 1) := by decide +kernel
theorem dX2_copyFrom_0 : decode cX2_copyFrom 0 = .ok (.aload_n 1, 1) := by decide +kernel
theorem dX2_copyFrom_1 : decode cX2_copyFrom 1 = .ok (.getfield 9, 3) := by decide +kernel
theorem dX2_copyFrom_4 : decode cX2_copyFrom 4 = .ok (.iconst 0, 1) := by decide +kernel
theorem dX2_copyFrom_5 : decode cX2_copyFrom 5 = .ok (.aload_n 0, 1) := by decide +kernel
theorem dX2_copyFrom_6 : decode cX2_copyFrom 6 = .ok (.getfield 9, 3) := by decide +kernel
theorem dX2_copyFrom_9 : decode cX2_copyFrom 9 = .ok (.iconst 0, 1) := by decide +kernel
theorem dX2_copyFrom_10 : decode cX2_copyFrom 10 = .ok (.sipush 400, 3) := by decide +kernel
theorem dX2_copyFrom_13 : decode cX2_copyFrom 13 = .ok (.invokestatic 31, 3) := by decide +kernel
theorem dX2_copyFrom_16 : decode cX2_copyFrom 16 = .ok (.aload_n 1, 1) := by decide +kernel
theorem dX2_copyFrom_17 : decode cX2_copyFrom 17 = .ok (.getfield 15, 3) := by decide +kernel
theorem dX2_copyFrom_20 : decode cX2_copyFrom 20 = .ok (.iconst 0, 1) := by decide +kernel
theorem dX2_copyFrom_21 : decode cX2_copyFrom 21 = .ok (.aload_n 0, 1) := by decide +kernel
theorem dX2_copyFrom_22 : decode cX2_copyFrom 22 = .ok (.getfield 15, 3) := by decide +kernel
theorem dX2_copyFrom_25 : decode cX2_copyFrom 25 = .ok (.iconst 0, 1) := by decide +kernel
theorem dX2_copyFrom_26 : decode cX2_copyFrom 26 = .ok (.bipush 13, 2) := by decide +kernel
theorem dX2_copyFrom_28 : decode cX2_copyFrom 28 = .ok (.invokestatic 31, 3) := by decide +kernel
theorem dX2_copyFrom_31 : decode cX2_copyFrom 31 = .ok (.aload_n 1, 1) := by decide +kernel
theorem dX2_copyFrom_32 : decode cX2_copyFrom 32 = .ok (.getfield 18, 3) := by decide +kernel
theorem dX2_copyFrom_35 : decode cX2_copyFrom 35 = .ok (.iconst 0, 1) := by decide +kernel
theorem dX2_copyFrom_36 : decode cX2_copyFrom 36 = .ok (.aload_n 0, 1) := by decide +kernel
theorem dX2_copyFrom_37 : decode cX2_copyFrom 37 = .ok (.getfield 18, 3) := by decide +kernel
theorem dX2_copyFrom_40 : decode cX2_copyFrom 40 = .ok (.iconst 0, 1) := by decide +kernel
theorem dX2_copyFrom_41 : decode cX2_copyFrom 41 = .ok (.bipush 12, 2) := by decide +kernel
theorem dX2_copyFrom_43 : decode cX2_copyFrom 43 = .ok (.invokestatic 31, 3) := by decide +kernel
theorem dX2_copyFrom_46 : decode cX2_copyFrom 46 = .ok (.aload_n 1, 1) := by decide +kernel
theorem dX2_copyFrom_47 : decode cX2_copyFrom 47 = .ok (.getfield 21, 3) := by decide +kernel
theorem dX2_copyFrom_50 : decode cX2_copyFrom 50 = .ok (.iconst 0, 1) := by decide +kernel
theorem dX2_copyFrom_51 : decode cX2_copyFrom 51 = .ok (.aload_n 0, 1) := by decide +kernel
theorem dX2_copyFrom_52 : decode cX2_copyFrom 52 = .ok (.getfield 21, 3) := by decide +kernel
theorem dX2_copyFrom_55 : decode cX2_copyFrom 55 = .ok (.iconst 0, 1) := by decide +kernel
theorem dX2_copyFrom_56 : decode cX2_copyFrom 56 = .ok (.bipush 12, 2) := by decide +kernel
theorem dX2_copyFrom_58 : decode cX2_copyFrom 58 = .ok (.invokestatic 31, 3) := by decide +kernel
theorem dX2_copyFrom_61 : decode cX2_copyFrom 61 = .ok (.aload_n 0, 1) := by decide +kernel
theorem dX2_copyFrom_62 : decode cX2_copyFrom 62 = .ok (.aload_n 1, 1) := by decide +kernel
theorem dX2_copyFrom_63 : decode cX2_copyFrom 63 = .ok (.getfield 27, 3) := by decide +kernel
theorem dX2_copyFrom_66 : decode cX2_copyFrom 66 = .ok (.putfield 27, 3) := by decide +kernel
theorem dX2_copyFrom_69 : decode cX2_copyFrom 69 = .ok (.return_, 1) := by decide +kernel
theorem dX2_clearLines_0 : decode cX2_clearLines 0 = .ok (.aload_n 0, 1) := by decide +kernel
theorem dX2_clearLines_1 : decode cX2_clearLines 1 = .ok (.iconst 0, 1) := by decide +kernel
theorem dX2_clearLines_2 : decode cX2_clearLines 2 = .ok (.putfield 27, 3) := by decide +kernel
theorem dX2_clearLines_5 : decode cX2_clearLines 5 = .ok (.aload_n 0, 1) := by decide +kernel
theorem dX2_clearLines_6 : decode cX2_clearLines 6 = .ok (.getfield 15, 3) := by decide +kernel
theorem dX2_clearLines_9 : decode cX2_clearLines 9 = .ok (.iconst 0, 1) := by decide +kernel
theorem dX2_clearLines_10 : decode cX2_clearLines 10 = .ok (.iconst 0, 1) := by decide +kernel
theorem dX2_clearLines_11 : decode cX2_clearLines 11 = .ok (.iastore, 1) := by decide +kernel
theorem dX2_clearLines_12 : decode cX2_clearLines 12 = .ok (.return_, 1) := by decide +kernel
theorem dX2_addLine_0 : decode cX2_addLine 0 = .ok (.aload_n 0, 1) := by decide +kernel
theorem dX2_addLine_1 : decode cX2_addLine 1 = .ok (.getfield 27, 3) := by decide +kernel
theorem dX2_addLine_4 : decode cX2_addLine 4 = .ok (.ifCond .lt 62, 3) := by decide +kernel
theorem dX2_addLine_7 : decode cX2_addLine 7 = .ok (.aload_n 0, 1) := by decide +kernel
theorem dX2_addLine_8 : decode cX2_addLine 8 = .ok (.getfield 27, 3) := by decide +kernel
theorem dX2_addLine_11 : decode cX2_addLine 11 = .ok (.bipush 12, 2) := by decide +kernel
theorem dX2_addLine_13 : decode cX2_addLine 13 = .ok (.if_icmp .ge 53, 3) := by decide +kernel
theorem dX2_addLine_16 : decode cX2_addLine 16 = .ok (.aload_n 0, 1) := by decide +kernel
theorem dX2_addLine_17 : decode cX2_addLine 17 = .ok (.getfield 18, 3) := by decide +kernel
theorem dX2_addLine_20 : decode cX2_addLine 20 = .ok (.aload_n 0, 1) := by decide +kernel
theorem dX2_addLine_21 : decode cX2_addLine 21 = .ok (.getfield 27, 3) := by decide +kernel
theorem dX2_addLine_24 : decode cX2_addLine 24 = .ok (.iload_n 1, 1) := by decide +kernel
theorem dX2_addLine_25 : decode cX2_addLine 25 = .ok (.iastore, 1) := by decide +kernel
theorem dX2_addLine_26 : decode cX2_addLine 26 = .ok (.aload_n 0, 1) := by decide +kernel
theorem dX2_addLine_27 : decode cX2_addLine 27 = .ok (.getfield 21, 3) := by decide +kernel
theorem dX2_addLine_30 : decode cX2_addLine 30 = .ok (.aload_n 0, 1) := by decide +kernel
theorem dX2_addLine_31 : decode cX2_addLine 31 = .ok (.getfield 27, 3) := by decide +kernel
theorem dX2_addLine_34 : decode cX2_addLine 34 = .ok (.iload_n 2, 1) := by decide +kernel
theorem dX2_addLine_35 : decode cX2_addLine 35 = .ok (.iastore, 1) := by decide +kernel
theorem dX2_addLine_36 : decode cX2_addLine 36 = .ok (.aload_n 0, 1) := by decide +kernel
theorem dX2_addLine_37 : decode cX2_addLine 37 = .ok (.getfield 15, 3) := by decide +kernel
theorem dX2_addLine_40 : decode cX2_addLine 40 = .ok (.aload_n 0, 1) := by decide +kernel
theorem dX2_addLine_41 : decode cX2_addLine 41 = .ok (.getfield 27, 3) := by decide +kernel
theorem dX2_addLine_44 : decode cX2_addLine 44 = .ok (.iconst 1, 1) := by decide +kernel
theorem dX2_addLine_45 : decode cX2_addLine 45 = .ok (.iadd, 1) := by decide +kernel
theorem dX2_addLine_46 : decode cX2_addLine 46 = .ok (.aload_n 0, 1) := by decide +kernel
theorem dX2_addLine_47 : decode cX2_addLine 47 = .ok (.getfield 15, 3) := by decide +kernel
theorem dX2_addLine_50 : decode cX2_addLine 50 = .ok (.aload_n 0, 1) := by decide +kernel
theorem dX2_addLine_51 : decode cX2_addLine 51 = .ok (.getfield 27, 3) := by decide +kernel
theorem dX2_addLine_54 : decode cX2_addLine 54 = .ok (.iaload, 1) := by decide +kernel
theorem dX2_addLine_55 : decode cX2_addLine 55 = .ok (.iastore, 1) := by decide +kernel
theorem dX2_addLine_56 : decode cX2_addLine 56 = .ok (.aload_n 0, 1) := by decide +kernel
theorem dX2_addLine_57 : decode cX2_addLine 57 = .ok (.dup, 1) := by decide +kernel
theorem dX2_addLine_58 : decode cX2_addLine 58 = .ok (.getfield 27, 3) := by decide +kernel
theorem dX2_addLine_61 : decode cX2_addLine 61 = .ok (.iconst 1, 1) := by decide +kernel
theorem dX2_addLine_62 : decode cX2_addLine 62 = .ok (.iadd, 1) := by decide +kernel
theorem dX2_addLine_63 : decode cX2_addLine 63 = .ok (.putfield 27, 3) := by decide +kernel
theorem dX2_addLine_66 : decode cX2_addLine 66 = .ok (.return_, 1) := by decide +kernel
theorem dX2_addWord_0 : decode cX2_addWord 0 = .ok (.aload_n 0, 1) := by decide +kernel
theorem dX2_addWord_1 : decode cX2_addWord 1 = .ok (.getfield 27, 3) := by decide +kernel
theorem dX2_addWord_4 : decode cX2_addWord 4 = .ok (.ifCond .le 46, 3) := by decide +kernel
theorem dX2_addWord_7 : decode cX2_addWord 7 = .ok (.aload_n 0, 1) := by decide +kernel
theorem dX2_addWord_8 : decode cX2_addWord 8 = .ok (.getfield 15, 3) := by decide +kernel
theorem dX2_addWord_11 : decode cX2_addWord 11 = .ok (.aload_n 0, 1) := by decide +kernel
theorem dX2_addWord_12 : decode cX2_addWord 12 = .ok (.getfield 27, 3) := by decide +kernel
theorem dX2_addWord_15 : decode cX2_addWord 15 = .ok (.iaload, 1) := by decide +kernel
theorem dX2_addWord_16 : decode cX2_addWord 16 = .ok (.sipush 400, 3) := by decide +kernel
theorem dX2_addWord_19 : decode cX2_addWord 19 = .ok (.if_icmp .ge 31, 3) := by decide +kernel
theorem dX2_addWord_22 : decode cX2_addWord 22 = .ok (.aload_n 0, 1) := by decide +kernel
theorem dX2_addWord_23 : decode cX2_addWord 23 = .ok (.getfield 9, 3) := by decide +kernel
theorem dX2_addWord_26 : decode cX2_addWord 26 = .ok (.aload_n 0, 1) := by decide +kernel
theorem dX2_addWord_27 : decode cX2_addWord 27 = .ok (.getfield 15, 3) := by decide +kernel
theorem dX2_addWord_30 : decode cX2_addWord 30 = .ok (.aload_n 0, 1) := by decide +kernel
theorem dX2_addWord_31 : decode cX2_addWord 31 = .ok (.getfield 27, 3) := by decide +kernel
theorem dX2_addWord_34 : decode cX2_addWord 34 = .ok (.iaload, 1) := by decide +kernel
theorem dX2_addWord_35 : decode cX2_addWord 35 = .ok (.iload_n 1, 1) := by decide +kernel
theorem dX2_addWord_36 : decode cX2_addWord 36 = .ok (.iastore, 1) := by decide +kernel
theorem dX2_addWord_37 : decode cX2_addWord 37 = .ok (.aload_n 0, 1) := by decide +kernel
theorem dX2_addWord_38 : decode cX2_addWord 38 = .ok (.getfield 15, 3) := by decide +kernel
theorem dX2_addWord_41 : decode cX2_addWord 41 = .ok (.aload_n 0, 1) := by decide +kernel
theorem dX2_addWord_42 : decode cX2_addWord 42 = .ok (.getfield 27, 3) := by decide +kernel
theorem dX2_addWord_45 : decode cX2_addWord 45 = .ok (.dup2, 1) := by decide +kernel
theorem dX2_addWord_46 : decode cX2_addWord 46 = .ok (.iaload, 1) := by decide +kernel
theorem dX2_addWord_47 : decode cX2_addWord 47 = .ok (.iconst 1, 1) := by decide +kernel
theorem dX2_addWord_48 : decode cX2_addWord 48 = .ok (.iadd, 1) := by decide +kernel
theorem dX2_addWord_49 : decode cX2_addWord 49 = .ok (.iastore, 1) := by decide +kernel
theorem dX2_addWord_50 : decode cX2_addWord 50 = .ok (.return_, 1) := by decide +kernel
theorem dX2_bars_0 : decode cX2_bars 0 = .ok (.iconst 0, 1) := by decide +kernel
theorem dX2_bars_1 : decode cX2_bars 1 = .ok (.istore_n 2, 1) := by decide +kernel
theorem dX2_bars_2 : decode cX2_bars 2 = .ok (.iload_n 2, 1) := by decide +kernel
theorem dX2_bars_3 : decode cX2_bars 3 = .ok (.aload_n 0, 1) := by decide +kernel
theorem dX2_bars_4 : decode cX2_bars 4 = .ok (.getfield 27, 3) := by decide +kernel
theorem dX2_bars_7 : decode cX2_bars 7 = .ok (.if_icmp .ge 29, 3) := by decide +kernel
theorem dX2_bars_10 : decode cX2_bars 10 = .ok (.aload_n 0, 1) := by decide +kernel
theorem dX2_bars_11 : decode cX2_bars 11 = .ok (.getfield 18, 3) := by decide +kernel
theorem dX2_bars_14 : decode cX2_bars 14 = .ok (.iload_n 2, 1) := by decide +kernel
theorem dX2_bars_15 : decode cX2_bars 15 = .ok (.iaload, 1) := by decide +kernel
theorem dX2_bars_16 : decode cX2_bars 16 = .ok (.ifCond .ne 14, 3) := by decide +kernel
theorem dX2_bars_19 : decode cX2_bars 19 = .ok (.aload_n 0, 1) := by decide +kernel
theorem dX2_bars_20 : decode cX2_bars 20 = .ok (.iload_n 2, 1) := by decide +kernel
theorem dX2_bars_21 : decode cX2_bars 21 = .ok (.aload_n 1, 1) := by decide +kernel
theorem dX2_bars_22 : decode cX2_bars 22 = .ok (.invokevirtual 37, 3) := by decide +kernel
theorem dX2_bars_25 : decode cX2_bars 25 = .ok (.ifCond .eq 5, 3) := by decide +kernel
theorem dX2_bars_28 : decode cX2_bars 28 = .ok (.iconst 1, 1) := by decide +kernel
theorem dX2_bars_29 : decode cX2_bars 29 = .ok (.ireturn, 1) := by decide +kernel
theorem dX2_bars_30 : decode cX2_bars 30 = .ok (.iinc 2 1, 3) := by decide +kernel
theorem dX2_bars_33 : decode cX2_bars 33 = .ok (.goto (-31), 3) := by decide +kernel
theorem dX2_bars_36 : decode cX2_bars 36 = .ok (.iconst 0, 1) := by decide +kernel
theorem dX2_bars_37 : decode cX2_bars 37 = .ok (.ireturn, 1) := by decide +kernel
theorem dX2_sumOfLines_0 : decode cX2_sumOfLines 0 = .ok (.iconst 0, 1) := by decide +kernel
theorem dX2_sumOfLines_1 : decode cX2_sumOfLines 1 = .ok (.istore_n 3, 1) := by decide +kernel
theorem dX2_sumOfLines_2 : decode cX2_sumOfLines 2 = .ok (.iconst 0, 1) := by decide +kernel
theorem dX2_sumOfLines_3 : decode cX2_sumOfLines 3 = .ok (.istore 4, 2) := by decide +kernel
theorem dX2_sumOfLines_5 : decode cX2_sumOfLines 5 = .ok (.iload 4, 2) := by decide +kernel
theorem dX2_sumOfLines_7 : decode cX2_sumOfLines 7 = .ok (.aload_n 0, 1) := by decide +kernel
theorem dX2_sumOfLines_8 : decode cX2_sumOfLines 8 = .ok (.getfield 27, 3) := by decide +kernel
theorem dX2_sumOfLines_11 : decode cX2_sumOfLines 11 = .ok (.if_icmp .ge 40, 3) := by decide +kernel
theorem dX2_sumOfLines_14 : decode cX2_sumOfLines 14 = .ok (.aload_n 0, 1) := by decide +kernel
theorem dX2_sumOfLines_15 : decode cX2_sumOfLines 15 = .ok (.getfield 18, 3) := by decide +kernel
theorem dX2_sumOfLines_18 : decode cX2_sumOfLines 18 = .ok (.iload 4, 2) := by decide +kernel
theorem dX2_sumOfLines_20 : decode cX2_sumOfLines 20 = .ok (.iaload, 1) := by decide +kernel
theorem dX2_sumOfLines_21 : decode cX2_sumOfLines 21 = .ok (.iload_n 1, 1) := by decide +kernel
theorem dX2_sumOfLines_22 : decode cX2_sumOfLines 22 = .ok (.if_icmp .ne 23, 3) := by decide +kernel
theorem dX2_sumOfLines_25 : decode cX2_sumOfLines 25 = .ok (.aload_n 0, 1) := by decide +kernel
theorem dX2_sumOfLines_26 : decode cX2_sumOfLines 26 = .ok (.iload 4, 2) := by decide +kernel
theorem dX2_sumOfLines_28 : decode cX2_sumOfLines 28 = .ok (.aload_n 2, 1) := by decide +kernel
theorem dX2_sumOfLines_29 : decode cX2_sumOfLines 29 = .ok (.invokevirtual 37, 3) := by decide +kernel
theorem dX2_sumOfLines_32 : decode cX2_sumOfLines 32 = .ok (.ifCond .eq 13, 3) := by decide +kernel
theorem dX2_sumOfLines_35 : decode cX2_sumOfLines 35 = .ok (.iload_n 3, 1) := by decide +kernel
theorem dX2_sumOfLines_36 : decode cX2_sumOfLines 36 = .ok (.aload_n 0, 1) := by decide +kernel
theorem dX2_sumOfLines_37 : decode cX2_sumOfLines 37 = .ok (.getfield 21, 3) := by decide +kernel
theorem dX2_sumOfLines_40 : decode cX2_sumOfLines 40 = .ok (.iload 4, 2) := by decide +kernel
theorem dX2_sumOfLines_42 : decode cX2_sumOfLines 42 = .ok (.iaload, 1) := by decide +kernel
theorem dX2_sumOfLines_43 : decode cX2_sumOfLines 43 = .ok (.iadd, 1) := by decide +kernel
theorem dX2_sumOfLines_44 : decode cX2_sumOfLines 44 = .ok (.istore_n 3, 1) := by decide +kernel
theorem dX2_sumOfLines_45 : decode cX2_sumOfLines 45 = .ok (.iinc 4 1, 3) := by decide +kernel
theorem dX2_sumOfLines_48 : decode cX2_sumOfLines 48 = .ok (.goto (-43), 3) := by decide +kernel
theorem dX2_sumOfLines_51 : decode cX2_sumOfLines 51 = .ok (.iload_n 3, 1) := by decide +kernel
theorem dX2_sumOfLines_52 : decode cX2_sumOfLines 52 = .ok (.ireturn, 1) := by decide +kernel
theorem dX2_holds_0 : decode cX2_holds 0 = .ok (.iconst 0, 1) := by decide +kernel
theorem dX2_holds_1 : decode cX2_holds 1 = .ok (.istore_n 3, 1) := by decide +kernel
theorem dX2_holds_2 : decode cX2_holds 2 = .ok (.aload_n 0, 1) := by decide +kernel
theorem dX2_holds_3 : decode cX2_holds 3 = .ok (.getfield 15, 3) := by decide +kernel
theorem dX2_holds_6 : decode cX2_holds 6 = .ok (.iload_n 1, 1) := by decide +kernel
theorem dX2_holds_7 : decode cX2_holds 7 = .ok (.iaload, 1) := by decide +kernel
theorem dX2_holds_8 : decode cX2_holds 8 = .ok (.istore 4, 2) := by decide +kernel
theorem dX2_holds_10 : decode cX2_holds 10 = .ok (.iload 4, 2) := by decide +kernel
theorem dX2_holds_12 : decode cX2_holds 12 = .ok (.aload_n 0, 1) := by decide +kernel
theorem dX2_holds_13 : decode cX2_holds 13 = .ok (.getfield 15, 3) := by decide +kernel
theorem dX2_holds_16 : decode cX2_holds 16 = .ok (.iload_n 1, 1) := by decide +kernel
theorem dX2_holds_17 : decode cX2_holds 17 = .ok (.iconst 1, 1) := by decide +kernel
theorem dX2_holds_18 : decode cX2_holds 18 = .ok (.iadd, 1) := by decide +kernel
theorem dX2_holds_19 : decode cX2_holds 19 = .ok (.iaload, 1) := by decide +kernel
theorem dX2_holds_20 : decode cX2_holds 20 = .ok (.if_icmp .ge 126, 3) := by decide +kernel
theorem dX2_holds_23 : decode cX2_holds 23 = .ok (.aload_n 0, 1) := by decide +kernel
theorem dX2_holds_24 : decode cX2_holds 24 = .ok (.getfield 9, 3) := by decide +kernel
theorem dX2_holds_27 : decode cX2_holds 27 = .ok (.iload 4, 2) := by decide +kernel
theorem dX2_holds_29 : decode cX2_holds 29 = .ok (.iaload, 1) := by decide +kernel
theorem dX2_holds_30 : decode cX2_holds 30 = .ok (.istore 5, 2) := by decide +kernel
theorem dX2_holds_32 : decode cX2_holds 32 = .ok (.iload 5, 2) := by decide +kernel
theorem dX2_holds_34 : decode cX2_holds 34 = .ok (.bipush (-8), 2) := by decide +kernel
theorem dX2_holds_36 : decode cX2_holds 36 = .ok (.if_icmp .lt 37, 3) := by decide +kernel
theorem dX2_holds_39 : decode cX2_holds 39 = .ok (.iload_n 3, 1) := by decide +kernel
theorem dX2_holds_40 : decode cX2_holds 40 = .ok (.bipush 40, 2) := by decide +kernel
theorem dX2_holds_42 : decode cX2_holds 42 = .ok (.if_icmp .ge 98, 3) := by decide +kernel
theorem dX2_holds_45 : decode cX2_holds 45 = .ok (.aload_n 0, 1) := by decide +kernel
theorem dX2_holds_46 : decode cX2_holds 46 = .ok (.getfield 24, 3) := by decide +kernel
theorem dX2_holds_49 : decode cX2_holds 49 = .ok (.iload_n 3, 1) := by decide +kernel
theorem dX2_holds_50 : decode cX2_holds 50 = .ok (.iload 5, 2) := by decide +kernel
theorem dX2_holds_52 : decode cX2_holds 52 = .ok (.ifCond .lt 8, 3) := by decide +kernel
theorem dX2_holds_55 : decode cX2_holds 55 = .ok (.iload 5, 2) := by decide +kernel
theorem dX2_holds_57 : decode cX2_holds 57 = .ok (.goto 9, 3) := by decide +kernel
theorem dX2_holds_60 : decode cX2_holds 60 = .ok (.aload_n 2, 1) := by decide +kernel
theorem dX2_holds_61 : decode cX2_holds 61 = .ok (.iconst (-1), 1) := by decide +kernel
theorem dX2_holds_62 : decode cX2_holds 62 = .ok (.iload 5, 2) := by decide +kernel
theorem dX2_holds_64 : decode cX2_holds 64 = .ok (.isub, 1) := by decide +kernel
theorem dX2_holds_65 : decode cX2_holds 65 = .ok (.iaload, 1) := by decide +kernel
theorem dX2_holds_66 : decode cX2_holds 66 = .ok (.iastore, 1) := by decide +kernel
theorem dX2_holds_67 : decode cX2_holds 67 = .ok (.iinc 3 1, 3) := by decide +kernel
theorem dX2_holds_70 : decode cX2_holds 70 = .ok (.goto 70, 3) := by decide +kernel
theorem dX2_holds_73 : decode cX2_holds 73 = .ok (.iload 5, 2) := by decide +kernel
theorem dX2_holds_75 : decode cX2_holds 75 = .ok (.bipush (-12), 2) := by decide +kernel
theorem dX2_holds_77 : decode cX2_holds 77 = .ok (.if_icmp .ne 28, 3) := by decide +kernel
theorem dX2_holds_80 : decode cX2_holds 80 = .ok (.iload_n 3, 1) := by decide +kernel
theorem dX2_holds_81 : decode cX2_holds 81 = .ok (.ifCond .le 59, 3) := by decide +kernel
theorem dX2_holds_84 : decode cX2_holds 84 = .ok (.aload_n 0, 1) := by decide +kernel
theorem dX2_holds_85 : decode cX2_holds 85 = .ok (.getfield 24, 3) := by decide +kernel
theorem dX2_holds_88 : decode cX2_holds 88 = .ok (.iload_n 3, 1) := by decide +kernel
theorem dX2_holds_89 : decode cX2_holds 89 = .ok (.iconst 1, 1) := by decide +kernel
theorem dX2_holds_90 : decode cX2_holds 90 = .ok (.isub, 1) := by decide +kernel
theorem dX2_holds_91 : decode cX2_holds 91 = .ok (.iconst 1, 1) := by decide +kernel
theorem dX2_holds_92 : decode cX2_holds 92 = .ok (.aload_n 0, 1) := by decide +kernel
theorem dX2_holds_93 : decode cX2_holds 93 = .ok (.getfield 24, 3) := by decide +kernel
theorem dX2_holds_96 : decode cX2_holds 96 = .ok (.iload_n 3, 1) := by decide +kernel
theorem dX2_holds_97 : decode cX2_holds 97 = .ok (.iconst 1, 1) := by decide +kernel
theorem dX2_holds_98 : decode cX2_holds 98 = .ok (.isub, 1) := by decide +kernel
theorem dX2_holds_99 : decode cX2_holds 99 = .ok (.iaload, 1) := by decide +kernel
theorem dX2_holds_100 : decode cX2_holds 100 = .ok (.isub, 1) := by decide +kernel
theorem dX2_holds_101 : decode cX2_holds 101 = .ok (.iastore, 1) := by decide +kernel
theorem dX2_holds_102 : decode cX2_holds 102 = .ok (.goto 38, 3) := by decide +kernel
theorem dX2_holds_105 : decode cX2_holds 105 = .ok (.iload_n 3, 1) := by decide +kernel
theorem dX2_holds_106 : decode cX2_holds 106 = .ok (.iconst 1, 1) := by decide +kernel
theorem dX2_holds_107 : decode cX2_holds 107 = .ok (.if_icmp .le 33, 3) := by decide +kernel
theorem dX2_holds_110 : decode cX2_holds 110 = .ok (.iinc 3 (-1), 3) := by decide +kernel
theorem dX2_holds_113 : decode cX2_holds 113 = .ok (.aload_n 0, 1) := by decide +kernel
theorem dX2_holds_114 : decode cX2_holds 114 = .ok (.getfield 24, 3) := by decide +kernel
theorem dX2_holds_117 : decode cX2_holds 117 = .ok (.iload_n 3, 1) := by decide +kernel
theorem dX2_holds_118 : decode cX2_holds 118 = .ok (.iconst 1, 1) := by decide +kernel
theorem dX2_holds_119 : decode cX2_holds 119 = .ok (.isub, 1) := by decide +kernel
theorem dX2_holds_120 : decode cX2_holds 120 = .ok (.iload 5, 2) := by decide +kernel
theorem dX2_holds_122 : decode cX2_holds 122 = .ok (.aload_n 0, 1) := by decide +kernel
theorem dX2_holds_123 : decode cX2_holds 123 = .ok (.getfield 24, 3) := by decide +kernel
theorem dX2_holds_126 : decode cX2_holds 126 = .ok (.iload_n 3, 1) := by decide +kernel
theorem dX2_holds_127 : decode cX2_holds 127 = .ok (.iconst 1, 1) := by decide +kernel
theorem dX2_holds_128 : decode cX2_holds 128 = .ok (.isub, 1) := by decide +kernel
theorem dX2_holds_129 : decode cX2_holds 129 = .ok (.iaload, 1) := by decide +kernel
theorem dX2_holds_130 : decode cX2_holds 130 = .ok (.aload_n 0, 1) := by decide +kernel
theorem dX2_holds_131 : decode cX2_holds 131 = .ok (.getfield 24, 3) := by decide +kernel
theorem dX2_holds_134 : decode cX2_holds 134 = .ok (.iload_n 3, 1) := by decide +kernel
theorem dX2_holds_135 : decode cX2_holds 135 = .ok (.iaload, 1) := by decide +kernel
theorem dX2_holds_136 : decode cX2_holds 136 = .ok (.invokestatic 41, 3) := by decide +kernel
theorem dX2_holds_139 : decode cX2_holds 139 = .ok (.iastore, 1) := by decide +kernel
theorem dX2_holds_140 : decode cX2_holds 140 = .ok (.iinc 4 1, 3) := by decide +kernel
theorem dX2_holds_143 : decode cX2_holds 143 = .ok (.goto (-133), 3) := by decide +kernel
theorem dX2_holds_146 : decode cX2_holds 146 = .ok (.iload_n 3, 1) := by decide +kernel
theorem dX2_holds_147 : decode cX2_holds 147 = .ok (.ifCond .eq 12, 3) := by decide +kernel
theorem dX2_holds_150 : decode cX2_holds 150 = .ok (.aload_n 0, 1) := by decide +kernel
theorem dX2_holds_151 : decode cX2_holds 151 = .ok (.getfield 24, 3) := by decide +kernel
theorem dX2_holds_154 : decode cX2_holds 154 = .ok (.iconst 0, 1) := by decide +kernel
theorem dX2_holds_155 : decode cX2_holds 155 = .ok (.iaload, 1) := by decide +kernel
theorem dX2_holds_156 : decode cX2_holds 156 = .ok (.ifCond .eq 7, 3) := by decide +kernel
theorem dX2_holds_159 : decode cX2_holds 159 = .ok (.iconst 1, 1) := by decide +kernel
theorem dX2_holds_160 : decode cX2_holds 160 = .ok (.goto 4, 3) := by decide +kernel
theorem dX2_holds_163 : decode cX2_holds 163 = .ok (.iconst 0, 1) := by decide +kernel
theorem dX2_holds_164 : decode cX2_holds 164 = .ok (.ireturn, 1) := by decide +kernel
theorem dX2_join_0 : decode cX2_join 0 = .ok (.iload_n 0, 1) := by decide +kernel
theorem dX2_join_1 : decode cX2_join 1 = .ok (.tableswitch 65 (-13) (-9) #[61, 65, 50, 39, 35], 35) := by decide +kernel
theorem dX2_join_36 : decode cX2_join 36 = .ok (.iload_n 1, 1) := by decide +kernel
theorem dX2_join_37 : decode cX2_join 37 = .ok (.iload_n 2, 1) := by decide +kernel
theorem dX2_join_38 : decode cX2_join 38 = .ok (.iadd, 1) := by decide +kernel
theorem dX2_join_39 : decode cX2_join 39 = .ok (.ireturn, 1) := by decide +kernel
theorem dX2_join_40 : decode cX2_join 40 = .ok (.iload_n 1, 1) := by decide +kernel
theorem dX2_join_41 : decode cX2_join 41 = .ok (.iload_n 2, 1) := by decide +kernel
theorem dX2_join_42 : decode cX2_join 42 = .ok (.if_icmp .ge 7, 3) := by decide +kernel
theorem dX2_join_45 : decode cX2_join 45 = .ok (.iconst 1, 1) := by decide +kernel
theorem dX2_join_46 : decode cX2_join 46 = .ok (.goto 4, 3) := by decide +kernel
theorem dX2_join_49 : decode cX2_join 49 = .ok (.iconst 0, 1) := by decide +kernel
theorem dX2_join_50 : decode cX2_join 50 = .ok (.ireturn, 1) := by decide +kernel
theorem dX2_join_51 : decode cX2_join 51 = .ok (.iload_n 1, 1) := by decide +kernel
theorem dX2_join_52 : decode cX2_join 52 = .ok (.iload_n 2, 1) := by decide +kernel
theorem dX2_join_53 : decode cX2_join 53 = .ok (.if_icmp .le 7, 3) := by decide +kernel
theorem dX2_join_56 : decode cX2_join 56 = .ok (.iconst 1, 1) := by decide +kernel
theorem dX2_join_57 : decode cX2_join 57 = .ok (.goto 4, 3) := by decide +kernel
theorem dX2_join_60 : decode cX2_join 60 = .ok (.iconst 0, 1) := by decide +kernel
theorem dX2_join_61 : decode cX2_join 61 = .ok (.ireturn, 1) := by decide +kernel
theorem dX2_join_62 : decode cX2_join 62 = .ok (.iload_n 1, 1) := by decide +kernel
theorem dX2_join_63 : decode cX2_join 63 = .ok (.iload_n 2, 1) := by decide +kernel
theorem dX2_join_64 : decode cX2_join 64 = .ok (.iand, 1) := by decide +kernel
theorem dX2_join_65 : decode cX2_join 65 = .ok (.ireturn, 1) := by decide +kernel
theorem dX2_join_66 : decode cX2_join 66 = .ok (.iload_n 1, 1) := by decide +kernel
theorem dX2_join_67 : decode cX2_join 67 = .ok (.iload_n 2, 1) := by decide +kernel
theorem dX2_join_68 : decode cX2_join 68 = .ok (.ior, 1) := by decide +kernel
theorem dX2_join_69 : decode cX2_join 69 = .ok (.ireturn, 1) := by decide +kernel
theorem dX4_init_0 : decode cX4_init 0 = .ok (.aload_n 0, 1) := by decide +kernel
theorem dX4_init_1 : decode cX4_init 1 = .ok (.invokespecial 3, 3) := by decide +kernel
theorem dX4_init_4 : decode cX4_init 4 = .ok (.aload_n 0, 1) := by decide +kernel
theorem dX4_init_5 : decode cX4_init 5 = .ok (.bipush 10, 2) := by decide +kernel
theorem dX4_init_7 : decode cX4_init 7 = .ok (.newarray .int, 2) := by decide +kernel
theorem dX4_init_9 : decode cX4_init 9 = .ok (.putfield 9, 3) := by decide +kernel
theorem dX4_init_12 : decode cX4_init 12 = .ok (.aload_n 0, 1) := by decide +kernel
theorem dX4_init_13 : decode cX4_init 13 = .ok (.bipush 10, 2) := by decide +kernel
theorem dX4_init_15 : decode cX4_init 15 = .ok (.newarray .int, 2) := by decide +kernel
theorem dX4_init_17 : decode cX4_init 17 = .ok (.putfield 15, 3) := by decide +kernel
theorem dX4_init_20 : decode cX4_init 20 = .ok (.aload_n 0, 1) := by decide +kernel
theorem dX4_init_21 : decode cX4_init 21 = .ok (.bipush 10, 2) := by decide +kernel
theorem dX4_init_23 : decode cX4_init 23 = .ok (.newarray .int, 2) := by decide +kernel
theorem dX4_init_25 : decode cX4_init 25 = .ok (.putfield 18, 3) := by decide +kernel
theorem dX4_init_28 : decode cX4_init 28 = .ok (.aload_n 0, 1) := by decide +kernel
theorem dX4_init_29 : decode cX4_init 29 = .ok (.sipush 168, 3) := by decide +kernel
theorem dX4_init_32 : decode cX4_init 32 = .ok (.newarray .int, 2) := by decide +kernel
theorem dX4_init_34 : decode cX4_init 34 = .ok (.putfield 21, 3) := by decide +kernel
theorem dX4_init_37 : decode cX4_init 37 = .ok (.aload_n 0, 1) := by decide +kernel
theorem dX4_init_38 : decode cX4_init 38 = .ok (.bipush 8, 2) := by decide +kernel
theorem dX4_init_40 : decode cX4_init 40 = .ok (.newarray .int, 2) := by decide +kernel
theorem dX4_init_42 : decode cX4_init 42 = .ok (.putfield 24, 3) := by decide +kernel
theorem dX4_init_45 : decode cX4_init 45 = .ok (.aload_n 0, 1) := by decide +kernel
theorem dX4_init_46 : decode cX4_init 46 = .ok (.bipush 8, 2) := by decide +kernel
theorem dX4_init_48 : decode cX4_init 48 = .ok (.newarray .int, 2) := by decide +kernel
theorem dX4_init_50 : decode cX4_init 50 = .ok (.putfield 27, 3) := by decide +kernel
theorem dX4_init_53 : decode cX4_init 53 = .ok (.aload_n 0, 1) := by decide +kernel
theorem dX4_init_54 : decode cX4_init 54 = .ok (.bipush 8, 2) := by decide +kernel
theorem dX4_init_56 : decode cX4_init 56 = .ok (.newarray .int, 2) := by decide +kernel
theorem dX4_init_58 : decode cX4_init 58 = .ok (.putfield 30, 3) := by decide +kernel
theorem dX4_init_61 : decode cX4_init 61 = .ok (.aload_n 0, 1) := by decide +kernel
theorem dX4_init_62 : decode cX4_init 62 = .ok (.bipush 8, 2) := by decide +kernel
theorem dX4_init_64 : decode cX4_init 64 = .ok (.newarray .int, 2) := by decide +kernel
theorem dX4_init_66 : decode cX4_init 66 = .ok (.putfield 33, 3) := by decide +kernel
theorem dX4_init_69 : decode cX4_init 69 = .ok (.return_, 1) := by decide +kernel
theorem dX4_copyFrom_0 : decode cX4_copyFrom 0 = .ok (.aload_n 1, 1) := by decide +kernel
theorem dX4_copyFrom_1 : decode cX4_copyFrom 1 = .ok (.getfield 9, 3) := by decide +kernel
theorem dX4_copyFrom_4 : decode cX4_copyFrom 4 = .ok (.iconst 0, 1) := by decide +kernel
theorem dX4_copyFrom_5 : decode cX4_copyFrom 5 = .ok (.aload_n 0, 1) := by decide +kernel
theorem dX4_copyFrom_6 : decode cX4_copyFrom 6 = .ok (.getfield 9, 3) := by decide +kernel
theorem dX4_copyFrom_9 : decode cX4_copyFrom 9 = .ok (.iconst 0, 1) := by decide +kernel
theorem dX4_copyFrom_10 : decode cX4_copyFrom 10 = .ok (.bipush 10, 2) := by decide +kernel
theorem dX4_copyFrom_12 : decode cX4_copyFrom 12 = .ok (.invokestatic 36, 3) := by decide +kernel
theorem dX4_copyFrom_15 : decode cX4_copyFrom 15 = .ok (.aload_n 1, 1) := by decide +kernel
theorem dX4_copyFrom_16 : decode cX4_copyFrom 16 = .ok (.getfield 15, 3) := by decide +kernel
theorem dX4_copyFrom_19 : decode cX4_copyFrom 19 = .ok (.iconst 0, 1) := by decide +kernel
theorem dX4_copyFrom_20 : decode cX4_copyFrom 20 = .ok (.aload_n 0, 1) := by decide +kernel
theorem dX4_copyFrom_21 : decode cX4_copyFrom 21 = .ok (.getfield 15, 3) := by decide +kernel
theorem dX4_copyFrom_24 : decode cX4_copyFrom 24 = .ok (.iconst 0, 1) := by decide +kernel
theorem dX4_copyFrom_25 : decode cX4_copyFrom 25 = .ok (.bipush 10, 2) := by decide +kernel
theorem dX4_copyFrom_27 : decode cX4_copyFrom 27 = .ok (.invokestatic 36, 3) := by decide +kernel
theorem dX4_copyFrom_30 : decode cX4_copyFrom 30 = .ok (.aload_n 1, 1) := by decide +kernel
theorem dX4_copyFrom_31 : decode cX4_copyFrom 31 = .ok (.getfield 18, 3) := by decide +kernel
theorem dX4_copyFrom_34 : decode cX4_copyFrom 34 = .ok (.iconst 0, 1) := by decide +kernel
theorem dX4_copyFrom_35 : decode cX4_copyFrom 35 = .ok (.aload_n 0, 1) := by decide +kernel
theorem dX4_copyFrom_36 : decode cX4_copyFrom 36 = .ok (.getfield 18, 3) := by decide +kernel
theorem dX4_copyFrom_39 : decode cX4_copyFrom 39 = .ok (.iconst 0, 1) := by decide +kernel
theorem dX4_copyFrom_40 : decode cX4_copyFrom 40 = .ok (.bipush 10, 2) := by decide +kernel
theorem dX4_copyFrom_42 : decode cX4_copyFrom 42 = .ok (.invokestatic 36, 3) := by decide +kernel
theorem dX4_copyFrom_45 : decode cX4_copyFrom 45 = .ok (.aload_n 1, 1) := by decide +kernel
theorem dX4_copyFrom_46 : decode cX4_copyFrom 46 = .ok (.getfield 21, 3) := by decide +kernel
theorem dX4_copyFrom_49 : decode cX4_copyFrom 49 = .ok (.iconst 0, 1) := by decide +kernel
theorem dX4_copyFrom_50 : decode cX4_copyFrom 50 = .ok (.aload_n 0, 1) := by decide +kernel
theorem dX4_copyFrom_51 : decode cX4_copyFrom 51 = .ok (.getfield 21, 3) := by decide +kernel
theorem dX4_copyFrom_54 : decode cX4_copyFrom 54 = .ok (.iconst 0, 1) := by decide +kernel
theorem dX4_copyFrom_55 : decode cX4_copyFrom 55 = .ok (.sipush 168, 3) := by decide +kernel
theorem dX4_copyFrom_58 : decode cX4_copyFrom 58 = .ok (.invokestatic 36, 3) := by decide +kernel
theorem dX4_copyFrom_61 : decode cX4_copyFrom 61 = .ok (.aload_n 1, 1) := by decide +kernel
theorem dX4_copyFrom_62 : decode cX4_copyFrom 62 = .ok (.getfield 24, 3) := by decide +kernel
theorem dX4_copyFrom_65 : decode cX4_copyFrom 65 = .ok (.iconst 0, 1) := by decide +kernel
theorem dX4_copyFrom_66 : decode cX4_copyFrom 66 = .ok (.aload_n 0, 1) := by decide +kernel
theorem dX4_copyFrom_67 : decode cX4_copyFrom 67 = .ok (.getfield 24, 3) := by decide +kernel
theorem dX4_copyFrom_70 : decode cX4_copyFrom 70 = .ok (.iconst 0, 1) := by decide +kernel
theorem dX4_copyFrom_71 : decode cX4_copyFrom 71 = .ok (.bipush 8, 2) := by decide +kernel
theorem dX4_copyFrom_73 : decode cX4_copyFrom 73 = .ok (.invokestatic 36, 3) := by decide +kernel
theorem dX4_copyFrom_76 : decode cX4_copyFrom 76 = .ok (.aload_n 1, 1) := by decide +kernel
theorem dX4_copyFrom_77 : decode cX4_copyFrom 77 = .ok (.getfield 27, 3) := by decide +kernel
theorem dX4_copyFrom_80 : decode cX4_copyFrom 80 = .ok (.iconst 0, 1) := by decide +kernel
theorem dX4_copyFrom_81 : decode cX4_copyFrom 81 = .ok (.aload_n 0, 1) := by decide +kernel
theorem dX4_copyFrom_82 : decode cX4_copyFrom 82 = .ok (.getfield 27, 3) := by decide +kernel
theorem dX4_copyFrom_85 : decode cX4_copyFrom 85 = .ok (.iconst 0, 1) := by decide +kernel
theorem dX4_copyFrom_86 : decode cX4_copyFrom 86 = .ok (.bipush 8, 2) := by decide +kernel
theorem dX4_copyFrom_88 : decode cX4_copyFrom 88 = .ok (.invokestatic 36, 3) := by decide +kernel
theorem dX4_copyFrom_91 : decode cX4_copyFrom 91 = .ok (.aload_n 1, 1) := by decide +kernel
theorem dX4_copyFrom_92 : decode cX4_copyFrom 92 = .ok (.getfield 30, 3) := by decide +kernel
theorem dX4_copyFrom_95 : decode cX4_copyFrom 95 = .ok (.iconst 0, 1) := by decide +kernel
theorem dX4_copyFrom_96 : decode cX4_copyFrom 96 = .ok (.aload_n 0, 1) := by decide +kernel
theorem dX4_copyFrom_97 : decode cX4_copyFrom 97 = .ok (.getfield 30, 3) := by decide +kernel
theorem dX4_copyFrom_100 : decode cX4_copyFrom 100 = .ok (.iconst 0, 1) := by decide +kernel
theorem dX4_copyFrom_101 : decode cX4_copyFrom 101 = .ok (.bipush 8, 2) := by decide +kernel
theorem dX4_copyFrom_103 : decode cX4_copyFrom 103 = .ok (.invokestatic 36, 3) := by decide +kernel
theorem dX4_copyFrom_106 : decode cX4_copyFrom 106 = .ok (.aload_n 1, 1) := by decide +kernel
theorem dX4_copyFrom_107 : decode cX4_copyFrom 107 = .ok (.getfield 33, 3) := by decide +kernel
theorem dX4_copyFrom_110 : decode cX4_copyFrom 110 = .ok (.iconst 0, 1) := by decide +kernel
theorem dX4_copyFrom_111 : decode cX4_copyFrom 111 = .ok (.aload_n 0, 1) := by decide +kernel
theorem dX4_copyFrom_112 : decode cX4_copyFrom 112 = .ok (.getfield 33, 3) := by decide +kernel
theorem dX4_copyFrom_115 : decode cX4_copyFrom 115 = .ok (.iconst 0, 1) := by decide +kernel
theorem dX4_copyFrom_116 : decode cX4_copyFrom 116 = .ok (.bipush 8, 2) := by decide +kernel
theorem dX4_copyFrom_118 : decode cX4_copyFrom 118 = .ok (.invokestatic 36, 3) := by decide +kernel
theorem dX4_copyFrom_121 : decode cX4_copyFrom 121 = .ok (.aload_n 0, 1) := by decide +kernel
theorem dX4_copyFrom_122 : decode cX4_copyFrom 122 = .ok (.aload_n 1, 1) := by decide +kernel
theorem dX4_copyFrom_123 : decode cX4_copyFrom 123 = .ok (.getfield 42, 3) := by decide +kernel
theorem dX4_copyFrom_126 : decode cX4_copyFrom 126 = .ok (.putfield 42, 3) := by decide +kernel
theorem dX4_copyFrom_129 : decode cX4_copyFrom 129 = .ok (.aload_n 0, 1) := by decide +kernel
theorem dX4_copyFrom_130 : decode cX4_copyFrom 130 = .ok (.aload_n 1, 1) := by decide +kernel
theorem dX4_copyFrom_131 : decode cX4_copyFrom 131 = .ok (.getfield 46, 3) := by decide +kernel
theorem dX4_copyFrom_134 : decode cX4_copyFrom 134 = .ok (.putfield 46, 3) := by decide +kernel
theorem dX4_copyFrom_137 : decode cX4_copyFrom 137 = .ok (.aload_n 0, 1) := by decide +kernel
theorem dX4_copyFrom_138 : decode cX4_copyFrom 138 = .ok (.aload_n 1, 1) := by decide +kernel
theorem dX4_copyFrom_139 : decode cX4_copyFrom 139 = .ok (.getfield 49, 3) := by decide +kernel
theorem dX4_copyFrom_142 : decode cX4_copyFrom 142 = .ok (.putfield 49, 3) := by decide +kernel
theorem dX4_copyFrom_145 : decode cX4_copyFrom 145 = .ok (.aload_n 0, 1) := by decide +kernel
theorem dX4_copyFrom_146 : decode cX4_copyFrom 146 = .ok (.aload_n 1, 1) := by decide +kernel
theorem dX4_copyFrom_147 : decode cX4_copyFrom 147 = .ok (.getfield 52, 3) := by decide +kernel
theorem dX4_copyFrom_150 : decode cX4_copyFrom 150 = .ok (.putfield 52, 3) := by decide +kernel
theorem dX4_copyFrom_153 : decode cX4_copyFrom 153 = .ok (.aload_n 0, 1) := by decide +kernel
theorem dX4_copyFrom_154 : decode cX4_copyFrom 154 = .ok (.aload_n 1, 1) := by decide +kernel
theorem dX4_copyFrom_155 : decode cX4_copyFrom 155 = .ok (.getfield 55, 3) := by decide +kernel
theorem dX4_copyFrom_158 : decode cX4_copyFrom 158 = .ok (.putfield 55, 3) := by decide +kernel
theorem dX4_copyFrom_161 : decode cX4_copyFrom 161 = .ok (.return_, 1) := by decide +kernel
theorem dX4_addTenant_0 : decode cX4_addTenant 0 = .ok (.aload_n 0, 1) := by decide +kernel
theorem dX4_addTenant_1 : decode cX4_addTenant 1 = .ok (.getfield 42, 3) := by decide +kernel
theorem dX4_addTenant_4 : decode cX4_addTenant 4 = .ok (.bipush 10, 2) := by decide +kernel
theorem dX4_addTenant_6 : decode cX4_addTenant 6 = .ok (.if_icmp .ge 43, 3) := by decide +kernel
theorem dX4_addTenant_9 : decode cX4_addTenant 9 = .ok (.aload_n 0, 1) := by decide +kernel
theorem dX4_addTenant_10 : decode cX4_addTenant 10 = .ok (.getfield 9, 3) := by decide +kernel
theorem dX4_addTenant_13 : decode cX4_addTenant 13 = .ok (.aload_n 0, 1) := by decide +kernel
theorem dX4_addTenant_14 : decode cX4_addTenant 14 = .ok (.getfield 42, 3) := by decide +kernel
theorem dX4_addTenant_17 : decode cX4_addTenant 17 = .ok (.iload_n 1, 1) := by decide +kernel
theorem dX4_addTenant_18 : decode cX4_addTenant 18 = .ok (.iastore, 1) := by decide +kernel
theorem dX4_addTenant_19 : decode cX4_addTenant 19 = .ok (.aload_n 0, 1) := by decide +kernel
theorem dX4_addTenant_20 : decode cX4_addTenant 20 = .ok (.getfield 15, 3) := by decide +kernel
theorem dX4_addTenant_23 : decode cX4_addTenant 23 = .ok (.aload_n 0, 1) := by decide +kernel
theorem dX4_addTenant_24 : decode cX4_addTenant 24 = .ok (.getfield 42, 3) := by decide +kernel
theorem dX4_addTenant_27 : decode cX4_addTenant 27 = .ok (.iload_n 2, 1) := by decide +kernel
theorem dX4_addTenant_28 : decode cX4_addTenant 28 = .ok (.iastore, 1) := by decide +kernel
theorem dX4_addTenant_29 : decode cX4_addTenant 29 = .ok (.aload_n 0, 1) := by decide +kernel
theorem dX4_addTenant_30 : decode cX4_addTenant 30 = .ok (.getfield 18, 3) := by decide +kernel
theorem dX4_addTenant_33 : decode cX4_addTenant 33 = .ok (.aload_n 0, 1) := by decide +kernel
theorem dX4_addTenant_34 : decode cX4_addTenant 34 = .ok (.getfield 42, 3) := by decide +kernel
theorem dX4_addTenant_37 : decode cX4_addTenant 37 = .ok (.iload_n 3, 1) := by decide +kernel
theorem dX4_addTenant_38 : decode cX4_addTenant 38 = .ok (.iastore, 1) := by decide +kernel
theorem dX4_addTenant_39 : decode cX4_addTenant 39 = .ok (.aload_n 0, 1) := by decide +kernel
theorem dX4_addTenant_40 : decode cX4_addTenant 40 = .ok (.dup, 1) := by decide +kernel
theorem dX4_addTenant_41 : decode cX4_addTenant 41 = .ok (.getfield 42, 3) := by decide +kernel
theorem dX4_addTenant_44 : decode cX4_addTenant 44 = .ok (.iconst 1, 1) := by decide +kernel
theorem dX4_addTenant_45 : decode cX4_addTenant 45 = .ok (.iadd, 1) := by decide +kernel
theorem dX4_addTenant_46 : decode cX4_addTenant 46 = .ok (.putfield 42, 3) := by decide +kernel
theorem dX4_addTenant_49 : decode cX4_addTenant 49 = .ok (.return_, 1) := by decide +kernel
theorem dX4_addWant_0 : decode cX4_addWant 0 = .ok (.aload_n 0, 1) := by decide +kernel
theorem dX4_addWant_1 : decode cX4_addWant 1 = .ok (.getfield 46, 3) := by decide +kernel
theorem dX4_addWant_4 : decode cX4_addWant 4 = .ok (.bipush 8, 2) := by decide +kernel
theorem dX4_addWant_6 : decode cX4_addWant 6 = .ok (.if_icmp .ge 54, 3) := by decide +kernel
theorem dX4_addWant_9 : decode cX4_addWant 9 = .ok (.aload_n 0, 1) := by decide +kernel
theorem dX4_addWant_10 : decode cX4_addWant 10 = .ok (.getfield 24, 3) := by decide +kernel
theorem dX4_addWant_13 : decode cX4_addWant 13 = .ok (.aload_n 0, 1) := by decide +kernel
theorem dX4_addWant_14 : decode cX4_addWant 14 = .ok (.getfield 46, 3) := by decide +kernel
theorem dX4_addWant_17 : decode cX4_addWant 17 = .ok (.iload_n 1, 1) := by decide +kernel
theorem dX4_addWant_18 : decode cX4_addWant 18 = .ok (.iastore, 1) := by decide +kernel
theorem dX4_addWant_19 : decode cX4_addWant 19 = .ok (.aload_n 0, 1) := by decide +kernel
theorem dX4_addWant_20 : decode cX4_addWant 20 = .ok (.getfield 27, 3) := by decide +kernel
theorem dX4_addWant_23 : decode cX4_addWant 23 = .ok (.aload_n 0, 1) := by decide +kernel
theorem dX4_addWant_24 : decode cX4_addWant 24 = .ok (.getfield 46, 3) := by decide +kernel
theorem dX4_addWant_27 : decode cX4_addWant 27 = .ok (.iload_n 2, 1) := by decide +kernel
theorem dX4_addWant_28 : decode cX4_addWant 28 = .ok (.iastore, 1) := by decide +kernel
theorem dX4_addWant_29 : decode cX4_addWant 29 = .ok (.aload_n 0, 1) := by decide +kernel
theorem dX4_addWant_30 : decode cX4_addWant 30 = .ok (.getfield 30, 3) := by decide +kernel
theorem dX4_addWant_33 : decode cX4_addWant 33 = .ok (.aload_n 0, 1) := by decide +kernel
theorem dX4_addWant_34 : decode cX4_addWant 34 = .ok (.getfield 46, 3) := by decide +kernel
theorem dX4_addWant_37 : decode cX4_addWant 37 = .ok (.iload_n 3, 1) := by decide +kernel
theorem dX4_addWant_38 : decode cX4_addWant 38 = .ok (.iastore, 1) := by decide +kernel
theorem dX4_addWant_39 : decode cX4_addWant 39 = .ok (.aload_n 0, 1) := by decide +kernel
theorem dX4_addWant_40 : decode cX4_addWant 40 = .ok (.getfield 33, 3) := by decide +kernel
theorem dX4_addWant_43 : decode cX4_addWant 43 = .ok (.aload_n 0, 1) := by decide +kernel
theorem dX4_addWant_44 : decode cX4_addWant 44 = .ok (.getfield 46, 3) := by decide +kernel
theorem dX4_addWant_47 : decode cX4_addWant 47 = .ok (.iload 4, 2) := by decide +kernel
theorem dX4_addWant_49 : decode cX4_addWant 49 = .ok (.iastore, 1) := by decide +kernel
theorem dX4_addWant_50 : decode cX4_addWant 50 = .ok (.aload_n 0, 1) := by decide +kernel
theorem dX4_addWant_51 : decode cX4_addWant 51 = .ok (.dup, 1) := by decide +kernel
theorem dX4_addWant_52 : decode cX4_addWant 52 = .ok (.getfield 46, 3) := by decide +kernel
theorem dX4_addWant_55 : decode cX4_addWant 55 = .ok (.iconst 1, 1) := by decide +kernel
theorem dX4_addWant_56 : decode cX4_addWant 56 = .ok (.iadd, 1) := by decide +kernel
theorem dX4_addWant_57 : decode cX4_addWant 57 = .ok (.putfield 46, 3) := by decide +kernel
theorem dX4_addWant_60 : decode cX4_addWant 60 = .ok (.return_, 1) := by decide +kernel
theorem dX4_likesHour_0 : decode cX4_likesHour 0 = .ok (.iload_n 2, 1) := by decide +kernel
theorem dX4_likesHour_1 : decode cX4_likesHour 1 = .ok (.aload_n 0, 1) := by decide +kernel
theorem dX4_likesHour_2 : decode cX4_likesHour 2 = .ok (.getfield 9, 3) := by decide +kernel
theorem dX4_likesHour_5 : decode cX4_likesHour 5 = .ok (.iload_n 1, 1) := by decide +kernel
theorem dX4_likesHour_6 : decode cX4_likesHour 6 = .ok (.iaload, 1) := by decide +kernel
theorem dX4_likesHour_7 : decode cX4_likesHour 7 = .ok (.if_icmp .lt 17, 3) := by decide +kernel
theorem dX4_likesHour_10 : decode cX4_likesHour 10 = .ok (.iload_n 2, 1) := by decide +kernel
theorem dX4_likesHour_11 : decode cX4_likesHour 11 = .ok (.aload_n 0, 1) := by decide +kernel
theorem dX4_likesHour_12 : decode cX4_likesHour 12 = .ok (.getfield 15, 3) := by decide +kernel
theorem dX4_likesHour_15 : decode cX4_likesHour 15 = .ok (.iload_n 1, 1) := by decide +kernel
theorem dX4_likesHour_16 : decode cX4_likesHour 16 = .ok (.iaload, 1) := by decide +kernel
theorem dX4_likesHour_17 : decode cX4_likesHour 17 = .ok (.if_icmp .gt 7, 3) := by decide +kernel
theorem dX4_likesHour_20 : decode cX4_likesHour 20 = .ok (.iconst 1, 1) := by decide +kernel
theorem dX4_likesHour_21 : decode cX4_likesHour 21 = .ok (.goto 4, 3) := by decide +kernel
theorem dX4_likesHour_24 : decode cX4_likesHour 24 = .ok (.iconst 0, 1) := by decide +kernel
theorem dX4_likesHour_25 : decode cX4_likesHour 25 = .ok (.ireturn, 1) := by decide +kernel
theorem dX4_wantedRooms_0 : decode cX4_wantedRooms 0 = .ok (.iconst 0, 1) := by decide +kernel
theorem dX4_wantedRooms_1 : decode cX4_wantedRooms 1 = .ok (.istore_n 1, 1) := by decide +kernel
theorem dX4_wantedRooms_2 : decode cX4_wantedRooms 2 = .ok (.iconst 0, 1) := by decide +kernel
theorem dX4_wantedRooms_3 : decode cX4_wantedRooms 3 = .ok (.istore_n 2, 1) := by decide +kernel
theorem dX4_wantedRooms_4 : decode cX4_wantedRooms 4 = .ok (.iload_n 2, 1) := by decide +kernel
theorem dX4_wantedRooms_5 : decode cX4_wantedRooms 5 = .ok (.aload_n 0, 1) := by decide +kernel
theorem dX4_wantedRooms_6 : decode cX4_wantedRooms 6 = .ok (.getfield 46, 3) := by decide +kernel
theorem dX4_wantedRooms_9 : decode cX4_wantedRooms 9 = .ok (.if_icmp .ge 18, 3) := by decide +kernel
theorem dX4_wantedRooms_12 : decode cX4_wantedRooms 12 = .ok (.iload_n 1, 1) := by decide +kernel
theorem dX4_wantedRooms_13 : decode cX4_wantedRooms 13 = .ok (.aload_n 0, 1) := by decide +kernel
theorem dX4_wantedRooms_14 : decode cX4_wantedRooms 14 = .ok (.getfield 27, 3) := by decide +kernel
theorem dX4_wantedRooms_17 : decode cX4_wantedRooms 17 = .ok (.iload_n 2, 1) := by decide +kernel
theorem dX4_wantedRooms_18 : decode cX4_wantedRooms 18 = .ok (.iaload, 1) := by decide +kernel
theorem dX4_wantedRooms_19 : decode cX4_wantedRooms 19 = .ok (.iadd, 1) := by decide +kernel
theorem dX4_wantedRooms_20 : decode cX4_wantedRooms 20 = .ok (.istore_n 1, 1) := by decide +kernel
theorem dX4_wantedRooms_21 : decode cX4_wantedRooms 21 = .ok (.iinc 2 1, 3) := by decide +kernel
theorem dX4_wantedRooms_24 : decode cX4_wantedRooms 24 = .ok (.goto (-20), 3) := by decide +kernel
theorem dX4_wantedRooms_27 : decode cX4_wantedRooms 27 = .ok (.iload_n 1, 1) := by decide +kernel
theorem dX4_wantedRooms_28 : decode cX4_wantedRooms 28 = .ok (.ireturn, 1) := by decide +kernel
theorem dX6_init_0 : decode cX6_init 0 = .ok (.aload_n 0, 1) := by decide +kernel
theorem dX6_init_1 : decode cX6_init 1 = .ok (.invokespecial 3, 3) := by decide +kernel
theorem dX6_init_4 : decode cX6_init 4 = .ok (.aload_n 0, 1) := by decide +kernel
theorem dX6_init_5 : decode cX6_init 5 = .ok (.aload_n 1, 1) := by decide +kernel
theorem dX6_init_6 : decode cX6_init 6 = .ok (.putfield 9, 3) := by decide +kernel
theorem dX6_init_9 : decode cX6_init 9 = .ok (.return_, 1) := by decide +kernel
theorem dX6_open_0 : decode cX6_open 0 = .ok (.aload_n 0, 1) := by decide +kernel
theorem dX6_open_1 : decode cX6_open 1 = .ok (.iload_n 1, 1) := by decide +kernel
theorem dX6_open_2 : decode cX6_open 2 = .ok (.aload_n 0, 1) := by decide +kernel
theorem dX6_open_3 : decode cX6_open 3 = .ok (.getfield 9, 3) := by decide +kernel
theorem dX6_open_6 : decode cX6_open 6 = .ok (.arraylength, 1) := by decide +kernel
theorem dX6_open_7 : decode cX6_open 7 = .ok (.invokestatic 15, 3) := by decide +kernel
theorem dX6_open_10 : decode cX6_open 10 = .ok (.putfield 21, 3) := by decide +kernel
theorem dX6_open_13 : decode cX6_open 13 = .ok (.aload_n 0, 1) := by decide +kernel
theorem dX6_open_14 : decode cX6_open 14 = .ok (.iconst 0, 1) := by decide +kernel
theorem dX6_open_15 : decode cX6_open 15 = .ok (.putfield 25, 3) := by decide +kernel
theorem dX6_open_18 : decode cX6_open 18 = .ok (.aload_n 0, 1) := by decide +kernel
theorem dX6_open_19 : decode cX6_open 19 = .ok (.iconst (-1), 1) := by decide +kernel
theorem dX6_open_20 : decode cX6_open 20 = .ok (.putfield 28, 3) := by decide +kernel
theorem dX6_open_23 : decode cX6_open 23 = .ok (.aload_n 0, 1) := by decide +kernel
theorem dX6_open_24 : decode cX6_open 24 = .ok (.invokevirtual 31, 3) := by decide +kernel
theorem dX6_open_27 : decode cX6_open 27 = .ok (.return_, 1) := by decide +kernel
theorem dX6_firstWrong_0 : decode cX6_firstWrong 0 = .ok (.aload_n 0, 1) := by decide +kernel
theorem dX6_firstWrong_1 : decode cX6_firstWrong 1 = .ok (.getfield 28, 3) := by decide +kernel
theorem dX6_firstWrong_4 : decode cX6_firstWrong 4 = .ok (.ireturn, 1) := by decide +kernel
theorem dX6_atEnd_0 : decode cX6_atEnd 0 = .ok (.aload_n 0, 1) := by decide +kernel
theorem dX6_atEnd_1 : decode cX6_atEnd 1 = .ok (.getfield 34, 3) := by decide +kernel
theorem dX6_atEnd_4 : decode cX6_atEnd 4 = .ok (.ifCond .ne 7, 3) := by decide +kernel
theorem dX6_atEnd_7 : decode cX6_atEnd 7 = .ok (.iconst 1, 1) := by decide +kernel
theorem dX6_atEnd_8 : decode cX6_atEnd 8 = .ok (.goto 4, 3) := by decide +kernel
theorem dX6_atEnd_11 : decode cX6_atEnd 11 = .ok (.iconst 0, 1) := by decide +kernel
theorem dX6_atEnd_12 : decode cX6_atEnd 12 = .ok (.ireturn, 1) := by decide +kernel
theorem dX6_atNumber_0 : decode cX6_atNumber 0 = .ok (.aload_n 0, 1) := by decide +kernel
theorem dX6_atNumber_1 : decode cX6_atNumber 1 = .ok (.getfield 34, 3) := by decide +kernel
theorem dX6_atNumber_4 : decode cX6_atNumber 4 = .ok (.iconst 2, 1) := by decide +kernel
theorem dX6_atNumber_5 : decode cX6_atNumber 5 = .ok (.if_icmp .ne 7, 3) := by decide +kernel
theorem dX6_atNumber_8 : decode cX6_atNumber 8 = .ok (.iconst 1, 1) := by decide +kernel
theorem dX6_atNumber_9 : decode cX6_atNumber 9 = .ok (.goto 4, 3) := by decide +kernel
theorem dX6_atNumber_12 : decode cX6_atNumber 12 = .ok (.iconst 0, 1) := by decide +kernel
theorem dX6_atNumber_13 : decode cX6_atNumber 13 = .ok (.ireturn, 1) := by decide +kernel
theorem dX6_readNumber_0 : decode cX6_readNumber 0 = .ok (.aload_n 0, 1) := by decide +kernel
theorem dX6_readNumber_1 : decode cX6_readNumber 1 = .ok (.getfield 37, 3) := by decide +kernel
theorem dX6_readNumber_4 : decode cX6_readNumber 4 = .ok (.ireturn, 1) := by decide +kernel
theorem dX6_hasDigits_0 : decode cX6_hasDigits 0 = .ok (.aload_n 0, 1) := by decide +kernel
theorem dX6_hasDigits_1 : decode cX6_hasDigits 1 = .ok (.getfield 25, 3) := by decide +kernel
theorem dX6_hasDigits_4 : decode cX6_hasDigits 4 = .ok (.aload_n 0, 1) := by decide +kernel
theorem dX6_hasDigits_5 : decode cX6_hasDigits 5 = .ok (.getfield 40, 3) := by decide +kernel
theorem dX6_hasDigits_8 : decode cX6_hasDigits 8 = .ok (.isub, 1) := by decide +kernel
theorem dX6_hasDigits_9 : decode cX6_hasDigits 9 = .ok (.iload_n 1, 1) := by decide +kernel
theorem dX6_hasDigits_10 : decode cX6_hasDigits 10 = .ok (.if_icmp .gt 7, 3) := by decide +kernel
theorem dX6_hasDigits_13 : decode cX6_hasDigits 13 = .ok (.iconst 1, 1) := by decide +kernel
theorem dX6_hasDigits_14 : decode cX6_hasDigits 14 = .ok (.goto 4, 3) := by decide +kernel
theorem dX6_hasDigits_17 : decode cX6_hasDigits 17 = .ok (.iconst 0, 1) := by decide +kernel
theorem dX6_hasDigits_18 : decode cX6_hasDigits 18 = .ok (.ireturn, 1) := by decide +kernel
theorem dX6_step_0 : decode cX6_step 0 = .ok (.aload_n 0, 1) := by decide +kernel
theorem dX6_step_1 : decode cX6_step 1 = .ok (.aload_n 0, 1) := by decide +kernel
theorem dX6_step_2 : decode cX6_step 2 = .ok (.getfield 25, 3) := by decide +kernel
theorem dX6_step_5 : decode cX6_step 5 = .ok (.putfield 40, 3) := by decide +kernel
theorem dX6_step_8 : decode cX6_step 8 = .ok (.aload_n 0, 1) := by decide +kernel
theorem dX6_step_9 : decode cX6_step 9 = .ok (.getfield 40, 3) := by decide +kernel
theorem dX6_step_12 : decode cX6_step 12 = .ok (.aload_n 0, 1) := by decide +kernel
theorem dX6_step_13 : decode cX6_step 13 = .ok (.getfield 21, 3) := by decide +kernel
theorem dX6_step_16 : decode cX6_step 16 = .ok (.if_icmp .ge 30, 3) := by decide +kernel
theorem dX6_step_19 : decode cX6_step 19 = .ok (.aload_n 0, 1) := by decide +kernel
theorem dX6_step_20 : decode cX6_step 20 = .ok (.getfield 9, 3) := by decide +kernel
theorem dX6_step_23 : decode cX6_step 23 = .ok (.aload_n 0, 1) := by decide +kernel
theorem dX6_step_24 : decode cX6_step 24 = .ok (.getfield 40, 3) := by decide +kernel
theorem dX6_step_27 : decode cX6_step 27 = .ok (.iaload, 1) := by decide +kernel
theorem dX6_step_28 : decode cX6_step 28 = .ok (.bipush 32, 2) := by decide +kernel
theorem dX6_step_30 : decode cX6_step 30 = .ok (.if_icmp .ne 16, 3) := by decide +kernel
theorem dX6_step_33 : decode cX6_step 33 = .ok (.aload_n 0, 1) := by decide +kernel
theorem dX6_step_34 : decode cX6_step 34 = .ok (.dup, 1) := by decide +kernel
theorem dX6_step_35 : decode cX6_step 35 = .ok (.getfield 40, 3) := by decide +kernel
theorem dX6_step_38 : decode cX6_step 38 = .ok (.iconst 1, 1) := by decide +kernel
theorem dX6_step_39 : decode cX6_step 39 = .ok (.iadd, 1) := by decide +kernel
theorem dX6_step_40 : decode cX6_step 40 = .ok (.putfield 40, 3) := by decide +kernel
theorem dX6_step_43 : decode cX6_step 43 = .ok (.goto (-35), 3) := by decide +kernel
theorem dX6_step_46 : decode cX6_step 46 = .ok (.aload_n 0, 1) := by decide +kernel
theorem dX6_step_47 : decode cX6_step 47 = .ok (.aload_n 0, 1) := by decide +kernel
theorem dX6_step_48 : decode cX6_step 48 = .ok (.getfield 40, 3) := by decide +kernel
theorem dX6_step_51 : decode cX6_step 51 = .ok (.putfield 25, 3) := by decide +kernel
theorem dX6_step_54 : decode cX6_step 54 = .ok (.aload_n 0, 1) := by decide +kernel
theorem dX6_step_55 : decode cX6_step 55 = .ok (.iconst 0, 1) := by decide +kernel
theorem dX6_step_56 : decode cX6_step 56 = .ok (.putfield 37, 3) := by decide +kernel
theorem dX6_step_59 : decode cX6_step 59 = .ok (.aload_n 0, 1) := by decide +kernel
theorem dX6_step_60 : decode cX6_step 60 = .ok (.getfield 40, 3) := by decide +kernel
theorem dX6_step_63 : decode cX6_step 63 = .ok (.aload_n 0, 1) := by decide +kernel
theorem dX6_step_64 : decode cX6_step 64 = .ok (.getfield 21, 3) := by decide +kernel
theorem dX6_step_67 : decode cX6_step 67 = .ok (.if_icmp .lt 11, 3) := by decide +kernel
theorem dX6_step_70 : decode cX6_step 70 = .ok (.aload_n 0, 1) := by decide +kernel
theorem dX6_step_71 : decode cX6_step 71 = .ok (.iconst 0, 1) := by decide +kernel
theorem dX6_step_72 : decode cX6_step 72 = .ok (.putfield 34, 3) := by decide +kernel
theorem dX6_step_75 : decode cX6_step 75 = .ok (.goto 160, 3) := by decide +kernel
theorem dX6_step_78 : decode cX6_step 78 = .ok (.aload_n 0, 1) := by decide +kernel
theorem dX6_step_79 : decode cX6_step 79 = .ok (.aload_n 0, 1) := by decide +kernel
theorem dX6_step_80 : decode cX6_step 80 = .ok (.getfield 40, 3) := by decide +kernel
theorem dX6_step_83 : decode cX6_step 83 = .ok (.bipush 97, 2) := by decide +kernel
theorem dX6_step_85 : decode cX6_step 85 = .ok (.bipush 122, 2) := by decide +kernel
theorem dX6_step_87 : decode cX6_step 87 = .ok (.invokevirtual 43, 3) := by decide +kernel
theorem dX6_step_90 : decode cX6_step 90 = .ok (.ifCond .eq 47, 3) := by decide +kernel
theorem dX6_step_93 : decode cX6_step 93 = .ok (.aload_n 0, 1) := by decide +kernel
theorem dX6_step_94 : decode cX6_step 94 = .ok (.iconst 1, 1) := by decide +kernel
theorem dX6_step_95 : decode cX6_step 95 = .ok (.putfield 34, 3) := by decide +kernel
theorem dX6_step_98 : decode cX6_step 98 = .ok (.aload_n 0, 1) := by decide +kernel
theorem dX6_step_99 : decode cX6_step 99 = .ok (.getfield 25, 3) := by decide +kernel
theorem dX6_step_102 : decode cX6_step 102 = .ok (.aload_n 0, 1) := by decide +kernel
theorem dX6_step_103 : decode cX6_step 103 = .ok (.getfield 21, 3) := by decide +kernel
theorem dX6_step_106 : decode cX6_step 106 = .ok (.if_icmp .ge 129, 3) := by decide +kernel
theorem dX6_step_109 : decode cX6_step 109 = .ok (.aload_n 0, 1) := by decide +kernel
theorem dX6_step_110 : decode cX6_step 110 = .ok (.aload_n 0, 1) := by decide +kernel
theorem dX6_step_111 : decode cX6_step 111 = .ok (.getfield 25, 3) := by decide +kernel
theorem dX6_step_114 : decode cX6_step 114 = .ok (.bipush 97, 2) := by decide +kernel
theorem dX6_step_116 : decode cX6_step 116 = .ok (.bipush 122, 2) := by decide +kernel
theorem dX6_step_118 : decode cX6_step 118 = .ok (.invokevirtual 43, 3) := by decide +kernel
theorem dX6_step_121 : decode cX6_step 121 = .ok (.ifCond .eq 114, 3) := by decide +kernel
theorem dX6_step_124 : decode cX6_step 124 = .ok (.aload_n 0, 1) := by decide +kernel
theorem dX6_step_125 : decode cX6_step 125 = .ok (.dup, 1) := by decide +kernel
theorem dX6_step_126 : decode cX6_step 126 = .ok (.getfield 25, 3) := by decide +kernel
theorem dX6_step_129 : decode cX6_step 129 = .ok (.iconst 1, 1) := by decide +kernel
theorem dX6_step_130 : decode cX6_step 130 = .ok (.iadd, 1) := by decide +kernel
theorem dX6_step_131 : decode cX6_step 131 = .ok (.putfield 25, 3) := by decide +kernel
theorem dX6_step_134 : decode cX6_step 134 = .ok (.goto (-36), 3) := by decide +kernel
theorem dX6_step_137 : decode cX6_step 137 = .ok (.aload_n 0, 1) := by decide +kernel
theorem dX6_step_138 : decode cX6_step 138 = .ok (.aload_n 0, 1) := by decide +kernel
theorem dX6_step_139 : decode cX6_step 139 = .ok (.getfield 40, 3) := by decide +kernel
theorem dX6_step_142 : decode cX6_step 142 = .ok (.bipush 48, 2) := by decide +kernel
theorem dX6_step_144 : decode cX6_step 144 = .ok (.bipush 57, 2) := by decide +kernel
theorem dX6_step_146 : decode cX6_step 146 = .ok (.invokevirtual 43, 3) := by decide +kernel
theorem dX6_step_149 : decode cX6_step 149 = .ok (.ifCond .eq 71, 3) := by decide +kernel
theorem dX6_step_152 : decode cX6_step 152 = .ok (.aload_n 0, 1) := by decide +kernel
theorem dX6_step_153 : decode cX6_step 153 = .ok (.iconst 2, 1) := by decide +kernel
theorem dX6_step_154 : decode cX6_step 154 = .ok (.putfield 34, 3) := by decide +kernel
theorem dX6_step_157 : decode cX6_step 157 = .ok (.aload_n 0, 1) := by decide +kernel
theorem dX6_step_158 : decode cX6_step 158 = .ok (.getfield 25, 3) := by decide +kernel
theorem dX6_step_161 : decode cX6_step 161 = .ok (.aload_n 0, 1) := by decide +kernel
theorem dX6_step_162 : decode cX6_step 162 = .ok (.getfield 21, 3) := by decide +kernel
theorem dX6_step_165 : decode cX6_step 165 = .ok (.if_icmp .ge 70, 3) := by decide +kernel
theorem dX6_step_168 : decode cX6_step 168 = .ok (.aload_n 0, 1) := by decide +kernel
theorem dX6_step_169 : decode cX6_step 169 = .ok (.aload_n 0, 1) := by decide +kernel
theorem dX6_step_170 : decode cX6_step 170 = .ok (.getfield 25, 3) := by decide +kernel
theorem dX6_step_173 : decode cX6_step 173 = .ok (.bipush 48, 2) := by decide +kernel
theorem dX6_step_175 : decode cX6_step 175 = .ok (.bipush 57, 2) := by decide +kernel
theorem dX6_step_177 : decode cX6_step 177 = .ok (.invokevirtual 43, 3) := by decide +kernel
theorem dX6_step_180 : decode cX6_step 180 = .ok (.ifCond .eq 55, 3) := by decide +kernel
theorem dX6_step_183 : decode cX6_step 183 = .ok (.aload_n 0, 1) := by decide +kernel
theorem dX6_step_184 : decode cX6_step 184 = .ok (.aload_n 0, 1) := by decide +kernel
theorem dX6_step_185 : decode cX6_step 185 = .ok (.getfield 37, 3) := by decide +kernel
theorem dX6_step_188 : decode cX6_step 188 = .ok (.bipush 10, 2) := by decide +kernel
theorem dX6_step_190 : decode cX6_step 190 = .ok (.imul, 1) := by decide +kernel
theorem dX6_step_191 : decode cX6_step 191 = .ok (.aload_n 0, 1) := by decide +kernel
theorem dX6_step_192 : decode cX6_step 192 = .ok (.getfield 9, 3) := by decide +kernel
theorem dX6_step_195 : decode cX6_step 195 = .ok (.aload_n 0, 1) := by decide +kernel
theorem dX6_step_196 : decode cX6_step 196 = .ok (.getfield 25, 3) := by decide +kernel
theorem dX6_step_199 : decode cX6_step 199 = .ok (.iaload, 1) := by decide +kernel
theorem dX6_step_200 : decode cX6_step 200 = .ok (.iadd, 1) := by decide +kernel
theorem dX6_step_201 : decode cX6_step 201 = .ok (.bipush 48, 2) := by decide +kernel
theorem dX6_step_203 : decode cX6_step 203 = .ok (.isub, 1) := by decide +kernel
theorem dX6_step_204 : decode cX6_step 204 = .ok (.putfield 37, 3) := by decide +kernel
theorem dX6_step_207 : decode cX6_step 207 = .ok (.aload_n 0, 1) := by decide +kernel
theorem dX6_step_208 : decode cX6_step 208 = .ok (.dup, 1) := by decide +kernel
theorem dX6_step_209 : decode cX6_step 209 = .ok (.getfield 25, 3) := by decide +kernel
theorem dX6_step_212 : decode cX6_step 212 = .ok (.iconst 1, 1) := by decide +kernel
theorem dX6_step_213 : decode cX6_step 213 = .ok (.iadd, 1) := by decide +kernel
theorem dX6_step_214 : decode cX6_step 214 = .ok (.putfield 25, 3) := by decide +kernel
theorem dX6_step_217 : decode cX6_step 217 = .ok (.goto (-60), 3) := by decide +kernel
theorem dX6_step_220 : decode cX6_step 220 = .ok (.aload_n 0, 1) := by decide +kernel
theorem dX6_step_221 : decode cX6_step 221 = .ok (.iconst 3, 1) := by decide +kernel
theorem dX6_step_222 : decode cX6_step 222 = .ok (.putfield 34, 3) := by decide +kernel
theorem dX6_step_225 : decode cX6_step 225 = .ok (.aload_n 0, 1) := by decide +kernel
theorem dX6_step_226 : decode cX6_step 226 = .ok (.dup, 1) := by decide +kernel
theorem dX6_step_227 : decode cX6_step 227 = .ok (.getfield 25, 3) := by decide +kernel
theorem dX6_step_230 : decode cX6_step 230 = .ok (.iconst 1, 1) := by decide +kernel
theorem dX6_step_231 : decode cX6_step 231 = .ok (.iadd, 1) := by decide +kernel
theorem dX6_step_232 : decode cX6_step 232 = .ok (.putfield 25, 3) := by decide +kernel
theorem dX6_step_235 : decode cX6_step 235 = .ok (.return_, 1) := by decide +kernel
theorem dX6_isBetween_0 : decode cX6_isBetween 0 = .ok (.aload_n 0, 1) := by decide +kernel
theorem dX6_isBetween_1 : decode cX6_isBetween 1 = .ok (.getfield 9, 3) := by decide +kernel
theorem dX6_isBetween_4 : decode cX6_isBetween 4 = .ok (.iload_n 1, 1) := by decide +kernel
theorem dX6_isBetween_5 : decode cX6_isBetween 5 = .ok (.iaload, 1) := by decide +kernel
theorem dX6_isBetween_6 : decode cX6_isBetween 6 = .ok (.iload_n 2, 1) := by decide +kernel
theorem dX6_isBetween_7 : decode cX6_isBetween 7 = .ok (.if_icmp .lt 17, 3) := by decide +kernel
theorem dX6_isBetween_10 : decode cX6_isBetween 10 = .ok (.aload_n 0, 1) := by decide +kernel
theorem dX6_isBetween_11 : decode cX6_isBetween 11 = .ok (.getfield 9, 3) := by decide +kernel
theorem dX6_isBetween_14 : decode cX6_isBetween 14 = .ok (.iload_n 1, 1) := by decide +kernel
theorem dX6_isBetween_15 : decode cX6_isBetween 15 = .ok (.iaload, 1) := by decide +kernel
theorem dX6_isBetween_16 : decode cX6_isBetween 16 = .ok (.iload_n 3, 1) := by decide +kernel
theorem dX6_isBetween_17 : decode cX6_isBetween 17 = .ok (.if_icmp .gt 7, 3) := by decide +kernel
theorem dX6_isBetween_20 : decode cX6_isBetween 20 = .ok (.iconst 1, 1) := by decide +kernel
theorem dX6_isBetween_21 : decode cX6_isBetween 21 = .ok (.goto 4, 3) := by decide +kernel
theorem dX6_isBetween_24 : decode cX6_isBetween 24 = .ok (.iconst 0, 1) := by decide +kernel
theorem dX6_isBetween_25 : decode cX6_isBetween 25 = .ok (.ireturn, 1) := by decide +kernel
theorem dX6_atWord_0 : decode cX6_atWord 0 = .ok (.aload_n 0, 1) := by decide +kernel
theorem dX6_atWord_1 : decode cX6_atWord 1 = .ok (.getfield 34, 3) := by decide +kernel
theorem dX6_atWord_4 : decode cX6_atWord 4 = .ok (.iconst 1, 1) := by decide +kernel
theorem dX6_atWord_5 : decode cX6_atWord 5 = .ok (.if_icmp .ne 19, 3) := by decide +kernel
theorem dX6_atWord_8 : decode cX6_atWord 8 = .ok (.aload_n 0, 1) := by decide +kernel
theorem dX6_atWord_9 : decode cX6_atWord 9 = .ok (.getfield 25, 3) := by decide +kernel
theorem dX6_atWord_12 : decode cX6_atWord 12 = .ok (.aload_n 0, 1) := by decide +kernel
theorem dX6_atWord_13 : decode cX6_atWord 13 = .ok (.getfield 40, 3) := by decide +kernel
theorem dX6_atWord_16 : decode cX6_atWord 16 = .ok (.isub, 1) := by decide +kernel
theorem dX6_atWord_17 : decode cX6_atWord 17 = .ok (.aload_n 1, 1) := by decide +kernel
theorem dX6_atWord_18 : decode cX6_atWord 18 = .ok (.invokevirtual 47, 3) := by decide +kernel
theorem dX6_atWord_21 : decode cX6_atWord 21 = .ok (.if_icmp .eq 5, 3) := by decide +kernel
theorem dX6_atWord_24 : decode cX6_atWord 24 = .ok (.iconst 0, 1) := by decide +kernel
theorem dX6_atWord_25 : decode cX6_atWord 25 = .ok (.ireturn, 1) := by decide +kernel
theorem dX6_atWord_26 : decode cX6_atWord 26 = .ok (.iconst 0, 1) := by decide +kernel
theorem dX6_atWord_27 : decode cX6_atWord 27 = .ok (.istore_n 2, 1) := by decide +kernel
theorem dX6_atWord_28 : decode cX6_atWord 28 = .ok (.iload_n 2, 1) := by decide +kernel
theorem dX6_atWord_29 : decode cX6_atWord 29 = .ok (.aload_n 1, 1) := by decide +kernel
theorem dX6_atWord_30 : decode cX6_atWord 30 = .ok (.invokevirtual 47, 3) := by decide +kernel
theorem dX6_atWord_33 : decode cX6_atWord 33 = .ok (.if_icmp .ge 30, 3) := by decide +kernel
theorem dX6_atWord_36 : decode cX6_atWord 36 = .ok (.aload_n 0, 1) := by decide +kernel
theorem dX6_atWord_37 : decode cX6_atWord 37 = .ok (.getfield 9, 3) := by decide +kernel
theorem dX6_atWord_40 : decode cX6_atWord 40 = .ok (.aload_n 0, 1) := by decide +kernel
theorem dX6_atWord_41 : decode cX6_atWord 41 = .ok (.getfield 40, 3) := by decide +kernel
theorem dX6_atWord_44 : decode cX6_atWord 44 = .ok (.iload_n 2, 1) := by decide +kernel
theorem dX6_atWord_45 : decode cX6_atWord 45 = .ok (.iadd, 1) := by decide +kernel
theorem dX6_atWord_46 : decode cX6_atWord 46 = .ok (.iaload, 1) := by decide +kernel
theorem dX6_atWord_47 : decode cX6_atWord 47 = .ok (.aload_n 1, 1) := by decide +kernel
theorem dX6_atWord_48 : decode cX6_atWord 48 = .ok (.iload_n 2, 1) := by decide +kernel
theorem dX6_atWord_49 : decode cX6_atWord 49 = .ok (.invokevirtual 52, 3) := by decide +kernel
theorem dX6_atWord_52 : decode cX6_atWord 52 = .ok (.if_icmp .eq 5, 3) := by decide +kernel
theorem dX6_atWord_55 : decode cX6_atWord 55 = .ok (.iconst 0, 1) := by decide +kernel
theorem dX6_atWord_56 : decode cX6_atWord 56 = .ok (.ireturn, 1) := by decide +kernel
theorem dX6_atWord_57 : decode cX6_atWord 57 = .ok (.iinc 2 1, 3) := by decide +kernel
theorem dX6_atWord_60 : decode cX6_atWord 60 = .ok (.goto (-32), 3) := by decide +kernel
theorem dX6_atWord_63 : decode cX6_atWord 63 = .ok (.iconst 1, 1) := by decide +kernel
theorem dX6_atWord_64 : decode cX6_atWord 64 = .ok (.ireturn, 1) := by decide +kernel
theorem dX6_atSign_0 : decode cX6_atSign 0 = .ok (.aload_n 0, 1) := by decide +kernel
theorem dX6_atSign_1 : decode cX6_atSign 1 = .ok (.getfield 34, 3) := by decide +kernel
theorem dX6_atSign_4 : decode cX6_atSign 4 = .ok (.iconst 3, 1) := by decide +kernel
theorem dX6_atSign_5 : decode cX6_atSign 5 = .ok (.if_icmp .ne 20, 3) := by decide +kernel
theorem dX6_atSign_8 : decode cX6_atSign 8 = .ok (.aload_n 0, 1) := by decide +kernel
theorem dX6_atSign_9 : decode cX6_atSign 9 = .ok (.getfield 9, 3) := by decide +kernel
theorem dX6_atSign_12 : decode cX6_atSign 12 = .ok (.aload_n 0, 1) := by decide +kernel
theorem dX6_atSign_13 : decode cX6_atSign 13 = .ok (.getfield 40, 3) := by decide +kernel
theorem dX6_atSign_16 : decode cX6_atSign 16 = .ok (.iaload, 1) := by decide +kernel
theorem dX6_atSign_17 : decode cX6_atSign 17 = .ok (.iload_n 1, 1) := by decide +kernel
theorem dX6_atSign_18 : decode cX6_atSign 18 = .ok (.if_icmp .ne 7, 3) := by decide +kernel
theorem dX6_atSign_21 : decode cX6_atSign 21 = .ok (.iconst 1, 1) := by decide +kernel
theorem dX6_atSign_22 : decode cX6_atSign 22 = .ok (.goto 4, 3) := by decide +kernel
theorem dX6_atSign_25 : decode cX6_atSign 25 = .ok (.iconst 0, 1) := by decide +kernel
theorem dX6_atSign_26 : decode cX6_atSign 26 = .ok (.ireturn, 1) := by decide +kernel
theorem dX6_fail_0 : decode cX6_fail 0 = .ok (.aload_n 0, 1) := by decide +kernel
theorem dX6_fail_1 : decode cX6_fail 1 = .ok (.aload_n 0, 1) := by decide +kernel
theorem dX6_fail_2 : decode cX6_fail 2 = .ok (.getfield 40, 3) := by decide +kernel
theorem dX6_fail_5 : decode cX6_fail 5 = .ok (.putfield 28, 3) := by decide +kernel
theorem dX6_fail_8 : decode cX6_fail 8 = .ok (.iconst 0, 1) := by decide +kernel
theorem dX6_fail_9 : decode cX6_fail 9 = .ok (.ireturn, 1) := by decide +kernel
theorem dX6_passWord_0 : decode cX6_passWord 0 = .ok (.aload_n 0, 1) := by decide +kernel
theorem dX6_passWord_1 : decode cX6_passWord 1 = .ok (.aload_n 1, 1) := by decide +kernel
theorem dX6_passWord_2 : decode cX6_passWord 2 = .ok (.invokevirtual 56, 3) := by decide +kernel
theorem dX6_passWord_5 : decode cX6_passWord 5 = .ok (.ifCond .ne 8, 3) := by decide +kernel
theorem dX6_passWord_8 : decode cX6_passWord 8 = .ok (.aload_n 0, 1) := by decide +kernel
theorem dX6_passWord_9 : decode cX6_passWord 9 = .ok (.invokevirtual 60, 3) := by decide +kernel
theorem dX6_passWord_12 : decode cX6_passWord 12 = .ok (.ireturn, 1) := by decide +kernel
theorem dX6_passWord_13 : decode cX6_passWord 13 = .ok (.aload_n 0, 1) := by decide +kernel
theorem dX6_passWord_14 : decode cX6_passWord 14 = .ok (.invokevirtual 31, 3) := by decide +kernel
theorem dX6_passWord_17 : decode cX6_passWord 17 = .ok (.iconst 1, 1) := by decide +kernel
theorem dX6_passWord_18 : decode cX6_passWord 18 = .ok (.ireturn, 1) := by decide +kernel
theorem dX6_passSign_0 : decode cX6_passSign 0 = .ok (.aload_n 0, 1) := by decide +kernel
theorem dX6_passSign_1 : decode cX6_passSign 1 = .ok (.iload_n 1, 1) := by decide +kernel
theorem dX6_passSign_2 : decode cX6_passSign 2 = .ok (.invokevirtual 64, 3) := by decide +kernel
theorem dX6_passSign_5 : decode cX6_passSign 5 = .ok (.ifCond .ne 8, 3) := by decide +kernel
theorem dX6_passSign_8 : decode cX6_passSign 8 = .ok (.aload_n 0, 1) := by decide +kernel
theorem dX6_passSign_9 : decode cX6_passSign 9 = .ok (.invokevirtual 60, 3) := by decide +kernel
theorem dX6_passSign_12 : decode cX6_passSign 12 = .ok (.ireturn, 1) := by decide +kernel
theorem dX6_passSign_13 : decode cX6_passSign 13 = .ok (.aload_n 0, 1) := by decide +kernel
theorem dX6_passSign_14 : decode cX6_passSign 14 = .ok (.invokevirtual 31, 3) := by decide +kernel
theorem dX6_passSign_17 : decode cX6_passSign 17 = .ok (.iconst 1, 1) := by decide +kernel
theorem dX6_passSign_18 : decode cX6_passSign 18 = .ok (.ireturn, 1) := by decide +kernel
theorem dX6_isNumber_0 : decode cX6_isNumber 0 = .ok (.aload_n 0, 1) := by decide +kernel
theorem dX6_isNumber_1 : decode cX6_isNumber 1 = .ok (.getfield 34, 3) := by decide +kernel
theorem dX6_isNumber_4 : decode cX6_isNumber 4 = .ok (.iconst 2, 1) := by decide +kernel
theorem dX6_isNumber_5 : decode cX6_isNumber 5 = .ok (.if_icmp .ne 29, 3) := by decide +kernel
theorem dX6_isNumber_8 : decode cX6_isNumber 8 = .ok (.aload_n 0, 1) := by decide +kernel
theorem dX6_isNumber_9 : decode cX6_isNumber 9 = .ok (.iload_n 1, 1) := by decide +kernel
theorem dX6_isNumber_10 : decode cX6_isNumber 10 = .ok (.invokevirtual 68, 3) := by decide +kernel
theorem dX6_isNumber_13 : decode cX6_isNumber 13 = .ok (.ifCond .eq 21, 3) := by decide +kernel
theorem dX6_isNumber_16 : decode cX6_isNumber 16 = .ok (.aload_n 0, 1) := by decide +kernel
theorem dX6_isNumber_17 : decode cX6_isNumber 17 = .ok (.getfield 37, 3) := by decide +kernel
theorem dX6_isNumber_20 : decode cX6_isNumber 20 = .ok (.iload_n 2, 1) := by decide +kernel
theorem dX6_isNumber_21 : decode cX6_isNumber 21 = .ok (.if_icmp .lt 13, 3) := by decide +kernel
theorem dX6_isNumber_24 : decode cX6_isNumber 24 = .ok (.aload_n 0, 1) := by decide +kernel
theorem dX6_isNumber_25 : decode cX6_isNumber 25 = .ok (.getfield 37, 3) := by decide +kernel
theorem dX6_isNumber_28 : decode cX6_isNumber 28 = .ok (.iload_n 3, 1) := by decide +kernel
theorem dX6_isNumber_29 : decode cX6_isNumber 29 = .ok (.if_icmp .gt 5, 3) := by decide +kernel
theorem dX6_isNumber_32 : decode cX6_isNumber 32 = .ok (.iconst 1, 1) := by decide +kernel
theorem dX6_isNumber_33 : decode cX6_isNumber 33 = .ok (.ireturn, 1) := by decide +kernel
theorem dX6_isNumber_34 : decode cX6_isNumber 34 = .ok (.aload_n 0, 1) := by decide +kernel
theorem dX6_isNumber_35 : decode cX6_isNumber 35 = .ok (.invokevirtual 60, 3) := by decide +kernel
theorem dX6_isNumber_38 : decode cX6_isNumber 38 = .ok (.ireturn, 1) := by decide +kernel
theorem dX6_stepOver_0 : decode cX6_stepOver 0 = .ok (.aload_n 0, 1) := by decide +kernel
theorem dX6_stepOver_1 : decode cX6_stepOver 1 = .ok (.getfield 37, 3) := by decide +kernel
theorem dX6_stepOver_4 : decode cX6_stepOver 4 = .ok (.istore_n 1, 1) := by decide +kernel
theorem dX6_stepOver_5 : decode cX6_stepOver 5 = .ok (.aload_n 0, 1) := by decide +kernel
theorem dX6_stepOver_6 : decode cX6_stepOver 6 = .ok (.invokevirtual 31, 3) := by decide +kernel
theorem dX6_stepOver_9 : decode cX6_stepOver 9 = .ok (.iload_n 1, 1) := by decide +kernel
theorem dX6_stepOver_10 : decode cX6_stepOver 10 = .ok (.ireturn, 1) := by decide +kernel
theorem dX7_init_0 : decode cX7_init 0 = .ok (.aload_n 0, 1) := by decide +kernel
theorem dX7_init_1 : decode cX7_init 1 = .ok (.invokespecial 3, 3) := by decide +kernel
theorem dX7_init_4 : decode cX7_init 4 = .ok (.aload_n 0, 1) := by decide +kernel
theorem dX7_init_5 : decode cX7_init 5 = .ok (.sipush 168, 3) := by decide +kernel
theorem dX7_init_8 : decode cX7_init 8 = .ok (.newarray .int, 2) := by decide +kernel
theorem dX7_init_10 : decode cX7_init 10 = .ok (.putfield 9, 3) := by decide +kernel
theorem dX7_init_13 : decode cX7_init 13 = .ok (.aload_n 0, 1) := by decide +kernel
theorem dX7_init_14 : decode cX7_init 14 = .ok (.sipush 168, 3) := by decide +kernel
theorem dX7_init_17 : decode cX7_init 17 = .ok (.newarray .int, 2) := by decide +kernel
theorem dX7_init_19 : decode cX7_init 19 = .ok (.putfield 15, 3) := by decide +kernel
theorem dX7_init_22 : decode cX7_init 22 = .ok (.aload_n 0, 1) := by decide +kernel
theorem dX7_init_23 : decode cX7_init 23 = .ok (.sipush 168, 3) := by decide +kernel
theorem dX7_init_26 : decode cX7_init 26 = .ok (.newarray .int, 2) := by decide +kernel
theorem dX7_init_28 : decode cX7_init 28 = .ok (.putfield 18, 3) := by decide +kernel
theorem dX7_init_31 : decode cX7_init 31 = .ok (.aload_n 0, 1) := by decide +kernel
theorem dX7_init_32 : decode cX7_init 32 = .ok (.bipush 10, 2) := by decide +kernel
theorem dX7_init_34 : decode cX7_init 34 = .ok (.newarray .int, 2) := by decide +kernel
theorem dX7_init_36 : decode cX7_init 36 = .ok (.putfield 21, 3) := by decide +kernel
theorem dX7_init_39 : decode cX7_init 39 = .ok (.aload_n 0, 1) := by decide +kernel
theorem dX7_init_40 : decode cX7_init 40 = .ok (.bipush 10, 2) := by decide +kernel
theorem dX7_init_42 : decode cX7_init 42 = .ok (.newarray .int, 2) := by decide +kernel
theorem dX7_init_44 : decode cX7_init 44 = .ok (.putfield 24, 3) := by decide +kernel
theorem dX7_init_47 : decode cX7_init 47 = .ok (.aload_n 0, 1) := by decide +kernel
theorem dX7_init_48 : decode cX7_init 48 = .ok (.bipush 80, 2) := by decide +kernel
theorem dX7_init_50 : decode cX7_init 50 = .ok (.newarray .int, 2) := by decide +kernel
theorem dX7_init_52 : decode cX7_init 52 = .ok (.putfield 27, 3) := by decide +kernel
theorem dX7_init_55 : decode cX7_init 55 = .ok (.aload_n 0, 1) := by decide +kernel
theorem dX7_init_56 : decode cX7_init 56 = .ok (.iconst 1, 1) := by decide +kernel
theorem dX7_init_57 : decode cX7_init 57 = .ok (.putfield 30, 3) := by decide +kernel
theorem dX7_init_60 : decode cX7_init 60 = .ok (.aload_n 0, 1) := by decide +kernel
theorem dX7_init_61 : decode cX7_init 61 = .ok (.getfield 9, 3) := by decide +kernel
theorem dX7_init_64 : decode cX7_init 64 = .ok (.iconst (-1), 1) := by decide +kernel
theorem dX7_init_65 : decode cX7_init 65 = .ok (.invokestatic 34, 3) := by decide +kernel
theorem dX7_init_68 : decode cX7_init 68 = .ok (.aload_n 0, 1) := by decide +kernel
theorem dX7_init_69 : decode cX7_init 69 = .ok (.getfield 15, 3) := by decide +kernel
theorem dX7_init_72 : decode cX7_init 72 = .ok (.iconst (-1), 1) := by decide +kernel
theorem dX7_init_73 : decode cX7_init 73 = .ok (.invokestatic 34, 3) := by decide +kernel
theorem dX7_init_76 : decode cX7_init 76 = .ok (.return_, 1) := by decide +kernel
theorem dX7_copyFrom_0 : decode cX7_copyFrom 0 = .ok (.aload_n 1, 1) := by decide +kernel
theorem dX7_copyFrom_1 : decode cX7_copyFrom 1 = .ok (.getfield 9, 3) := by decide +kernel
theorem dX7_copyFrom_4 : decode cX7_copyFrom 4 = .ok (.iconst 0, 1) := by decide +kernel
theorem dX7_copyFrom_5 : decode cX7_copyFrom 5 = .ok (.aload_n 0, 1) := by decide +kernel
theorem dX7_copyFrom_6 : decode cX7_copyFrom 6 = .ok (.getfield 9, 3) := by decide +kernel
theorem dX7_copyFrom_9 : decode cX7_copyFrom 9 = .ok (.iconst 0, 1) := by decide +kernel
theorem dX7_copyFrom_10 : decode cX7_copyFrom 10 = .ok (.sipush 168, 3) := by decide +kernel
theorem dX7_copyFrom_13 : decode cX7_copyFrom 13 = .ok (.invokestatic 40, 3) := by decide +kernel
theorem dX7_copyFrom_16 : decode cX7_copyFrom 16 = .ok (.aload_n 1, 1) := by decide +kernel
theorem dX7_copyFrom_17 : decode cX7_copyFrom 17 = .ok (.getfield 15, 3) := by decide +kernel
theorem dX7_copyFrom_20 : decode cX7_copyFrom 20 = .ok (.iconst 0, 1) := by decide +kernel
theorem dX7_copyFrom_21 : decode cX7_copyFrom 21 = .ok (.aload_n 0, 1) := by decide +kernel
theorem dX7_copyFrom_22 : decode cX7_copyFrom 22 = .ok (.getfield 15, 3) := by decide +kernel
theorem dX7_copyFrom_25 : decode cX7_copyFrom 25 = .ok (.iconst 0, 1) := by decide +kernel
theorem dX7_copyFrom_26 : decode cX7_copyFrom 26 = .ok (.sipush 168, 3) := by decide +kernel
theorem dX7_copyFrom_29 : decode cX7_copyFrom 29 = .ok (.invokestatic 40, 3) := by decide +kernel
theorem dX7_copyFrom_32 : decode cX7_copyFrom 32 = .ok (.aload_n 1, 1) := by decide +kernel
theorem dX7_copyFrom_33 : decode cX7_copyFrom 33 = .ok (.getfield 18, 3) := by decide +kernel
theorem dX7_copyFrom_36 : decode cX7_copyFrom 36 = .ok (.iconst 0, 1) := by decide +kernel
theorem dX7_copyFrom_37 : decode cX7_copyFrom 37 = .ok (.aload_n 0, 1) := by decide +kernel
theorem dX7_copyFrom_38 : decode cX7_copyFrom 38 = .ok (.getfield 18, 3) := by decide +kernel
theorem dX7_copyFrom_41 : decode cX7_copyFrom 41 = .ok (.iconst 0, 1) := by decide +kernel
theorem dX7_copyFrom_42 : decode cX7_copyFrom 42 = .ok (.sipush 168, 3) := by decide +kernel
theorem dX7_copyFrom_45 : decode cX7_copyFrom 45 = .ok (.invokestatic 40, 3) := by decide +kernel
theorem dX7_copyFrom_48 : decode cX7_copyFrom 48 = .ok (.aload_n 1, 1) := by decide +kernel
theorem dX7_copyFrom_49 : decode cX7_copyFrom 49 = .ok (.getfield 21, 3) := by decide +kernel
theorem dX7_copyFrom_52 : decode cX7_copyFrom 52 = .ok (.iconst 0, 1) := by decide +kernel
theorem dX7_copyFrom_53 : decode cX7_copyFrom 53 = .ok (.aload_n 0, 1) := by decide +kernel
theorem dX7_copyFrom_54 : decode cX7_copyFrom 54 = .ok (.getfield 21, 3) := by decide +kernel
theorem dX7_copyFrom_57 : decode cX7_copyFrom 57 = .ok (.iconst 0, 1) := by decide +kernel
theorem dX7_copyFrom_58 : decode cX7_copyFrom 58 = .ok (.bipush 10, 2) := by decide +kernel
theorem dX7_copyFrom_60 : decode cX7_copyFrom 60 = .ok (.invokestatic 40, 3) := by decide +kernel
theorem dX7_copyFrom_63 : decode cX7_copyFrom 63 = .ok (.aload_n 1, 1) := by decide +kernel
theorem dX7_copyFrom_64 : decode cX7_copyFrom 64 = .ok (.getfield 24, 3) := by decide +kernel
theorem dX7_copyFrom_67 : decode cX7_copyFrom 67 = .ok (.iconst 0, 1) := by decide +kernel
theorem dX7_copyFrom_68 : decode cX7_copyFrom 68 = .ok (.aload_n 0, 1) := by decide +kernel
theorem dX7_copyFrom_69 : decode cX7_copyFrom 69 = .ok (.getfield 24, 3) := by decide +kernel
theorem dX7_copyFrom_72 : decode cX7_copyFrom 72 = .ok (.iconst 0, 1) := by decide +kernel
theorem dX7_copyFrom_73 : decode cX7_copyFrom 73 = .ok (.bipush 10, 2) := by decide +kernel
theorem dX7_copyFrom_75 : decode cX7_copyFrom 75 = .ok (.invokestatic 40, 3) := by decide +kernel
theorem dX7_copyFrom_78 : decode cX7_copyFrom 78 = .ok (.aload_n 1, 1) := by decide +kernel
theorem dX7_copyFrom_79 : decode cX7_copyFrom 79 = .ok (.getfield 27, 3) := by decide +kernel
theorem dX7_copyFrom_82 : decode cX7_copyFrom 82 = .ok (.iconst 0, 1) := by decide +kernel
theorem dX7_copyFrom_83 : decode cX7_copyFrom 83 = .ok (.aload_n 0, 1) := by decide +kernel
theorem dX7_copyFrom_84 : decode cX7_copyFrom 84 = .ok (.getfield 27, 3) := by decide +kernel
theorem dX7_copyFrom_87 : decode cX7_copyFrom 87 = .ok (.iconst 0, 1) := by decide +kernel
theorem dX7_copyFrom_88 : decode cX7_copyFrom 88 = .ok (.bipush 80, 2) := by decide +kernel
theorem dX7_copyFrom_90 : decode cX7_copyFrom 90 = .ok (.invokestatic 40, 3) := by decide +kernel
theorem dX7_copyFrom_93 : decode cX7_copyFrom 93 = .ok (.aload_n 0, 1) := by decide +kernel
theorem dX7_copyFrom_94 : decode cX7_copyFrom 94 = .ok (.aload_n 1, 1) := by decide +kernel
theorem dX7_copyFrom_95 : decode cX7_copyFrom 95 = .ok (.getfield 46, 3) := by decide +kernel
theorem dX7_copyFrom_98 : decode cX7_copyFrom 98 = .ok (.putfield 46, 3) := by decide +kernel
theorem dX7_copyFrom_101 : decode cX7_copyFrom 101 = .ok (.aload_n 0, 1) := by decide +kernel
theorem dX7_copyFrom_102 : decode cX7_copyFrom 102 = .ok (.aload_n 1, 1) := by decide +kernel
theorem dX7_copyFrom_103 : decode cX7_copyFrom 103 = .ok (.getfield 49, 3) := by decide +kernel
theorem dX7_copyFrom_106 : decode cX7_copyFrom 106 = .ok (.putfield 49, 3) := by decide +kernel
theorem dX7_copyFrom_109 : decode cX7_copyFrom 109 = .ok (.aload_n 0, 1) := by decide +kernel
theorem dX7_copyFrom_110 : decode cX7_copyFrom 110 = .ok (.aload_n 1, 1) := by decide +kernel
theorem dX7_copyFrom_111 : decode cX7_copyFrom 111 = .ok (.getfield 52, 3) := by decide +kernel
theorem dX7_copyFrom_114 : decode cX7_copyFrom 114 = .ok (.putfield 52, 3) := by decide +kernel
theorem dX7_copyFrom_117 : decode cX7_copyFrom 117 = .ok (.aload_n 0, 1) := by decide +kernel
theorem dX7_copyFrom_118 : decode cX7_copyFrom 118 = .ok (.aload_n 1, 1) := by decide +kernel
theorem dX7_copyFrom_119 : decode cX7_copyFrom 119 = .ok (.getfield 55, 3) := by decide +kernel
theorem dX7_copyFrom_122 : decode cX7_copyFrom 122 = .ok (.putfield 55, 3) := by decide +kernel
theorem dX7_copyFrom_125 : decode cX7_copyFrom 125 = .ok (.aload_n 0, 1) := by decide +kernel
theorem dX7_copyFrom_126 : decode cX7_copyFrom 126 = .ok (.aload_n 1, 1) := by decide +kernel
theorem dX7_copyFrom_127 : decode cX7_copyFrom 127 = .ok (.getfield 58, 3) := by decide +kernel
theorem dX7_copyFrom_130 : decode cX7_copyFrom 130 = .ok (.putfield 58, 3) := by decide +kernel
theorem dX7_copyFrom_133 : decode cX7_copyFrom 133 = .ok (.aload_n 0, 1) := by decide +kernel
theorem dX7_copyFrom_134 : decode cX7_copyFrom 134 = .ok (.aload_n 1, 1) := by decide +kernel
theorem dX7_copyFrom_135 : decode cX7_copyFrom 135 = .ok (.getfield 30, 3) := by decide +kernel
theorem dX7_copyFrom_138 : decode cX7_copyFrom 138 = .ok (.putfield 30, 3) := by decide +kernel
theorem dX7_copyFrom_141 : decode cX7_copyFrom 141 = .ok (.return_, 1) := by decide +kernel
theorem dX7_livesIn_0 : decode cX7_livesIn 0 = .ok (.aload_n 0, 1) := by decide +kernel
theorem dX7_livesIn_1 : decode cX7_livesIn 1 = .ok (.getfield 15, 3) := by decide +kernel
theorem dX7_livesIn_4 : decode cX7_livesIn 4 = .ok (.iload_n 1, 1) := by decide +kernel
theorem dX7_livesIn_5 : decode cX7_livesIn 5 = .ok (.iaload, 1) := by decide +kernel
theorem dX7_livesIn_6 : decode cX7_livesIn 6 = .ok (.iconst (-1), 1) := by decide +kernel
theorem dX7_livesIn_7 : decode cX7_livesIn 7 = .ok (.if_icmp .eq 12, 3) := by decide +kernel
theorem dX7_livesIn_10 : decode cX7_livesIn 10 = .ok (.aload_n 0, 1) := by decide +kernel
theorem dX7_livesIn_11 : decode cX7_livesIn 11 = .ok (.getfield 15, 3) := by decide +kernel
theorem dX7_livesIn_14 : decode cX7_livesIn 14 = .ok (.iload_n 1, 1) := by decide +kernel
theorem dX7_livesIn_15 : decode cX7_livesIn 15 = .ok (.iaload, 1) := by decide +kernel
theorem dX7_livesIn_16 : decode cX7_livesIn 16 = .ok (.goto 9, 3) := by decide +kernel
theorem dX7_livesIn_19 : decode cX7_livesIn 19 = .ok (.aload_n 0, 1) := by decide +kernel
theorem dX7_livesIn_20 : decode cX7_livesIn 20 = .ok (.getfield 9, 3) := by decide +kernel
theorem dX7_livesIn_23 : decode cX7_livesIn 23 = .ok (.iload_n 1, 1) := by decide +kernel
theorem dX7_livesIn_24 : decode cX7_livesIn 24 = .ok (.iaload, 1) := by decide +kernel
theorem dX7_livesIn_25 : decode cX7_livesIn 25 = .ok (.ireturn, 1) := by decide +kernel
theorem dX7_setOwner_0 : decode cX7_setOwner 0 = .ok (.aload_n 0, 1) := by decide +kernel
theorem dX7_setOwner_1 : decode cX7_setOwner 1 = .ok (.iload_n 1, 1) := by decide +kernel
theorem dX7_setOwner_2 : decode cX7_setOwner 2 = .ok (.invokevirtual 61, 3) := by decide +kernel
theorem dX7_setOwner_5 : decode cX7_setOwner 5 = .ok (.aload_n 0, 1) := by decide +kernel
theorem dX7_setOwner_6 : decode cX7_setOwner 6 = .ok (.getfield 9, 3) := by decide +kernel
theorem dX7_setOwner_9 : decode cX7_setOwner 9 = .ok (.iload_n 1, 1) := by decide +kernel
theorem dX7_setOwner_10 : decode cX7_setOwner 10 = .ok (.iload_n 2, 1) := by decide +kernel
theorem dX7_setOwner_11 : decode cX7_setOwner 11 = .ok (.iastore, 1) := by decide +kernel
theorem dX7_setOwner_12 : decode cX7_setOwner 12 = .ok (.aload_n 0, 1) := by decide +kernel
theorem dX7_setOwner_13 : decode cX7_setOwner 13 = .ok (.getfield 24, 3) := by decide +kernel
theorem dX7_setOwner_16 : decode cX7_setOwner 16 = .ok (.iload_n 2, 1) := by decide +kernel
theorem dX7_setOwner_17 : decode cX7_setOwner 17 = .ok (.dup2, 1) := by decide +kernel
theorem dX7_setOwner_18 : decode cX7_setOwner 18 = .ok (.iaload, 1) := by decide +kernel
theorem dX7_setOwner_19 : decode cX7_setOwner 19 = .ok (.iconst 1, 1) := by decide +kernel
theorem dX7_setOwner_20 : decode cX7_setOwner 20 = .ok (.iadd, 1) := by decide +kernel
theorem dX7_setOwner_21 : decode cX7_setOwner 21 = .ok (.iastore, 1) := by decide +kernel
theorem dX7_setOwner_22 : decode cX7_setOwner 22 = .ok (.return_, 1) := by decide +kernel
theorem dX7_free_0 : decode cX7_free 0 = .ok (.aload_n 0, 1) := by decide +kernel
theorem dX7_free_1 : decode cX7_free 1 = .ok (.getfield 9, 3) := by decide +kernel
theorem dX7_free_4 : decode cX7_free 4 = .ok (.iload_n 1, 1) := by decide +kernel
theorem dX7_free_5 : decode cX7_free 5 = .ok (.iaload, 1) := by decide +kernel
theorem dX7_free_6 : decode cX7_free 6 = .ok (.iconst (-1), 1) := by decide +kernel
theorem dX7_free_7 : decode cX7_free 7 = .ok (.if_icmp .eq 18, 3) := by decide +kernel
theorem dX7_free_10 : decode cX7_free 10 = .ok (.aload_n 0, 1) := by decide +kernel
theorem dX7_free_11 : decode cX7_free 11 = .ok (.getfield 24, 3) := by decide +kernel
theorem dX7_free_14 : decode cX7_free 14 = .ok (.aload_n 0, 1) := by decide +kernel
theorem dX7_free_15 : decode cX7_free 15 = .ok (.getfield 9, 3) := by decide +kernel
theorem dX7_free_18 : decode cX7_free 18 = .ok (.iload_n 1, 1) := by decide +kernel
theorem dX7_free_19 : decode cX7_free 19 = .ok (.iaload, 1) := by decide +kernel
theorem dX7_free_20 : decode cX7_free 20 = .ok (.dup2, 1) := by decide +kernel
theorem dX7_free_21 : decode cX7_free 21 = .ok (.iaload, 1) := by decide +kernel
theorem dX7_free_22 : decode cX7_free 22 = .ok (.iconst 1, 1) := by decide +kernel
theorem dX7_free_23 : decode cX7_free 23 = .ok (.isub, 1) := by decide +kernel
theorem dX7_free_24 : decode cX7_free 24 = .ok (.iastore, 1) := by decide +kernel
theorem dX7_free_25 : decode cX7_free 25 = .ok (.aload_n 0, 1) := by decide +kernel
theorem dX7_free_26 : decode cX7_free 26 = .ok (.getfield 9, 3) := by decide +kernel
theorem dX7_free_29 : decode cX7_free 29 = .ok (.iload_n 1, 1) := by decide +kernel
theorem dX7_free_30 : decode cX7_free 30 = .ok (.iconst (-1), 1) := by decide +kernel
theorem dX7_free_31 : decode cX7_free 31 = .ok (.iastore, 1) := by decide +kernel
theorem dX7_free_32 : decode cX7_free 32 = .ok (.aload_n 0, 1) := by decide +kernel
theorem dX7_free_33 : decode cX7_free 33 = .ok (.getfield 15, 3) := by decide +kernel
theorem dX7_free_36 : decode cX7_free 36 = .ok (.iload_n 1, 1) := by decide +kernel
theorem dX7_free_37 : decode cX7_free 37 = .ok (.iconst (-1), 1) := by decide +kernel
theorem dX7_free_38 : decode cX7_free 38 = .ok (.iastore, 1) := by decide +kernel
theorem dX7_free_39 : decode cX7_free 39 = .ok (.return_, 1) := by decide +kernel
theorem dX7_comeTo_0 : decode cX7_comeTo 0 = .ok (.aload_n 0, 1) := by decide +kernel
theorem dX7_comeTo_1 : decode cX7_comeTo 1 = .ok (.iload_n 1, 1) := by decide +kernel
theorem dX7_comeTo_2 : decode cX7_comeTo 2 = .ok (.iload_n 2, 1) := by decide +kernel
theorem dX7_comeTo_3 : decode cX7_comeTo 3 = .ok (.invokevirtual 65, 3) := by decide +kernel
theorem dX7_comeTo_6 : decode cX7_comeTo 6 = .ok (.aload_n 0, 1) := by decide +kernel
theorem dX7_comeTo_7 : decode cX7_comeTo 7 = .ok (.iload_n 1, 1) := by decide +kernel
theorem dX7_comeTo_8 : decode cX7_comeTo 8 = .ok (.iload_n 2, 1) := by decide +kernel
theorem dX7_comeTo_9 : decode cX7_comeTo 9 = .ok (.iload_n 3, 1) := by decide +kernel
theorem dX7_comeTo_10 : decode cX7_comeTo 10 = .ok (.invokevirtual 69, 3) := by decide +kernel
theorem dX7_comeTo_13 : decode cX7_comeTo 13 = .ok (.return_, 1) := by decide +kernel
theorem dX7_enter_0 : decode cX7_enter 0 = .ok (.aload_n 0, 1) := by decide +kernel
theorem dX7_enter_1 : decode cX7_enter 1 = .ok (.getfield 27, 3) := by decide +kernel
theorem dX7_enter_4 : decode cX7_enter 4 = .ok (.aload_n 0, 1) := by decide +kernel
theorem dX7_enter_5 : decode cX7_enter 5 = .ok (.getfield 46, 3) := by decide +kernel
theorem dX7_enter_8 : decode cX7_enter 8 = .ok (.aload_n 0, 1) := by decide +kernel
theorem dX7_enter_9 : decode cX7_enter 9 = .ok (.getfield 55, 3) := by decide +kernel
theorem dX7_enter_12 : decode cX7_enter 12 = .ok (.bipush 15, 2) := by decide +kernel
theorem dX7_enter_14 : decode cX7_enter 14 = .ok (.ishl, 1) := by decide +kernel
theorem dX7_enter_15 : decode cX7_enter 15 = .ok (.iload_n 1, 1) := by decide +kernel
theorem dX7_enter_16 : decode cX7_enter 16 = .ok (.bipush 7, 2) := by decide +kernel
theorem dX7_enter_18 : decode cX7_enter 18 = .ok (.ishl, 1) := by decide +kernel
theorem dX7_enter_19 : decode cX7_enter 19 = .ok (.ior, 1) := by decide +kernel
theorem dX7_enter_20 : decode cX7_enter 20 = .ok (.iload_n 2, 1) := by decide +kernel
theorem dX7_enter_21 : decode cX7_enter 21 = .ok (.iconst 3, 1) := by decide +kernel
theorem dX7_enter_22 : decode cX7_enter 22 = .ok (.ishl, 1) := by decide +kernel
theorem dX7_enter_23 : decode cX7_enter 23 = .ok (.ior, 1) := by decide +kernel
theorem dX7_enter_24 : decode cX7_enter 24 = .ok (.iload_n 3, 1) := by decide +kernel
theorem dX7_enter_25 : decode cX7_enter 25 = .ok (.ior, 1) := by decide +kernel
theorem dX7_enter_26 : decode cX7_enter 26 = .ok (.iastore, 1) := by decide +kernel
theorem dX7_enter_27 : decode cX7_enter 27 = .ok (.aload_n 0, 1) := by decide +kernel
theorem dX7_enter_28 : decode cX7_enter 28 = .ok (.aload_n 0, 1) := by decide +kernel
theorem dX7_enter_29 : decode cX7_enter 29 = .ok (.getfield 46, 3) := by decide +kernel
theorem dX7_enter_32 : decode cX7_enter 32 = .ok (.iconst 1, 1) := by decide +kernel
theorem dX7_enter_33 : decode cX7_enter 33 = .ok (.iadd, 1) := by decide +kernel
theorem dX7_enter_34 : decode cX7_enter 34 = .ok (.bipush 80, 2) := by decide +kernel
theorem dX7_enter_36 : decode cX7_enter 36 = .ok (.irem, 1) := by decide +kernel
theorem dX7_enter_37 : decode cX7_enter 37 = .ok (.putfield 46, 3) := by decide +kernel
theorem dX7_enter_40 : decode cX7_enter 40 = .ok (.aload_n 0, 1) := by decide +kernel
theorem dX7_enter_41 : decode cX7_enter 41 = .ok (.aload_n 0, 1) := by decide +kernel
theorem dX7_enter_42 : decode cX7_enter 42 = .ok (.getfield 49, 3) := by decide +kernel
theorem dX7_enter_45 : decode cX7_enter 45 = .ok (.iconst 1, 1) := by decide +kernel
theorem dX7_enter_46 : decode cX7_enter 46 = .ok (.iadd, 1) := by decide +kernel
theorem dX7_enter_47 : decode cX7_enter 47 = .ok (.bipush 80, 2) := by decide +kernel
theorem dX7_enter_49 : decode cX7_enter 49 = .ok (.invokestatic 73, 3) := by decide +kernel
theorem dX7_enter_52 : decode cX7_enter 52 = .ok (.putfield 49, 3) := by decide +kernel
theorem dX7_enter_55 : decode cX7_enter 55 = .ok (.return_, 1) := by decide +kernel
theorem dX7_entryAgo_0 : decode cX7_entryAgo 0 = .ok (.aload_n 0, 1) := by decide +kernel
theorem dX7_entryAgo_1 : decode cX7_entryAgo 1 = .ok (.getfield 27, 3) := by decide +kernel
theorem dX7_entryAgo_4 : decode cX7_entryAgo 4 = .ok (.aload_n 0, 1) := by decide +kernel
theorem dX7_entryAgo_5 : decode cX7_entryAgo 5 = .ok (.getfield 46, 3) := by decide +kernel
theorem dX7_entryAgo_8 : decode cX7_entryAgo 8 = .ok (.iconst 1, 1) := by decide +kernel
theorem dX7_entryAgo_9 : decode cX7_entryAgo 9 = .ok (.isub, 1) := by decide +kernel
theorem dX7_entryAgo_10 : decode cX7_entryAgo 10 = .ok (.iload_n 1, 1) := by decide +kernel
theorem dX7_entryAgo_11 : decode cX7_entryAgo 11 = .ok (.isub, 1) := by decide +kernel
theorem dX7_entryAgo_12 : decode cX7_entryAgo 12 = .ok (.bipush 80, 2) := by decide +kernel
theorem dX7_entryAgo_14 : decode cX7_entryAgo 14 = .ok (.invokestatic 79, 3) := by decide +kernel
theorem dX7_entryAgo_17 : decode cX7_entryAgo 17 = .ok (.iaload, 1) := by decide +kernel
theorem dX7_entryAgo_18 : decode cX7_entryAgo 18 = .ok (.ireturn, 1) := by decide +kernel
theorem dX7_weekOf_0 : decode cX7_weekOf 0 = .ok (.iload_n 0, 1) := by decide +kernel
theorem dX7_weekOf_1 : decode cX7_weekOf 1 = .ok (.bipush 15, 2) := by decide +kernel
theorem dX7_weekOf_3 : decode cX7_weekOf 3 = .ok (.iushr, 1) := by decide +kernel
theorem dX7_weekOf_4 : decode cX7_weekOf 4 = .ok (.ireturn, 1) := by decide +kernel
theorem dX7_roomIn_0 : decode cX7_roomIn 0 = .ok (.iload_n 0, 1) := by decide +kernel
theorem dX7_roomIn_1 : decode cX7_roomIn 1 = .ok (.bipush 7, 2) := by decide +kernel
theorem dX7_roomIn_3 : decode cX7_roomIn 3 = .ok (.iushr, 1) := by decide +kernel
theorem dX7_roomIn_4 : decode cX7_roomIn 4 = .ok (.sipush 255, 3) := by decide +kernel
theorem dX7_roomIn_7 : decode cX7_roomIn 7 = .ok (.iand, 1) := by decide +kernel
theorem dX7_roomIn_8 : decode cX7_roomIn 8 = .ok (.ireturn, 1) := by decide +kernel
theorem dX7_whoOf_0 : decode cX7_whoOf 0 = .ok (.iload_n 0, 1) := by decide +kernel
theorem dX7_whoOf_1 : decode cX7_whoOf 1 = .ok (.iconst 3, 1) := by decide +kernel
theorem dX7_whoOf_2 : decode cX7_whoOf 2 = .ok (.iushr, 1) := by decide +kernel
theorem dX7_whoOf_3 : decode cX7_whoOf 3 = .ok (.bipush 15, 2) := by decide +kernel
theorem dX7_whoOf_5 : decode cX7_whoOf 5 = .ok (.iand, 1) := by decide +kernel
theorem dX7_whoOf_6 : decode cX7_whoOf 6 = .ok (.ireturn, 1) := by decide +kernel
theorem dX7_howOf_0 : decode cX7_howOf 0 = .ok (.iload_n 0, 1) := by decide +kernel
theorem dX7_howOf_1 : decode cX7_howOf 1 = .ok (.bipush 7, 2) := by decide +kernel
theorem dX7_howOf_3 : decode cX7_howOf 3 = .ok (.iand, 1) := by decide +kernel
theorem dX7_howOf_4 : decode cX7_howOf 4 = .ok (.ireturn, 1) := by decide +kernel
theorem dX7_draw_0 : decode cX7_draw 0 = .ok (.aload_n 0, 1) := by decide +kernel
theorem dX7_draw_1 : decode cX7_draw 1 = .ok (.ldc 82, 2) := by decide +kernel
theorem dX7_draw_3 : decode cX7_draw 3 = .ok (.aload_n 0, 1) := by decide +kernel
theorem dX7_draw_4 : decode cX7_draw 4 = .ok (.getfield 30, 3) := by decide +kernel
theorem dX7_draw_7 : decode cX7_draw 7 = .ok (.imul, 1) := by decide +kernel
theorem dX7_draw_8 : decode cX7_draw 8 = .ok (.sipush 12345, 3) := by decide +kernel
theorem dX7_draw_11 : decode cX7_draw 11 = .ok (.iadd, 1) := by decide +kernel
theorem dX7_draw_12 : decode cX7_draw 12 = .ok (.putfield 30, 3) := by decide +kernel
theorem dX7_draw_15 : decode cX7_draw 15 = .ok (.aload_n 0, 1) := by decide +kernel
theorem dX7_draw_16 : decode cX7_draw 16 = .ok (.getfield 30, 3) := by decide +kernel
theorem dX7_draw_19 : decode cX7_draw 19 = .ok (.bipush 16, 2) := by decide +kernel
theorem dX7_draw_21 : decode cX7_draw 21 = .ok (.iushr, 1) := by decide +kernel
theorem dX7_draw_22 : decode cX7_draw 22 = .ok (.sipush 32767, 3) := by decide +kernel
theorem dX7_draw_25 : decode cX7_draw 25 = .ok (.iand, 1) := by decide +kernel
theorem dX7_draw_26 : decode cX7_draw 26 = .ok (.ireturn, 1) := by decide +kernel
theorem dX3_init_0 : decode cX3_init 0 = .ok (.aload_n 0, 1) := by decide +kernel
theorem dX3_init_1 : decode cX3_init 1 = .ok (.aload_n 1, 1) := by decide +kernel
theorem dX3_init_2 : decode cX3_init 2 = .ok (.invokespecial 3, 3) := by decide +kernel
theorem dX3_init_5 : decode cX3_init 5 = .ok (.aload_n 0, 1) := by decide +kernel
theorem dX3_init_6 : decode cX3_init 6 = .ok (.bipush 40, 2) := by decide +kernel
theorem dX3_init_8 : decode cX3_init 8 = .ok (.newarray .int, 2) := by decide +kernel
theorem dX3_init_10 : decode cX3_init 10 = .ok (.putfield 11, 3) := by decide +kernel
theorem dX3_init_13 : decode cX3_init 13 = .ok (.aload_n 0, 1) := by decide +kernel
theorem dX3_init_14 : decode cX3_init 14 = .ok (.aload_n 2, 1) := by decide +kernel
theorem dX3_init_15 : decode cX3_init 15 = .ok (.putfield 15, 3) := by decide +kernel
theorem dX3_init_18 : decode cX3_init 18 = .ok (.return_, 1) := by decide +kernel
theorem dX3_readLaw_0 : decode cX3_readLaw 0 = .ok (.aload_n 0, 1) := by decide +kernel
theorem dX3_readLaw_1 : decode cX3_readLaw 1 = .ok (.iload_n 1, 1) := by decide +kernel
theorem dX3_readLaw_2 : decode cX3_readLaw 2 = .ok (.invokevirtual 19, 3) := by decide +kernel
theorem dX3_readLaw_5 : decode cX3_readLaw 5 = .ok (.aload_n 0, 1) := by decide +kernel
theorem dX3_readLaw_6 : decode cX3_readLaw 6 = .ok (.getfield 15, 3) := by decide +kernel
theorem dX3_readLaw_9 : decode cX3_readLaw 9 = .ok (.invokevirtual 23, 3) := by decide +kernel
theorem dX3_readLaw_12 : decode cX3_readLaw 12 = .ok (.aload_n 0, 1) := by decide +kernel
theorem dX3_readLaw_13 : decode cX3_readLaw 13 = .ok (.invokevirtual 29, 3) := by decide +kernel
theorem dX3_readLaw_16 : decode cX3_readLaw 16 = .ok (.ifCond .ne 7, 3) := by decide +kernel
theorem dX3_readLaw_19 : decode cX3_readLaw 19 = .ok (.iconst 1, 1) := by decide +kernel
theorem dX3_readLaw_20 : decode cX3_readLaw 20 = .ok (.goto 4, 3) := by decide +kernel
theorem dX3_readLaw_23 : decode cX3_readLaw 23 = .ok (.iconst 0, 1) := by decide +kernel
theorem dX3_readLaw_24 : decode cX3_readLaw 24 = .ok (.istore_n 2, 1) := by decide +kernel
theorem dX3_readLaw_25 : decode cX3_readLaw 25 = .ok (.iconst 0, 1) := by decide +kernel
theorem dX3_readLaw_26 : decode cX3_readLaw 26 = .ok (.istore_n 3, 1) := by decide +kernel
theorem dX3_readLaw_27 : decode cX3_readLaw 27 = .ok (.iload_n 3, 1) := by decide +kernel
theorem dX3_readLaw_28 : decode cX3_readLaw 28 = .ok (.bipush 12, 2) := by decide +kernel
theorem dX3_readLaw_30 : decode cX3_readLaw 30 = .ok (.if_icmp .ge 49, 3) := by decide +kernel
theorem dX3_readLaw_33 : decode cX3_readLaw 33 = .ok (.iload_n 2, 1) := by decide +kernel
theorem dX3_readLaw_34 : decode cX3_readLaw 34 = .ok (.ifCond .eq 45, 3) := by decide +kernel
theorem dX3_readLaw_37 : decode cX3_readLaw 37 = .ok (.aload_n 0, 1) := by decide +kernel
theorem dX3_readLaw_38 : decode cX3_readLaw 38 = .ok (.invokevirtual 33, 3) := by decide +kernel
theorem dX3_readLaw_41 : decode cX3_readLaw 41 = .ok (.ifCond .eq 30, 3) := by decide +kernel
theorem dX3_readLaw_44 : decode cX3_readLaw 44 = .ok (.aload_n 0, 1) := by decide +kernel
theorem dX3_readLaw_45 : decode cX3_readLaw 45 = .ok (.invokevirtual 36, 3) := by decide +kernel
theorem dX3_readLaw_48 : decode cX3_readLaw 48 = .ok (.ifCond .eq 23, 3) := by decide +kernel
theorem dX3_readLaw_51 : decode cX3_readLaw 51 = .ok (.aload_n 0, 1) := by decide +kernel
theorem dX3_readLaw_52 : decode cX3_readLaw 52 = .ok (.invokevirtual 29, 3) := by decide +kernel
theorem dX3_readLaw_55 : decode cX3_readLaw 55 = .ok (.ifCond .ne 16, 3) := by decide +kernel
theorem dX3_readLaw_58 : decode cX3_readLaw 58 = .ok (.aload_n 0, 1) := by decide +kernel
theorem dX3_readLaw_59 : decode cX3_readLaw 59 = .ok (.bipush 59, 2) := by decide +kernel
theorem dX3_readLaw_61 : decode cX3_readLaw 61 = .ok (.invokevirtual 39, 3) := by decide +kernel
theorem dX3_readLaw_64 : decode cX3_readLaw 64 = .ok (.ifCond .eq 7, 3) := by decide +kernel
theorem dX3_readLaw_67 : decode cX3_readLaw 67 = .ok (.iconst 1, 1) := by decide +kernel
theorem dX3_readLaw_68 : decode cX3_readLaw 68 = .ok (.goto 4, 3) := by decide +kernel
theorem dX3_readLaw_71 : decode cX3_readLaw 71 = .ok (.iconst 0, 1) := by decide +kernel
theorem dX3_readLaw_72 : decode cX3_readLaw 72 = .ok (.istore_n 2, 1) := by decide +kernel
theorem dX3_readLaw_73 : decode cX3_readLaw 73 = .ok (.iinc 3 1, 3) := by decide +kernel
theorem dX3_readLaw_76 : decode cX3_readLaw 76 = .ok (.goto (-49), 3) := by decide +kernel
theorem dX3_readLaw_79 : decode cX3_readLaw 79 = .ok (.iload_n 2, 1) := by decide +kernel
theorem dX3_readLaw_80 : decode cX3_readLaw 80 = .ok (.ifCond .eq 8, 3) := by decide +kernel
theorem dX3_readLaw_83 : decode cX3_readLaw 83 = .ok (.aload_n 0, 1) := by decide +kernel
theorem dX3_readLaw_84 : decode cX3_readLaw 84 = .ok (.invokevirtual 43, 3) := by decide +kernel
theorem dX3_readLaw_87 : decode cX3_readLaw 87 = .ok (.pop, 1) := by decide +kernel
theorem dX3_readLaw_88 : decode cX3_readLaw 88 = .ok (.aload_n 0, 1) := by decide +kernel
theorem dX3_readLaw_89 : decode cX3_readLaw 89 = .ok (.invokevirtual 46, 3) := by decide +kernel
theorem dX3_readLaw_92 : decode cX3_readLaw 92 = .ok (.ireturn, 1) := by decide +kernel
theorem dX3_readHead_0 : decode cX3_readHead 0 = .ok (.aload_n 0, 1) := by decide +kernel
theorem dX3_readHead_1 : decode cX3_readHead 1 = .ok (.ldc 50, 2) := by decide +kernel
theorem dX3_readHead_3 : decode cX3_readHead 3 = .ok (.invokevirtual 52, 3) := by decide +kernel
theorem dX3_readHead_6 : decode cX3_readHead 6 = .ok (.ifCond .eq 18, 3) := by decide +kernel
theorem dX3_readHead_9 : decode cX3_readHead 9 = .ok (.aload_n 0, 1) := by decide +kernel
theorem dX3_readHead_10 : decode cX3_readHead 10 = .ok (.invokevirtual 56, 3) := by decide +kernel
theorem dX3_readHead_13 : decode cX3_readHead 13 = .ok (.aload_n 0, 1) := by decide +kernel
theorem dX3_readHead_14 : decode cX3_readHead 14 = .ok (.getfield 15, 3) := by decide +kernel
theorem dX3_readHead_17 : decode cX3_readHead 17 = .ok (.iconst 0, 1) := by decide +kernel
theorem dX3_readHead_18 : decode cX3_readHead 18 = .ok (.iconst 0, 1) := by decide +kernel
theorem dX3_readHead_19 : decode cX3_readHead 19 = .ok (.invokevirtual 59, 3) := by decide +kernel
theorem dX3_readHead_22 : decode cX3_readHead 22 = .ok (.iconst 1, 1) := by decide +kernel
theorem dX3_readHead_23 : decode cX3_readHead 23 = .ok (.ireturn, 1) := by decide +kernel
theorem dX3_readHead_24 : decode cX3_readHead 24 = .ok (.aload_n 0, 1) := by decide +kernel
theorem dX3_readHead_25 : decode cX3_readHead 25 = .ok (.ldc 63, 2) := by decide +kernel
theorem dX3_readHead_27 : decode cX3_readHead 27 = .ok (.invokevirtual 52, 3) := by decide +kernel
theorem dX3_readHead_30 : decode cX3_readHead 30 = .ok (.ifCond .ne 17, 3) := by decide +kernel
theorem dX3_readHead_33 : decode cX3_readHead 33 = .ok (.aload_n 0, 1) := by decide +kernel
theorem dX3_readHead_34 : decode cX3_readHead 34 = .ok (.ldc 65, 2) := by decide +kernel
theorem dX3_readHead_36 : decode cX3_readHead 36 = .ok (.invokevirtual 52, 3) := by decide +kernel
theorem dX3_readHead_39 : decode cX3_readHead 39 = .ok (.ifCond .ne 8, 3) := by decide +kernel
theorem dX3_readHead_42 : decode cX3_readHead 42 = .ok (.aload_n 0, 1) := by decide +kernel
theorem dX3_readHead_43 : decode cX3_readHead 43 = .ok (.invokevirtual 43, 3) := by decide +kernel
theorem dX3_readHead_46 : decode cX3_readHead 46 = .ok (.ireturn, 1) := by decide +kernel
theorem dX3_readHead_47 : decode cX3_readHead 47 = .ok (.aload_n 0, 1) := by decide +kernel
theorem dX3_readHead_48 : decode cX3_readHead 48 = .ok (.ldc 63, 2) := by decide +kernel
theorem dX3_readHead_50 : decode cX3_readHead 50 = .ok (.invokevirtual 52, 3) := by decide +kernel
theorem dX3_readHead_53 : decode cX3_readHead 53 = .ok (.ifCond .eq 7, 3) := by decide +kernel
theorem dX3_readHead_56 : decode cX3_readHead 56 = .ok (.iconst 1, 1) := by decide +kernel
theorem dX3_readHead_57 : decode cX3_readHead 57 = .ok (.goto 4, 3) := by decide +kernel
theorem dX3_readHead_60 : decode cX3_readHead 60 = .ok (.iconst 2, 1) := by decide +kernel
theorem dX3_readHead_61 : decode cX3_readHead 61 = .ok (.istore_n 1, 1) := by decide +kernel
theorem dX3_readHead_62 : decode cX3_readHead 62 = .ok (.aload_n 0, 1) := by decide +kernel
theorem dX3_readHead_63 : decode cX3_readHead 63 = .ok (.invokevirtual 56, 3) := by decide +kernel
theorem dX3_readHead_66 : decode cX3_readHead 66 = .ok (.aload_n 0, 1) := by decide +kernel
theorem dX3_readHead_67 : decode cX3_readHead 67 = .ok (.iconst 3, 1) := by decide +kernel
theorem dX3_readHead_68 : decode cX3_readHead 68 = .ok (.iconst 0, 1) := by decide +kernel
theorem dX3_readHead_69 : decode cX3_readHead 69 = .ok (.sipush 999, 3) := by decide +kernel
theorem dX3_readHead_72 : decode cX3_readHead 72 = .ok (.invokevirtual 67, 3) := by decide +kernel
theorem dX3_readHead_75 : decode cX3_readHead 75 = .ok (.ifCond .ne 5, 3) := by decide +kernel
theorem dX3_readHead_78 : decode cX3_readHead 78 = .ok (.iconst 0, 1) := by decide +kernel
theorem dX3_readHead_79 : decode cX3_readHead 79 = .ok (.ireturn, 1) := by decide +kernel
theorem dX3_readHead_80 : decode cX3_readHead 80 = .ok (.aload_n 0, 1) := by decide +kernel
theorem dX3_readHead_81 : decode cX3_readHead 81 = .ok (.getfield 15, 3) := by decide +kernel
theorem dX3_readHead_84 : decode cX3_readHead 84 = .ok (.iload_n 1, 1) := by decide +kernel
theorem dX3_readHead_85 : decode cX3_readHead 85 = .ok (.aload_n 0, 1) := by decide +kernel
theorem dX3_readHead_86 : decode cX3_readHead 86 = .ok (.invokevirtual 71, 3) := by decide +kernel
theorem dX3_readHead_89 : decode cX3_readHead 89 = .ok (.invokevirtual 59, 3) := by decide +kernel
theorem dX3_readHead_92 : decode cX3_readHead 92 = .ok (.iconst 1, 1) := by decide +kernel
theorem dX3_readHead_93 : decode cX3_readHead 93 = .ok (.ireturn, 1) := by decide +kernel
theorem dX3_readCondition_0 : decode cX3_readCondition 0 = .ok (.aload_n 0, 1) := by decide +kernel
theorem dX3_readCondition_1 : decode cX3_readCondition 1 = .ok (.ldc 74, 2) := by decide +kernel
theorem dX3_readCondition_3 : decode cX3_readCondition 3 = .ok (.invokevirtual 52, 3) := by decide +kernel
theorem dX3_readCondition_6 : decode cX3_readCondition 6 = .ok (.ifCond .ne 5, 3) := by decide +kernel
theorem dX3_readCondition_9 : decode cX3_readCondition 9 = .ok (.iconst 1, 1) := by decide +kernel
theorem dX3_readCondition_10 : decode cX3_readCondition 10 = .ok (.ireturn, 1) := by decide +kernel
theorem dX3_readCondition_11 : decode cX3_readCondition 11 = .ok (.aload_n 0, 1) := by decide +kernel
theorem dX3_readCondition_12 : decode cX3_readCondition 12 = .ok (.invokevirtual 56, 3) := by decide +kernel
theorem dX3_readCondition_15 : decode cX3_readCondition 15 = .ok (.aload_n 0, 1) := by decide +kernel
theorem dX3_readCondition_16 : decode cX3_readCondition 16 = .ok (.iconst 0, 1) := by decide +kernel
theorem dX3_readCondition_17 : decode cX3_readCondition 17 = .ok (.putfield 76, 3) := by decide +kernel
theorem dX3_readCondition_20 : decode cX3_readCondition 20 = .ok (.aload_n 0, 1) := by decide +kernel
theorem dX3_readCondition_21 : decode cX3_readCondition 21 = .ok (.iconst 0, 1) := by decide +kernel
theorem dX3_readCondition_22 : decode cX3_readCondition 22 = .ok (.putfield 80, 3) := by decide +kernel
theorem dX3_readCondition_25 : decode cX3_readCondition 25 = .ok (.aload_n 0, 1) := by decide +kernel
theorem dX3_readCondition_26 : decode cX3_readCondition 26 = .ok (.iconst 0, 1) := by decide +kernel
theorem dX3_readCondition_27 : decode cX3_readCondition 27 = .ok (.putfield 83, 3) := by decide +kernel
theorem dX3_readCondition_30 : decode cX3_readCondition 30 = .ok (.iconst 0, 1) := by decide +kernel
theorem dX3_readCondition_31 : decode cX3_readCondition 31 = .ok (.istore_n 1, 1) := by decide +kernel
theorem dX3_readCondition_32 : decode cX3_readCondition 32 = .ok (.iload_n 1, 1) := by decide +kernel
theorem dX3_readCondition_33 : decode cX3_readCondition 33 = .ok (.sipush 400, 3) := by decide +kernel
theorem dX3_readCondition_36 : decode cX3_readCondition 36 = .ok (.if_icmp .gt 102, 3) := by decide +kernel
theorem dX3_readCondition_39 : decode cX3_readCondition 39 = .ok (.aload_n 0, 1) := by decide +kernel
theorem dX3_readCondition_40 : decode cX3_readCondition 40 = .ok (.ldc 86, 2) := by decide +kernel
theorem dX3_readCondition_42 : decode cX3_readCondition 42 = .ok (.invokevirtual 52, 3) := by decide +kernel
theorem dX3_readCondition_45 : decode cX3_readCondition 45 = .ok (.ifCond .ne 12, 3) := by decide +kernel
theorem dX3_readCondition_48 : decode cX3_readCondition 48 = .ok (.aload_n 0, 1) := by decide +kernel
theorem dX3_readCondition_49 : decode cX3_readCondition 49 = .ok (.bipush 40, 2) := by decide +kernel
theorem dX3_readCondition_51 : decode cX3_readCondition 51 = .ok (.invokevirtual 88, 3) := by decide +kernel
theorem dX3_readCondition_54 : decode cX3_readCondition 54 = .ok (.ifCond .eq 24, 3) := by decide +kernel
theorem dX3_readCondition_57 : decode cX3_readCondition 57 = .ok (.aload_n 0, 1) := by decide +kernel
theorem dX3_readCondition_58 : decode cX3_readCondition 58 = .ok (.getfield 83, 3) := by decide +kernel
theorem dX3_readCondition_61 : decode cX3_readCondition 61 = .ok (.bipush 6, 2) := by decide +kernel
theorem dX3_readCondition_63 : decode cX3_readCondition 63 = .ok (.if_icmp .lt 8, 3) := by decide +kernel
theorem dX3_readCondition_66 : decode cX3_readCondition 66 = .ok (.aload_n 0, 1) := by decide +kernel
theorem dX3_readCondition_67 : decode cX3_readCondition 67 = .ok (.invokevirtual 43, 3) := by decide +kernel
theorem dX3_readCondition_70 : decode cX3_readCondition 70 = .ok (.ireturn, 1) := by decide +kernel
theorem dX3_readCondition_71 : decode cX3_readCondition 71 = .ok (.aload_n 0, 1) := by decide +kernel
theorem dX3_readCondition_72 : decode cX3_readCondition 72 = .ok (.invokevirtual 91, 3) := by decide +kernel
theorem dX3_readCondition_75 : decode cX3_readCondition 75 = .ok (.goto 57, 3) := by decide +kernel
theorem dX3_readCondition_78 : decode cX3_readCondition 78 = .ok (.aload_n 0, 1) := by decide +kernel
theorem dX3_readCondition_79 : decode cX3_readCondition 79 = .ok (.invokevirtual 94, 3) := by decide +kernel
theorem dX3_readCondition_82 : decode cX3_readCondition 82 = .ok (.ifCond .ne 5, 3) := by decide +kernel
theorem dX3_readCondition_85 : decode cX3_readCondition 85 = .ok (.iconst 0, 1) := by decide +kernel
theorem dX3_readCondition_86 : decode cX3_readCondition 86 = .ok (.ireturn, 1) := by decide +kernel
theorem dX3_readCondition_87 : decode cX3_readCondition 87 = .ok (.aload_n 0, 1) := by decide +kernel
theorem dX3_readCondition_88 : decode cX3_readCondition 88 = .ok (.invokevirtual 97, 3) := by decide +kernel
theorem dX3_readCondition_91 : decode cX3_readCondition 91 = .ok (.aload_n 0, 1) := by decide +kernel
theorem dX3_readCondition_92 : decode cX3_readCondition 92 = .ok (.ldc 100, 2) := by decide +kernel
theorem dX3_readCondition_94 : decode cX3_readCondition 94 = .ok (.invokevirtual 52, 3) := by decide +kernel
theorem dX3_readCondition_97 : decode cX3_readCondition 97 = .ok (.ifCond .ne 17, 3) := by decide +kernel
theorem dX3_readCondition_100 : decode cX3_readCondition 100 = .ok (.aload_n 0, 1) := by decide +kernel
theorem dX3_readCondition_101 : decode cX3_readCondition 101 = .ok (.ldc 102, 2) := by decide +kernel
theorem dX3_readCondition_103 : decode cX3_readCondition 103 = .ok (.invokevirtual 52, 3) := by decide +kernel
theorem dX3_readCondition_106 : decode cX3_readCondition 106 = .ok (.ifCond .ne 8, 3) := by decide +kernel
theorem dX3_readCondition_109 : decode cX3_readCondition 109 = .ok (.aload_n 0, 1) := by decide +kernel
theorem dX3_readCondition_110 : decode cX3_readCondition 110 = .ok (.invokevirtual 104, 3) := by decide +kernel
theorem dX3_readCondition_113 : decode cX3_readCondition 113 = .ok (.ireturn, 1) := by decide +kernel
theorem dX3_readCondition_114 : decode cX3_readCondition 114 = .ok (.aload_n 0, 1) := by decide +kernel
theorem dX3_readCondition_115 : decode cX3_readCondition 115 = .ok (.aload_n 0, 1) := by decide +kernel
theorem dX3_readCondition_116 : decode cX3_readCondition 116 = .ok (.ldc 100, 2) := by decide +kernel
theorem dX3_readCondition_118 : decode cX3_readCondition 118 = .ok (.invokevirtual 52, 3) := by decide +kernel
theorem dX3_readCondition_121 : decode cX3_readCondition 121 = .ok (.ifCond .eq 7, 3) := by decide +kernel
theorem dX3_readCondition_124 : decode cX3_readCondition 124 = .ok (.iconst 2, 1) := by decide +kernel
theorem dX3_readCondition_125 : decode cX3_readCondition 125 = .ok (.goto 4, 3) := by decide +kernel
theorem dX3_readCondition_128 : decode cX3_readCondition 128 = .ok (.iconst 1, 1) := by decide +kernel
theorem dX3_readCondition_129 : decode cX3_readCondition 129 = .ok (.invokevirtual 107, 3) := by decide +kernel
theorem dX3_readCondition_132 : decode cX3_readCondition 132 = .ok (.iinc 1 1, 3) := by decide +kernel
theorem dX3_readCondition_135 : decode cX3_readCondition 135 = .ok (.goto (-103), 3) := by decide +kernel
theorem dX3_readCondition_138 : decode cX3_readCondition 138 = .ok (.aload_n 0, 1) := by decide +kernel
theorem dX3_readCondition_139 : decode cX3_readCondition 139 = .ok (.invokevirtual 43, 3) := by decide +kernel
theorem dX3_readCondition_142 : decode cX3_readCondition 142 = .ok (.ireturn, 1) := by decide +kernel
theorem dX3_goDeeper_0 : decode cX3_goDeeper 0 = .ok (.aload_n 0, 1) := by decide +kernel
theorem dX3_goDeeper_1 : decode cX3_goDeeper 1 = .ok (.dup, 1) := by decide +kernel
theorem dX3_goDeeper_2 : decode cX3_goDeeper 2 = .ok (.getfield 83, 3) := by decide +kernel
theorem dX3_goDeeper_5 : decode cX3_goDeeper 5 = .ok (.iconst 1, 1) := by decide +kernel
theorem dX3_goDeeper_6 : decode cX3_goDeeper 6 = .ok (.iadd, 1) := by decide +kernel
theorem dX3_goDeeper_7 : decode cX3_goDeeper 7 = .ok (.putfield 83, 3) := by decide +kernel
theorem dX3_goDeeper_10 : decode cX3_goDeeper 10 = .ok (.aload_n 0, 1) := by decide +kernel
theorem dX3_goDeeper_11 : decode cX3_goDeeper 11 = .ok (.bipush 40, 2) := by decide +kernel
theorem dX3_goDeeper_13 : decode cX3_goDeeper 13 = .ok (.invokevirtual 88, 3) := by decide +kernel
theorem dX3_goDeeper_16 : decode cX3_goDeeper 16 = .ok (.ifCond .eq 21, 3) := by decide +kernel
theorem dX3_goDeeper_19 : decode cX3_goDeeper 19 = .ok (.aload_n 0, 1) := by decide +kernel
theorem dX3_goDeeper_20 : decode cX3_goDeeper 20 = .ok (.dup, 1) := by decide +kernel
theorem dX3_goDeeper_21 : decode cX3_goDeeper 21 = .ok (.getfield 80, 3) := by decide +kernel
theorem dX3_goDeeper_24 : decode cX3_goDeeper 24 = .ok (.iconst 1, 1) := by decide +kernel
theorem dX3_goDeeper_25 : decode cX3_goDeeper 25 = .ok (.iadd, 1) := by decide +kernel
theorem dX3_goDeeper_26 : decode cX3_goDeeper 26 = .ok (.putfield 80, 3) := by decide +kernel
theorem dX3_goDeeper_29 : decode cX3_goDeeper 29 = .ok (.aload_n 0, 1) := by decide +kernel
theorem dX3_goDeeper_30 : decode cX3_goDeeper 30 = .ok (.iconst 0, 1) := by decide +kernel
theorem dX3_goDeeper_31 : decode cX3_goDeeper 31 = .ok (.invokevirtual 110, 3) := by decide +kernel
theorem dX3_goDeeper_34 : decode cX3_goDeeper 34 = .ok (.goto 8, 3) := by decide +kernel
theorem dX3_goDeeper_37 : decode cX3_goDeeper 37 = .ok (.aload_n 0, 1) := by decide +kernel
theorem dX3_goDeeper_38 : decode cX3_goDeeper 38 = .ok (.iconst 3, 1) := by decide +kernel
theorem dX3_goDeeper_39 : decode cX3_goDeeper 39 = .ok (.invokevirtual 110, 3) := by decide +kernel
theorem dX3_goDeeper_42 : decode cX3_goDeeper 42 = .ok (.aload_n 0, 1) := by decide +kernel
theorem dX3_goDeeper_43 : decode cX3_goDeeper 43 = .ok (.invokevirtual 56, 3) := by decide +kernel
theorem dX3_goDeeper_46 : decode cX3_goDeeper 46 = .ok (.return_, 1) := by decide +kernel
theorem dX3_closeAll_0 : decode cX3_closeAll 0 = .ok (.iconst 0, 1) := by decide +kernel
theorem dX3_closeAll_1 : decode cX3_closeAll 1 = .ok (.istore_n 1, 1) := by decide +kernel
theorem dX3_closeAll_2 : decode cX3_closeAll 2 = .ok (.iload_n 1, 1) := by decide +kernel
theorem dX3_closeAll_3 : decode cX3_closeAll 3 = .ok (.bipush 6, 2) := by decide +kernel
theorem dX3_closeAll_5 : decode cX3_closeAll 5 = .ok (.if_icmp .ge 64, 3) := by decide +kernel
theorem dX3_closeAll_8 : decode cX3_closeAll 8 = .ok (.aload_n 0, 1) := by decide +kernel
theorem dX3_closeAll_9 : decode cX3_closeAll 9 = .ok (.getfield 80, 3) := by decide +kernel
theorem dX3_closeAll_12 : decode cX3_closeAll 12 = .ok (.ifCond .le 57, 3) := by decide +kernel
theorem dX3_closeAll_15 : decode cX3_closeAll 15 = .ok (.aload_n 0, 1) := by decide +kernel
theorem dX3_closeAll_16 : decode cX3_closeAll 16 = .ok (.bipush 41, 2) := by decide +kernel
theorem dX3_closeAll_18 : decode cX3_closeAll 18 = .ok (.invokevirtual 88, 3) := by decide +kernel
theorem dX3_closeAll_21 : decode cX3_closeAll 21 = .ok (.ifCond .eq 48, 3) := by decide +kernel
theorem dX3_closeAll_24 : decode cX3_closeAll 24 = .ok (.aload_n 0, 1) := by decide +kernel
theorem dX3_closeAll_25 : decode cX3_closeAll 25 = .ok (.iconst 1, 1) := by decide +kernel
theorem dX3_closeAll_26 : decode cX3_closeAll 26 = .ok (.invokevirtual 113, 3) := by decide +kernel
theorem dX3_closeAll_29 : decode cX3_closeAll 29 = .ok (.aload_n 0, 1) := by decide +kernel
theorem dX3_closeAll_30 : decode cX3_closeAll 30 = .ok (.dup, 1) := by decide +kernel
theorem dX3_closeAll_31 : decode cX3_closeAll 31 = .ok (.getfield 76, 3) := by decide +kernel
theorem dX3_closeAll_34 : decode cX3_closeAll 34 = .ok (.iconst 1, 1) := by decide +kernel
theorem dX3_closeAll_35 : decode cX3_closeAll 35 = .ok (.isub, 1) := by decide +kernel
theorem dX3_closeAll_36 : decode cX3_closeAll 36 = .ok (.putfield 76, 3) := by decide +kernel
theorem dX3_closeAll_39 : decode cX3_closeAll 39 = .ok (.aload_n 0, 1) := by decide +kernel
theorem dX3_closeAll_40 : decode cX3_closeAll 40 = .ok (.dup, 1) := by decide +kernel
theorem dX3_closeAll_41 : decode cX3_closeAll 41 = .ok (.getfield 80, 3) := by decide +kernel
theorem dX3_closeAll_44 : decode cX3_closeAll 44 = .ok (.iconst 1, 1) := by decide +kernel
theorem dX3_closeAll_45 : decode cX3_closeAll 45 = .ok (.isub, 1) := by decide +kernel
theorem dX3_closeAll_46 : decode cX3_closeAll 46 = .ok (.putfield 80, 3) := by decide +kernel
theorem dX3_closeAll_49 : decode cX3_closeAll 49 = .ok (.aload_n 0, 1) := by decide +kernel
theorem dX3_closeAll_50 : decode cX3_closeAll 50 = .ok (.dup, 1) := by decide +kernel
theorem dX3_closeAll_51 : decode cX3_closeAll 51 = .ok (.getfield 83, 3) := by decide +kernel
theorem dX3_closeAll_54 : decode cX3_closeAll 54 = .ok (.iconst 1, 1) := by decide +kernel
theorem dX3_closeAll_55 : decode cX3_closeAll 55 = .ok (.isub, 1) := by decide +kernel
theorem dX3_closeAll_56 : decode cX3_closeAll 56 = .ok (.putfield 83, 3) := by decide +kernel
theorem dX3_closeAll_59 : decode cX3_closeAll 59 = .ok (.aload_n 0, 1) := by decide +kernel
theorem dX3_closeAll_60 : decode cX3_closeAll 60 = .ok (.invokevirtual 56, 3) := by decide +kernel
theorem dX3_closeAll_63 : decode cX3_closeAll 63 = .ok (.iinc 1 1, 3) := by decide +kernel
theorem dX3_closeAll_66 : decode cX3_closeAll 66 = .ok (.goto (-64), 3) := by decide +kernel
theorem dX3_closeAll_69 : decode cX3_closeAll 69 = .ok (.return_, 1) := by decide +kernel
theorem dX3_joinOn_0 : decode cX3_joinOn 0 = .ok (.aload_n 0, 1) := by decide +kernel
theorem dX3_joinOn_1 : decode cX3_joinOn 1 = .ok (.iload_n 1, 1) := by decide +kernel
theorem dX3_joinOn_2 : decode cX3_joinOn 2 = .ok (.invokevirtual 113, 3) := by decide +kernel
theorem dX3_joinOn_5 : decode cX3_joinOn 5 = .ok (.aload_n 0, 1) := by decide +kernel
theorem dX3_joinOn_6 : decode cX3_joinOn 6 = .ok (.iload_n 1, 1) := by decide +kernel
theorem dX3_joinOn_7 : decode cX3_joinOn 7 = .ok (.invokevirtual 110, 3) := by decide +kernel
theorem dX3_joinOn_10 : decode cX3_joinOn 10 = .ok (.aload_n 0, 1) := by decide +kernel
theorem dX3_joinOn_11 : decode cX3_joinOn 11 = .ok (.invokevirtual 56, 3) := by decide +kernel
theorem dX3_joinOn_14 : decode cX3_joinOn 14 = .ok (.return_, 1) := by decide +kernel
theorem dX3_endCondition_0 : decode cX3_endCondition 0 = .ok (.aload_n 0, 1) := by decide +kernel
theorem dX3_endCondition_1 : decode cX3_endCondition 1 = .ok (.getfield 80, 3) := by decide +kernel
theorem dX3_endCondition_4 : decode cX3_endCondition 4 = .ok (.ifCond .le 8, 3) := by decide +kernel
theorem dX3_endCondition_7 : decode cX3_endCondition 7 = .ok (.aload_n 0, 1) := by decide +kernel
theorem dX3_endCondition_8 : decode cX3_endCondition 8 = .ok (.invokevirtual 43, 3) := by decide +kernel
theorem dX3_endCondition_11 : decode cX3_endCondition 11 = .ok (.ireturn, 1) := by decide +kernel
theorem dX3_endCondition_12 : decode cX3_endCondition 12 = .ok (.aload_n 0, 1) := by decide +kernel
theorem dX3_endCondition_13 : decode cX3_endCondition 13 = .ok (.iconst 1, 1) := by decide +kernel
theorem dX3_endCondition_14 : decode cX3_endCondition 14 = .ok (.invokevirtual 113, 3) := by decide +kernel
theorem dX3_endCondition_17 : decode cX3_endCondition 17 = .ok (.iconst 1, 1) := by decide +kernel
theorem dX3_endCondition_18 : decode cX3_endCondition 18 = .ok (.ireturn, 1) := by decide +kernel
theorem dX3_push_0 : decode cX3_push 0 = .ok (.aload_n 0, 1) := by decide +kernel
theorem dX3_push_1 : decode cX3_push 1 = .ok (.getfield 76, 3) := by decide +kernel
theorem dX3_push_4 : decode cX3_push 4 = .ok (.bipush 40, 2) := by decide +kernel
theorem dX3_push_6 : decode cX3_push 6 = .ok (.if_icmp .ge 23, 3) := by decide +kernel
theorem dX3_push_9 : decode cX3_push 9 = .ok (.aload_n 0, 1) := by decide +kernel
theorem dX3_push_10 : decode cX3_push 10 = .ok (.getfield 11, 3) := by decide +kernel
theorem dX3_push_13 : decode cX3_push 13 = .ok (.aload_n 0, 1) := by decide +kernel
theorem dX3_push_14 : decode cX3_push 14 = .ok (.getfield 76, 3) := by decide +kernel
theorem dX3_push_17 : decode cX3_push 17 = .ok (.iload_n 1, 1) := by decide +kernel
theorem dX3_push_18 : decode cX3_push 18 = .ok (.iastore, 1) := by decide +kernel
theorem dX3_push_19 : decode cX3_push 19 = .ok (.aload_n 0, 1) := by decide +kernel
theorem dX3_push_20 : decode cX3_push 20 = .ok (.dup, 1) := by decide +kernel
theorem dX3_push_21 : decode cX3_push 21 = .ok (.getfield 76, 3) := by decide +kernel
theorem dX3_push_24 : decode cX3_push 24 = .ok (.iconst 1, 1) := by decide +kernel
theorem dX3_push_25 : decode cX3_push 25 = .ok (.iadd, 1) := by decide +kernel
theorem dX3_push_26 : decode cX3_push 26 = .ok (.putfield 76, 3) := by decide +kernel
theorem dX3_push_29 : decode cX3_push 29 = .ok (.return_, 1) := by decide +kernel
theorem dX3_unwind_0 : decode cX3_unwind 0 = .ok (.aload_n 0, 1) := by decide +kernel
theorem dX3_unwind_1 : decode cX3_unwind 1 = .ok (.getfield 76, 3) := by decide +kernel
theorem dX3_unwind_4 : decode cX3_unwind 4 = .ok (.ifCond .le 93, 3) := by decide +kernel
theorem dX3_unwind_7 : decode cX3_unwind 7 = .ok (.aload_n 0, 1) := by decide +kernel
theorem dX3_unwind_8 : decode cX3_unwind 8 = .ok (.getfield 11, 3) := by decide +kernel
theorem dX3_unwind_11 : decode cX3_unwind 11 = .ok (.aload_n 0, 1) := by decide +kernel
theorem dX3_unwind_12 : decode cX3_unwind 12 = .ok (.getfield 76, 3) := by decide +kernel
theorem dX3_unwind_15 : decode cX3_unwind 15 = .ok (.iconst 1, 1) := by decide +kernel
theorem dX3_unwind_16 : decode cX3_unwind 16 = .ok (.isub, 1) := by decide +kernel
theorem dX3_unwind_17 : decode cX3_unwind 17 = .ok (.iaload, 1) := by decide +kernel
theorem dX3_unwind_18 : decode cX3_unwind 18 = .ok (.iload_n 1, 1) := by decide +kernel
theorem dX3_unwind_19 : decode cX3_unwind 19 = .ok (.if_icmp .lt 78, 3) := by decide +kernel
theorem dX3_unwind_22 : decode cX3_unwind 22 = .ok (.aload_n 0, 1) := by decide +kernel
theorem dX3_unwind_23 : decode cX3_unwind 23 = .ok (.dup, 1) := by decide +kernel
theorem dX3_unwind_24 : decode cX3_unwind 24 = .ok (.getfield 76, 3) := by decide +kernel
theorem dX3_unwind_27 : decode cX3_unwind 27 = .ok (.iconst 1, 1) := by decide +kernel
theorem dX3_unwind_28 : decode cX3_unwind 28 = .ok (.isub, 1) := by decide +kernel
theorem dX3_unwind_29 : decode cX3_unwind 29 = .ok (.putfield 76, 3) := by decide +kernel
theorem dX3_unwind_32 : decode cX3_unwind 32 = .ok (.aload_n 0, 1) := by decide +kernel
theorem dX3_unwind_33 : decode cX3_unwind 33 = .ok (.getfield 11, 3) := by decide +kernel
theorem dX3_unwind_36 : decode cX3_unwind 36 = .ok (.aload_n 0, 1) := by decide +kernel
theorem dX3_unwind_37 : decode cX3_unwind 37 = .ok (.getfield 76, 3) := by decide +kernel
theorem dX3_unwind_40 : decode cX3_unwind 40 = .ok (.iaload, 1) := by decide +kernel
theorem dX3_unwind_41 : decode cX3_unwind 41 = .ok (.iconst 3, 1) := by decide +kernel
theorem dX3_unwind_42 : decode cX3_unwind 42 = .ok (.if_icmp .ne 25, 3) := by decide +kernel
theorem dX3_unwind_45 : decode cX3_unwind 45 = .ok (.aload_n 0, 1) := by decide +kernel
theorem dX3_unwind_46 : decode cX3_unwind 46 = .ok (.getfield 15, 3) := by decide +kernel
theorem dX3_unwind_49 : decode cX3_unwind 49 = .ok (.bipush (-12), 2) := by decide +kernel
theorem dX3_unwind_51 : decode cX3_unwind 51 = .ok (.invokevirtual 116, 3) := by decide +kernel
theorem dX3_unwind_54 : decode cX3_unwind 54 = .ok (.aload_n 0, 1) := by decide +kernel
theorem dX3_unwind_55 : decode cX3_unwind 55 = .ok (.dup, 1) := by decide +kernel
theorem dX3_unwind_56 : decode cX3_unwind 56 = .ok (.getfield 83, 3) := by decide +kernel
theorem dX3_unwind_59 : decode cX3_unwind 59 = .ok (.iconst 1, 1) := by decide +kernel
theorem dX3_unwind_60 : decode cX3_unwind 60 = .ok (.isub, 1) := by decide +kernel
theorem dX3_unwind_61 : decode cX3_unwind 61 = .ok (.putfield 83, 3) := by decide +kernel
theorem dX3_unwind_64 : decode cX3_unwind 64 = .ok (.goto (-64), 3) := by decide +kernel
theorem dX3_unwind_67 : decode cX3_unwind 67 = .ok (.aload_n 0, 1) := by decide +kernel
theorem dX3_unwind_68 : decode cX3_unwind 68 = .ok (.getfield 15, 3) := by decide +kernel
theorem dX3_unwind_71 : decode cX3_unwind 71 = .ok (.aload_n 0, 1) := by decide +kernel
theorem dX3_unwind_72 : decode cX3_unwind 72 = .ok (.getfield 11, 3) := by decide +kernel
theorem dX3_unwind_75 : decode cX3_unwind 75 = .ok (.aload_n 0, 1) := by decide +kernel
theorem dX3_unwind_76 : decode cX3_unwind 76 = .ok (.getfield 76, 3) := by decide +kernel
theorem dX3_unwind_79 : decode cX3_unwind 79 = .ok (.iaload, 1) := by decide +kernel
theorem dX3_unwind_80 : decode cX3_unwind 80 = .ok (.iconst 2, 1) := by decide +kernel
theorem dX3_unwind_81 : decode cX3_unwind 81 = .ok (.if_icmp .ne 8, 3) := by decide +kernel
theorem dX3_unwind_84 : decode cX3_unwind 84 = .ok (.bipush (-13), 2) := by decide +kernel
theorem dX3_unwind_86 : decode cX3_unwind 86 = .ok (.goto 5, 3) := by decide +kernel
theorem dX3_unwind_89 : decode cX3_unwind 89 = .ok (.bipush (-14), 2) := by decide +kernel
theorem dX3_unwind_91 : decode cX3_unwind 91 = .ok (.invokevirtual 116, 3) := by decide +kernel
theorem dX3_unwind_94 : decode cX3_unwind 94 = .ok (.goto (-94), 3) := by decide +kernel
theorem dX3_unwind_97 : decode cX3_unwind 97 = .ok (.return_, 1) := by decide +kernel
theorem dX3_readAtom_0 : decode cX3_readAtom 0 = .ok (.aload_n 0, 1) := by decide +kernel
theorem dX3_readAtom_1 : decode cX3_readAtom 1 = .ok (.ldc 119, 2) := by decide +kernel
theorem dX3_readAtom_3 : decode cX3_readAtom 3 = .ok (.invokevirtual 52, 3) := by decide +kernel
theorem dX3_readAtom_6 : decode cX3_readAtom 6 = .ok (.ifCond .ne 12, 3) := by decide +kernel
theorem dX3_readAtom_9 : decode cX3_readAtom 9 = .ok (.aload_n 0, 1) := by decide +kernel
theorem dX3_readAtom_10 : decode cX3_readAtom 10 = .ok (.ldc 121, 2) := by decide +kernel
theorem dX3_readAtom_12 : decode cX3_readAtom 12 = .ok (.invokevirtual 52, 3) := by decide +kernel
theorem dX3_readAtom_15 : decode cX3_readAtom 15 = .ok (.ifCond .eq 32, 3) := by decide +kernel
theorem dX3_readAtom_18 : decode cX3_readAtom 18 = .ok (.aload_n 0, 1) := by decide +kernel
theorem dX3_readAtom_19 : decode cX3_readAtom 19 = .ok (.getfield 15, 3) := by decide +kernel
theorem dX3_readAtom_22 : decode cX3_readAtom 22 = .ok (.aload_n 0, 1) := by decide +kernel
theorem dX3_readAtom_23 : decode cX3_readAtom 23 = .ok (.ldc 119, 2) := by decide +kernel
theorem dX3_readAtom_25 : decode cX3_readAtom 25 = .ok (.invokevirtual 52, 3) := by decide +kernel
theorem dX3_readAtom_28 : decode cX3_readAtom 28 = .ok (.ifCond .eq 8, 3) := by decide +kernel
theorem dX3_readAtom_31 : decode cX3_readAtom 31 = .ok (.bipush (-7), 2) := by decide +kernel
theorem dX3_readAtom_33 : decode cX3_readAtom 33 = .ok (.goto 5, 3) := by decide +kernel
theorem dX3_readAtom_36 : decode cX3_readAtom 36 = .ok (.bipush (-8), 2) := by decide +kernel
theorem dX3_readAtom_38 : decode cX3_readAtom 38 = .ok (.invokevirtual 116, 3) := by decide +kernel
theorem dX3_readAtom_41 : decode cX3_readAtom 41 = .ok (.aload_n 0, 1) := by decide +kernel
theorem dX3_readAtom_42 : decode cX3_readAtom 42 = .ok (.invokevirtual 56, 3) := by decide +kernel
theorem dX3_readAtom_45 : decode cX3_readAtom 45 = .ok (.iconst 1, 1) := by decide +kernel
theorem dX3_readAtom_46 : decode cX3_readAtom 46 = .ok (.ireturn, 1) := by decide +kernel
theorem dX3_readAtom_47 : decode cX3_readAtom 47 = .ok (.aload_n 0, 1) := by decide +kernel
theorem dX3_readAtom_48 : decode cX3_readAtom 48 = .ok (.invokevirtual 123, 3) := by decide +kernel
theorem dX3_readAtom_51 : decode cX3_readAtom 51 = .ok (.ifCond .ne 5, 3) := by decide +kernel
theorem dX3_readAtom_54 : decode cX3_readAtom 54 = .ok (.iconst 0, 1) := by decide +kernel
theorem dX3_readAtom_55 : decode cX3_readAtom 55 = .ok (.ireturn, 1) := by decide +kernel
theorem dX3_readAtom_56 : decode cX3_readAtom 56 = .ok (.aload_n 0, 1) := by decide +kernel
theorem dX3_readAtom_57 : decode cX3_readAtom 57 = .ok (.bipush 60, 2) := by decide +kernel
theorem dX3_readAtom_59 : decode cX3_readAtom 59 = .ok (.invokevirtual 88, 3) := by decide +kernel
theorem dX3_readAtom_62 : decode cX3_readAtom 62 = .ok (.ifCond .ne 17, 3) := by decide +kernel
theorem dX3_readAtom_65 : decode cX3_readAtom 65 = .ok (.aload_n 0, 1) := by decide +kernel
theorem dX3_readAtom_66 : decode cX3_readAtom 66 = .ok (.bipush 62, 2) := by decide +kernel
theorem dX3_readAtom_68 : decode cX3_readAtom 68 = .ok (.invokevirtual 88, 3) := by decide +kernel
theorem dX3_readAtom_71 : decode cX3_readAtom 71 = .ok (.ifCond .ne 8, 3) := by decide +kernel
theorem dX3_readAtom_74 : decode cX3_readAtom 74 = .ok (.aload_n 0, 1) := by decide +kernel
theorem dX3_readAtom_75 : decode cX3_readAtom 75 = .ok (.invokevirtual 43, 3) := by decide +kernel
theorem dX3_readAtom_78 : decode cX3_readAtom 78 = .ok (.ireturn, 1) := by decide +kernel
theorem dX3_readAtom_79 : decode cX3_readAtom 79 = .ok (.aload_n 0, 1) := by decide +kernel
theorem dX3_readAtom_80 : decode cX3_readAtom 80 = .ok (.bipush 60, 2) := by decide +kernel
theorem dX3_readAtom_82 : decode cX3_readAtom 82 = .ok (.invokevirtual 88, 3) := by decide +kernel
theorem dX3_readAtom_85 : decode cX3_readAtom 85 = .ok (.ifCond .eq 8, 3) := by decide +kernel
theorem dX3_readAtom_88 : decode cX3_readAtom 88 = .ok (.bipush (-10), 2) := by decide +kernel
theorem dX3_readAtom_90 : decode cX3_readAtom 90 = .ok (.goto 5, 3) := by decide +kernel
theorem dX3_readAtom_93 : decode cX3_readAtom 93 = .ok (.bipush (-11), 2) := by decide +kernel
theorem dX3_readAtom_95 : decode cX3_readAtom 95 = .ok (.istore_n 1, 1) := by decide +kernel
theorem dX3_readAtom_96 : decode cX3_readAtom 96 = .ok (.aload_n 0, 1) := by decide +kernel
theorem dX3_readAtom_97 : decode cX3_readAtom 97 = .ok (.invokevirtual 56, 3) := by decide +kernel
theorem dX3_readAtom_100 : decode cX3_readAtom 100 = .ok (.aload_n 0, 1) := by decide +kernel
theorem dX3_readAtom_101 : decode cX3_readAtom 101 = .ok (.invokevirtual 123, 3) := by decide +kernel
theorem dX3_readAtom_104 : decode cX3_readAtom 104 = .ok (.ifCond .ne 5, 3) := by decide +kernel
theorem dX3_readAtom_107 : decode cX3_readAtom 107 = .ok (.iconst 0, 1) := by decide +kernel
theorem dX3_readAtom_108 : decode cX3_readAtom 108 = .ok (.ireturn, 1) := by decide +kernel
theorem dX3_readAtom_109 : decode cX3_readAtom 109 = .ok (.aload_n 0, 1) := by decide +kernel
theorem dX3_readAtom_110 : decode cX3_readAtom 110 = .ok (.getfield 15, 3) := by decide +kernel
theorem dX3_readAtom_113 : decode cX3_readAtom 113 = .ok (.iload_n 1, 1) := by decide +kernel
theorem dX3_readAtom_114 : decode cX3_readAtom 114 = .ok (.invokevirtual 116, 3) := by decide +kernel
theorem dX3_readAtom_117 : decode cX3_readAtom 117 = .ok (.iconst 1, 1) := by decide +kernel
theorem dX3_readAtom_118 : decode cX3_readAtom 118 = .ok (.ireturn, 1) := by decide +kernel
theorem dX3_readSum_0 : decode cX3_readSum 0 = .ok (.iconst 1, 1) := by decide +kernel
theorem dX3_readSum_1 : decode cX3_readSum 1 = .ok (.istore_n 1, 1) := by decide +kernel
theorem dX3_readSum_2 : decode cX3_readSum 2 = .ok (.iload_n 1, 1) := by decide +kernel
theorem dX3_readSum_3 : decode cX3_readSum 3 = .ok (.sipush 400, 3) := by decide +kernel
theorem dX3_readSum_6 : decode cX3_readSum 6 = .ok (.if_icmp .gt 66, 3) := by decide +kernel
theorem dX3_readSum_9 : decode cX3_readSum 9 = .ok (.aload_n 0, 1) := by decide +kernel
theorem dX3_readSum_10 : decode cX3_readSum 10 = .ok (.invokevirtual 126, 3) := by decide +kernel
theorem dX3_readSum_13 : decode cX3_readSum 13 = .ok (.istore_n 2, 1) := by decide +kernel
theorem dX3_readSum_14 : decode cX3_readSum 14 = .ok (.iload_n 2, 1) := by decide +kernel
theorem dX3_readSum_15 : decode cX3_readSum 15 = .ok (.bipush (-100), 2) := by decide +kernel
theorem dX3_readSum_17 : decode cX3_readSum 17 = .ok (.if_icmp .ne 8, 3) := by decide +kernel
theorem dX3_readSum_20 : decode cX3_readSum 20 = .ok (.aload_n 0, 1) := by decide +kernel
theorem dX3_readSum_21 : decode cX3_readSum 21 = .ok (.invokevirtual 43, 3) := by decide +kernel
theorem dX3_readSum_24 : decode cX3_readSum 24 = .ok (.ireturn, 1) := by decide +kernel
theorem dX3_readSum_25 : decode cX3_readSum 25 = .ok (.aload_n 0, 1) := by decide +kernel
theorem dX3_readSum_26 : decode cX3_readSum 26 = .ok (.getfield 15, 3) := by decide +kernel
theorem dX3_readSum_29 : decode cX3_readSum 29 = .ok (.iload_n 2, 1) := by decide +kernel
theorem dX3_readSum_30 : decode cX3_readSum 30 = .ok (.invokevirtual 116, 3) := by decide +kernel
theorem dX3_readSum_33 : decode cX3_readSum 33 = .ok (.iload_n 1, 1) := by decide +kernel
theorem dX3_readSum_34 : decode cX3_readSum 34 = .ok (.iconst 1, 1) := by decide +kernel
theorem dX3_readSum_35 : decode cX3_readSum 35 = .ok (.if_icmp .le 12, 3) := by decide +kernel
theorem dX3_readSum_38 : decode cX3_readSum 38 = .ok (.aload_n 0, 1) := by decide +kernel
theorem dX3_readSum_39 : decode cX3_readSum 39 = .ok (.getfield 15, 3) := by decide +kernel
theorem dX3_readSum_42 : decode cX3_readSum 42 = .ok (.bipush (-9), 2) := by decide +kernel
theorem dX3_readSum_44 : decode cX3_readSum 44 = .ok (.invokevirtual 116, 3) := by decide +kernel
theorem dX3_readSum_47 : decode cX3_readSum 47 = .ok (.aload_n 0, 1) := by decide +kernel
theorem dX3_readSum_48 : decode cX3_readSum 48 = .ok (.invokevirtual 56, 3) := by decide +kernel
theorem dX3_readSum_51 : decode cX3_readSum 51 = .ok (.aload_n 0, 1) := by decide +kernel
theorem dX3_readSum_52 : decode cX3_readSum 52 = .ok (.bipush 43, 2) := by decide +kernel
theorem dX3_readSum_54 : decode cX3_readSum 54 = .ok (.invokevirtual 88, 3) := by decide +kernel
theorem dX3_readSum_57 : decode cX3_readSum 57 = .ok (.ifCond .ne 5, 3) := by decide +kernel
theorem dX3_readSum_60 : decode cX3_readSum 60 = .ok (.iconst 1, 1) := by decide +kernel
theorem dX3_readSum_61 : decode cX3_readSum 61 = .ok (.ireturn, 1) := by decide +kernel
theorem dX3_readSum_62 : decode cX3_readSum 62 = .ok (.aload_n 0, 1) := by decide +kernel
theorem dX3_readSum_63 : decode cX3_readSum 63 = .ok (.invokevirtual 56, 3) := by decide +kernel
theorem dX3_readSum_66 : decode cX3_readSum 66 = .ok (.iinc 1 1, 3) := by decide +kernel
theorem dX3_readSum_69 : decode cX3_readSum 69 = .ok (.goto (-67), 3) := by decide +kernel
theorem dX3_readSum_72 : decode cX3_readSum 72 = .ok (.aload_n 0, 1) := by decide +kernel
theorem dX3_readSum_73 : decode cX3_readSum 73 = .ok (.invokevirtual 43, 3) := by decide +kernel
theorem dX3_readSum_76 : decode cX3_readSum 76 = .ok (.ireturn, 1) := by decide +kernel
theorem dX3_partThere_0 : decode cX3_partThere 0 = .ok (.aload_n 0, 1) := by decide +kernel
theorem dX3_partThere_1 : decode cX3_partThere 1 = .ok (.invokevirtual 129, 3) := by decide +kernel
theorem dX3_partThere_4 : decode cX3_partThere 4 = .ok (.ifCond .eq 21, 3) := by decide +kernel
theorem dX3_partThere_7 : decode cX3_partThere 7 = .ok (.aload_n 0, 1) := by decide +kernel
theorem dX3_partThere_8 : decode cX3_partThere 8 = .ok (.iconst 3, 1) := by decide +kernel
theorem dX3_partThere_9 : decode cX3_partThere 9 = .ok (.invokevirtual 132, 3) := by decide +kernel
theorem dX3_partThere_12 : decode cX3_partThere 12 = .ok (.ifCond .eq 10, 3) := by decide +kernel
theorem dX3_partThere_15 : decode cX3_partThere 15 = .ok (.aload_n 0, 1) := by decide +kernel
theorem dX3_partThere_16 : decode cX3_partThere 16 = .ok (.invokevirtual 136, 3) := by decide +kernel
theorem dX3_partThere_19 : decode cX3_partThere 19 = .ok (.goto 5, 3) := by decide +kernel
theorem dX3_partThere_22 : decode cX3_partThere 22 = .ok (.bipush (-100), 2) := by decide +kernel
theorem dX3_partThere_24 : decode cX3_partThere 24 = .ok (.ireturn, 1) := by decide +kernel
theorem dX3_partThere_25 : decode cX3_partThere 25 = .ok (.aload_n 0, 1) := by decide +kernel
theorem dX3_partThere_26 : decode cX3_partThere 26 = .ok (.ldc 139, 2) := by decide +kernel
theorem dX3_partThere_28 : decode cX3_partThere 28 = .ok (.invokevirtual 52, 3) := by decide +kernel
theorem dX3_partThere_31 : decode cX3_partThere 31 = .ok (.ifCond .eq 5, 3) := by decide +kernel
theorem dX3_partThere_34 : decode cX3_partThere 34 = .ok (.iconst (-1), 1) := by decide +kernel
theorem dX3_partThere_35 : decode cX3_partThere 35 = .ok (.ireturn, 1) := by decide +kernel
theorem dX3_partThere_36 : decode cX3_partThere 36 = .ok (.aload_n 0, 1) := by decide +kernel
theorem dX3_partThere_37 : decode cX3_partThere 37 = .ok (.ldc 141, 2) := by decide +kernel
theorem dX3_partThere_39 : decode cX3_partThere 39 = .ok (.invokevirtual 52, 3) := by decide +kernel
theorem dX3_partThere_42 : decode cX3_partThere 42 = .ok (.ifCond .eq 6, 3) := by decide +kernel
theorem dX3_partThere_45 : decode cX3_partThere 45 = .ok (.bipush (-2), 2) := by decide +kernel
theorem dX3_partThere_47 : decode cX3_partThere 47 = .ok (.ireturn, 1) := by decide +kernel
theorem dX3_partThere_48 : decode cX3_partThere 48 = .ok (.aload_n 0, 1) := by decide +kernel
theorem dX3_partThere_49 : decode cX3_partThere 49 = .ok (.ldc 143, 2) := by decide +kernel
theorem dX3_partThere_51 : decode cX3_partThere 51 = .ok (.invokevirtual 52, 3) := by decide +kernel
theorem dX3_partThere_54 : decode cX3_partThere 54 = .ok (.ifCond .eq 6, 3) := by decide +kernel
theorem dX3_partThere_57 : decode cX3_partThere 57 = .ok (.bipush (-3), 2) := by decide +kernel
theorem dX3_partThere_59 : decode cX3_partThere 59 = .ok (.ireturn, 1) := by decide +kernel
theorem dX3_partThere_60 : decode cX3_partThere 60 = .ok (.aload_n 0, 1) := by decide +kernel
theorem dX3_partThere_61 : decode cX3_partThere 61 = .ok (.ldc 145, 2) := by decide +kernel
theorem dX3_partThere_63 : decode cX3_partThere 63 = .ok (.invokevirtual 52, 3) := by decide +kernel
theorem dX3_partThere_66 : decode cX3_partThere 66 = .ok (.ifCond .eq 6, 3) := by decide +kernel
theorem dX3_partThere_69 : decode cX3_partThere 69 = .ok (.bipush (-4), 2) := by decide +kernel
theorem dX3_partThere_71 : decode cX3_partThere 71 = .ok (.ireturn, 1) := by decide +kernel
theorem dX3_partThere_72 : decode cX3_partThere 72 = .ok (.aload_n 0, 1) := by decide +kernel
theorem dX3_partThere_73 : decode cX3_partThere 73 = .ok (.ldc 147, 2) := by decide +kernel
theorem dX3_partThere_75 : decode cX3_partThere 75 = .ok (.invokevirtual 52, 3) := by decide +kernel
theorem dX3_partThere_78 : decode cX3_partThere 78 = .ok (.ifCond .eq 6, 3) := by decide +kernel
theorem dX3_partThere_81 : decode cX3_partThere 81 = .ok (.bipush (-5), 2) := by decide +kernel
theorem dX3_partThere_83 : decode cX3_partThere 83 = .ok (.ireturn, 1) := by decide +kernel
theorem dX3_partThere_84 : decode cX3_partThere 84 = .ok (.aload_n 0, 1) := by decide +kernel
theorem dX3_partThere_85 : decode cX3_partThere 85 = .ok (.ldc 149, 2) := by decide +kernel
theorem dX3_partThere_87 : decode cX3_partThere 87 = .ok (.invokevirtual 52, 3) := by decide +kernel
theorem dX3_partThere_90 : decode cX3_partThere 90 = .ok (.ifCond .eq 8, 3) := by decide +kernel
theorem dX3_partThere_93 : decode cX3_partThere 93 = .ok (.bipush (-6), 2) := by decide +kernel
theorem dX3_partThere_95 : decode cX3_partThere 95 = .ok (.goto 5, 3) := by decide +kernel
theorem dX3_partThere_98 : decode cX3_partThere 98 = .ok (.bipush (-100), 2) := by decide +kernel
theorem dX3_partThere_100 : decode cX3_partThere 100 = .ok (.ireturn, 1) := by decide +kernel
theorem dX8_init_0 : decode cX8_init 0 = .ok (.aload_n 0, 1) := by decide +kernel
theorem dX8_init_1 : decode cX8_init 1 = .ok (.aload_n 1, 1) := by decide +kernel
theorem dX8_init_2 : decode cX8_init 2 = .ok (.invokespecial 3, 3) := by decide +kernel
theorem dX8_init_5 : decode cX8_init 5 = .ok (.aload_n 0, 1) := by decide +kernel
theorem dX8_init_6 : decode cX8_init 6 = .ok (.aload_n 2, 1) := by decide +kernel
theorem dX8_init_7 : decode cX8_init 7 = .ok (.getfield 9, 3) := by decide +kernel
theorem dX8_init_10 : decode cX8_init 10 = .ok (.putfield 15, 3) := by decide +kernel
theorem dX8_init_13 : decode cX8_init 13 = .ok (.aload_n 0, 1) := by decide +kernel
theorem dX8_init_14 : decode cX8_init 14 = .ok (.aload_n 2, 1) := by decide +kernel
theorem dX8_init_15 : decode cX8_init 15 = .ok (.getfield 18, 3) := by decide +kernel
theorem dX8_init_18 : decode cX8_init 18 = .ok (.putfield 22, 3) := by decide +kernel
theorem dX8_init_21 : decode cX8_init 21 = .ok (.return_, 1) := by decide +kernel
theorem dX8_readTown_0 : decode cX8_readTown 0 = .ok (.aload_n 0, 1) := by decide +kernel
theorem dX8_readTown_1 : decode cX8_readTown 1 = .ok (.iload_n 1, 1) := by decide +kernel
theorem dX8_readTown_2 : decode cX8_readTown 2 = .ok (.invokevirtual 23, 3) := by decide +kernel
theorem dX8_readTown_5 : decode cX8_readTown 5 = .ok (.aload_n 0, 1) := by decide +kernel
theorem dX8_readTown_6 : decode cX8_readTown 6 = .ok (.invokevirtual 27, 3) := by decide +kernel
theorem dX8_readTown_9 : decode cX8_readTown 9 = .ok (.ifCond .ne 7, 3) := by decide +kernel
theorem dX8_readTown_12 : decode cX8_readTown 12 = .ok (.iconst 1, 1) := by decide +kernel
theorem dX8_readTown_13 : decode cX8_readTown 13 = .ok (.goto 4, 3) := by decide +kernel
theorem dX8_readTown_16 : decode cX8_readTown 16 = .ok (.iconst 0, 1) := by decide +kernel
theorem dX8_readTown_17 : decode cX8_readTown 17 = .ok (.istore_n 2, 1) := by decide +kernel
theorem dX8_readTown_18 : decode cX8_readTown 18 = .ok (.iconst 0, 1) := by decide +kernel
theorem dX8_readTown_19 : decode cX8_readTown 19 = .ok (.istore_n 3, 1) := by decide +kernel
theorem dX8_readTown_20 : decode cX8_readTown 20 = .ok (.iload_n 3, 1) := by decide +kernel
theorem dX8_readTown_21 : decode cX8_readTown 21 = .ok (.bipush 14, 2) := by decide +kernel
theorem dX8_readTown_23 : decode cX8_readTown 23 = .ok (.if_icmp .ge 42, 3) := by decide +kernel
theorem dX8_readTown_26 : decode cX8_readTown 26 = .ok (.iload_n 2, 1) := by decide +kernel
theorem dX8_readTown_27 : decode cX8_readTown 27 = .ok (.ifCond .eq 38, 3) := by decide +kernel
theorem dX8_readTown_30 : decode cX8_readTown 30 = .ok (.aload_n 0, 1) := by decide +kernel
theorem dX8_readTown_31 : decode cX8_readTown 31 = .ok (.invokevirtual 31, 3) := by decide +kernel
theorem dX8_readTown_34 : decode cX8_readTown 34 = .ok (.ifCond .eq 23, 3) := by decide +kernel
theorem dX8_readTown_37 : decode cX8_readTown 37 = .ok (.aload_n 0, 1) := by decide +kernel
theorem dX8_readTown_38 : decode cX8_readTown 38 = .ok (.invokevirtual 27, 3) := by decide +kernel
theorem dX8_readTown_41 : decode cX8_readTown 41 = .ok (.ifCond .ne 16, 3) := by decide +kernel
theorem dX8_readTown_44 : decode cX8_readTown 44 = .ok (.aload_n 0, 1) := by decide +kernel
theorem dX8_readTown_45 : decode cX8_readTown 45 = .ok (.bipush 59, 2) := by decide +kernel
theorem dX8_readTown_47 : decode cX8_readTown 47 = .ok (.invokevirtual 34, 3) := by decide +kernel
theorem dX8_readTown_50 : decode cX8_readTown 50 = .ok (.ifCond .eq 7, 3) := by decide +kernel
theorem dX8_readTown_53 : decode cX8_readTown 53 = .ok (.iconst 1, 1) := by decide +kernel
theorem dX8_readTown_54 : decode cX8_readTown 54 = .ok (.goto 4, 3) := by decide +kernel
theorem dX8_readTown_57 : decode cX8_readTown 57 = .ok (.iconst 0, 1) := by decide +kernel
theorem dX8_readTown_58 : decode cX8_readTown 58 = .ok (.istore_n 2, 1) := by decide +kernel
theorem dX8_readTown_59 : decode cX8_readTown 59 = .ok (.iinc 3 1, 3) := by decide +kernel
theorem dX8_readTown_62 : decode cX8_readTown 62 = .ok (.goto (-42), 3) := by decide +kernel
theorem dX8_readTown_65 : decode cX8_readTown 65 = .ok (.iload_n 2, 1) := by decide +kernel
theorem dX8_readTown_66 : decode cX8_readTown 66 = .ok (.ifCond .eq 8, 3) := by decide +kernel
theorem dX8_readTown_69 : decode cX8_readTown 69 = .ok (.aload_n 0, 1) := by decide +kernel
theorem dX8_readTown_70 : decode cX8_readTown 70 = .ok (.invokevirtual 38, 3) := by decide +kernel
theorem dX8_readTown_73 : decode cX8_readTown 73 = .ok (.pop, 1) := by decide +kernel
theorem dX8_readTown_74 : decode cX8_readTown 74 = .ok (.aload_n 0, 1) := by decide +kernel
theorem dX8_readTown_75 : decode cX8_readTown 75 = .ok (.invokevirtual 41, 3) := by decide +kernel
theorem dX8_readTown_78 : decode cX8_readTown 78 = .ok (.ireturn, 1) := by decide +kernel
theorem dX8_readLine_0 : decode cX8_readLine 0 = .ok (.aload_n 0, 1) := by decide +kernel
theorem dX8_readLine_1 : decode cX8_readLine 1 = .ok (.ldc 45, 2) := by decide +kernel
theorem dX8_readLine_3 : decode cX8_readLine 3 = .ok (.invokevirtual 47, 3) := by decide +kernel
theorem dX8_readLine_6 : decode cX8_readLine 6 = .ok (.ifCond .eq 8, 3) := by decide +kernel
theorem dX8_readLine_9 : decode cX8_readLine 9 = .ok (.aload_n 0, 1) := by decide +kernel
theorem dX8_readLine_10 : decode cX8_readLine 10 = .ok (.invokevirtual 51, 3) := by decide +kernel
theorem dX8_readLine_13 : decode cX8_readLine 13 = .ok (.ireturn, 1) := by decide +kernel
theorem dX8_readLine_14 : decode cX8_readLine 14 = .ok (.aload_n 0, 1) := by decide +kernel
theorem dX8_readLine_15 : decode cX8_readLine 15 = .ok (.ldc 54, 2) := by decide +kernel
theorem dX8_readLine_17 : decode cX8_readLine 17 = .ok (.invokevirtual 47, 3) := by decide +kernel
theorem dX8_readLine_20 : decode cX8_readLine 20 = .ok (.ifCond .eq 8, 3) := by decide +kernel
theorem dX8_readLine_23 : decode cX8_readLine 23 = .ok (.aload_n 0, 1) := by decide +kernel
theorem dX8_readLine_24 : decode cX8_readLine 24 = .ok (.invokevirtual 56, 3) := by decide +kernel
theorem dX8_readLine_27 : decode cX8_readLine 27 = .ok (.ireturn, 1) := by decide +kernel
theorem dX8_readLine_28 : decode cX8_readLine 28 = .ok (.aload_n 0, 1) := by decide +kernel
theorem dX8_readLine_29 : decode cX8_readLine 29 = .ok (.ldc 59, 2) := by decide +kernel
theorem dX8_readLine_31 : decode cX8_readLine 31 = .ok (.invokevirtual 47, 3) := by decide +kernel
theorem dX8_readLine_34 : decode cX8_readLine 34 = .ok (.ifCond .eq 8, 3) := by decide +kernel
theorem dX8_readLine_37 : decode cX8_readLine 37 = .ok (.aload_n 0, 1) := by decide +kernel
theorem dX8_readLine_38 : decode cX8_readLine 38 = .ok (.invokevirtual 61, 3) := by decide +kernel
theorem dX8_readLine_41 : decode cX8_readLine 41 = .ok (.ireturn, 1) := by decide +kernel
theorem dX8_readLine_42 : decode cX8_readLine 42 = .ok (.aload_n 0, 1) := by decide +kernel
theorem dX8_readLine_43 : decode cX8_readLine 43 = .ok (.ldc 64, 2) := by decide +kernel
theorem dX8_readLine_45 : decode cX8_readLine 45 = .ok (.invokevirtual 47, 3) := by decide +kernel
theorem dX8_readLine_48 : decode cX8_readLine 48 = .ok (.ifCond .eq 8, 3) := by decide +kernel
theorem dX8_readLine_51 : decode cX8_readLine 51 = .ok (.aload_n 0, 1) := by decide +kernel
theorem dX8_readLine_52 : decode cX8_readLine 52 = .ok (.invokevirtual 66, 3) := by decide +kernel
theorem dX8_readLine_55 : decode cX8_readLine 55 = .ok (.ireturn, 1) := by decide +kernel
theorem dX8_readLine_56 : decode cX8_readLine 56 = .ok (.aload_n 0, 1) := by decide +kernel
theorem dX8_readLine_57 : decode cX8_readLine 57 = .ok (.ldc 69, 2) := by decide +kernel
theorem dX8_readLine_59 : decode cX8_readLine 59 = .ok (.invokevirtual 47, 3) := by decide +kernel
theorem dX8_readLine_62 : decode cX8_readLine 62 = .ok (.ifCond .eq 8, 3) := by decide +kernel
theorem dX8_readLine_65 : decode cX8_readLine 65 = .ok (.aload_n 0, 1) := by decide +kernel
theorem dX8_readLine_66 : decode cX8_readLine 66 = .ok (.invokevirtual 71, 3) := by decide +kernel
theorem dX8_readLine_69 : decode cX8_readLine 69 = .ok (.ireturn, 1) := by decide +kernel
theorem dX8_readLine_70 : decode cX8_readLine 70 = .ok (.aload_n 0, 1) := by decide +kernel
theorem dX8_readLine_71 : decode cX8_readLine 71 = .ok (.ldc 74, 2) := by decide +kernel
theorem dX8_readLine_73 : decode cX8_readLine 73 = .ok (.invokevirtual 47, 3) := by decide +kernel
theorem dX8_readLine_76 : decode cX8_readLine 76 = .ok (.ifCond .eq 8, 3) := by decide +kernel
theorem dX8_readLine_79 : decode cX8_readLine 79 = .ok (.aload_n 0, 1) := by decide +kernel
theorem dX8_readLine_80 : decode cX8_readLine 80 = .ok (.invokevirtual 76, 3) := by decide +kernel
theorem dX8_readLine_83 : decode cX8_readLine 83 = .ok (.ireturn, 1) := by decide +kernel
theorem dX8_readLine_84 : decode cX8_readLine 84 = .ok (.aload_n 0, 1) := by decide +kernel
theorem dX8_readLine_85 : decode cX8_readLine 85 = .ok (.ldc 79, 2) := by decide +kernel
theorem dX8_readLine_87 : decode cX8_readLine 87 = .ok (.invokevirtual 47, 3) := by decide +kernel
theorem dX8_readLine_90 : decode cX8_readLine 90 = .ok (.ifCond .eq 8, 3) := by decide +kernel
theorem dX8_readLine_93 : decode cX8_readLine 93 = .ok (.aload_n 0, 1) := by decide +kernel
theorem dX8_readLine_94 : decode cX8_readLine 94 = .ok (.invokevirtual 81, 3) := by decide +kernel
theorem dX8_readLine_97 : decode cX8_readLine 97 = .ok (.ireturn, 1) := by decide +kernel
theorem dX8_readLine_98 : decode cX8_readLine 98 = .ok (.aload_n 0, 1) := by decide +kernel
theorem dX8_readLine_99 : decode cX8_readLine 99 = .ok (.ldc 84, 2) := by decide +kernel
theorem dX8_readLine_101 : decode cX8_readLine 101 = .ok (.invokevirtual 47, 3) := by decide +kernel
theorem dX8_readLine_104 : decode cX8_readLine 104 = .ok (.ifCond .eq 10, 3) := by decide +kernel
theorem dX8_readLine_107 : decode cX8_readLine 107 = .ok (.aload_n 0, 1) := by decide +kernel
theorem dX8_readLine_108 : decode cX8_readLine 108 = .ok (.invokevirtual 86, 3) := by decide +kernel
theorem dX8_readLine_111 : decode cX8_readLine 111 = .ok (.goto 7, 3) := by decide +kernel
theorem dX8_readLine_114 : decode cX8_readLine 114 = .ok (.aload_n 0, 1) := by decide +kernel
theorem dX8_readLine_115 : decode cX8_readLine 115 = .ok (.invokevirtual 38, 3) := by decide +kernel
theorem dX8_readLine_118 : decode cX8_readLine 118 = .ok (.ireturn, 1) := by decide +kernel
theorem dX8_readTenant_0 : decode cX8_readTenant 0 = .ok (.aload_n 0, 1) := by decide +kernel
theorem dX8_readTenant_1 : decode cX8_readTenant 1 = .ok (.getfield 22, 3) := by decide +kernel
theorem dX8_readTenant_4 : decode cX8_readTenant 4 = .ok (.getfield 89, 3) := by decide +kernel
theorem dX8_readTenant_7 : decode cX8_readTenant 7 = .ok (.bipush 10, 2) := by decide +kernel
theorem dX8_readTenant_9 : decode cX8_readTenant 9 = .ok (.if_icmp .lt 8, 3) := by decide +kernel
theorem dX8_readTenant_12 : decode cX8_readTenant 12 = .ok (.aload_n 0, 1) := by decide +kernel
theorem dX8_readTenant_13 : decode cX8_readTenant 13 = .ok (.invokevirtual 38, 3) := by decide +kernel
theorem dX8_readTenant_16 : decode cX8_readTenant 16 = .ok (.ireturn, 1) := by decide +kernel
theorem dX8_readTenant_17 : decode cX8_readTenant 17 = .ok (.aload_n 0, 1) := by decide +kernel
theorem dX8_readTenant_18 : decode cX8_readTenant 18 = .ok (.invokevirtual 95, 3) := by decide +kernel
theorem dX8_readTenant_21 : decode cX8_readTenant 21 = .ok (.aload_n 0, 1) := by decide +kernel
theorem dX8_readTenant_22 : decode cX8_readTenant 22 = .ok (.iconst 4, 1) := by decide +kernel
theorem dX8_readTenant_23 : decode cX8_readTenant 23 = .ok (.iconst 0, 1) := by decide +kernel
theorem dX8_readTenant_24 : decode cX8_readTenant 24 = .ok (.sipush 9999, 3) := by decide +kernel
theorem dX8_readTenant_27 : decode cX8_readTenant 27 = .ok (.invokevirtual 99, 3) := by decide +kernel
theorem dX8_readTenant_30 : decode cX8_readTenant 30 = .ok (.ifCond .ne 5, 3) := by decide +kernel
theorem dX8_readTenant_33 : decode cX8_readTenant 33 = .ok (.iconst 0, 1) := by decide +kernel
theorem dX8_readTenant_34 : decode cX8_readTenant 34 = .ok (.ireturn, 1) := by decide +kernel
theorem dX8_readTenant_35 : decode cX8_readTenant 35 = .ok (.aload_n 0, 1) := by decide +kernel
theorem dX8_readTenant_36 : decode cX8_readTenant 36 = .ok (.invokevirtual 103, 3) := by decide +kernel
theorem dX8_readTenant_39 : decode cX8_readTenant 39 = .ok (.istore_n 1, 1) := by decide +kernel
theorem dX8_readTenant_40 : decode cX8_readTenant 40 = .ok (.aload_n 0, 1) := by decide +kernel
theorem dX8_readTenant_41 : decode cX8_readTenant 41 = .ok (.ldc 106, 2) := by decide +kernel
theorem dX8_readTenant_43 : decode cX8_readTenant 43 = .ok (.invokevirtual 108, 3) := by decide +kernel
theorem dX8_readTenant_46 : decode cX8_readTenant 46 = .ok (.ifCond .eq 17, 3) := by decide +kernel
theorem dX8_readTenant_49 : decode cX8_readTenant 49 = .ok (.aload_n 0, 1) := by decide +kernel
theorem dX8_readTenant_50 : decode cX8_readTenant 50 = .ok (.invokevirtual 111, 3) := by decide +kernel
theorem dX8_readTenant_53 : decode cX8_readTenant 53 = .ok (.ifCond .eq 10, 3) := by decide +kernel
theorem dX8_readTenant_56 : decode cX8_readTenant 56 = .ok (.aload_n 0, 1) := by decide +kernel
theorem dX8_readTenant_57 : decode cX8_readTenant 57 = .ok (.invokevirtual 114, 3) := by decide +kernel
theorem dX8_readTenant_60 : decode cX8_readTenant 60 = .ok (.ifCond .ne 5, 3) := by decide +kernel
theorem dX8_readTenant_63 : decode cX8_readTenant 63 = .ok (.iconst 0, 1) := by decide +kernel
theorem dX8_readTenant_64 : decode cX8_readTenant 64 = .ok (.ireturn, 1) := by decide +kernel
theorem dX8_readTenant_65 : decode cX8_readTenant 65 = .ok (.aload_n 0, 1) := by decide +kernel
theorem dX8_readTenant_66 : decode cX8_readTenant 66 = .ok (.invokevirtual 95, 3) := by decide +kernel
theorem dX8_readTenant_69 : decode cX8_readTenant 69 = .ok (.aload_n 0, 1) := by decide +kernel
theorem dX8_readTenant_70 : decode cX8_readTenant 70 = .ok (.getfield 15, 3) := by decide +kernel
theorem dX8_readTenant_73 : decode cX8_readTenant 73 = .ok (.getfield 117, 3) := by decide +kernel
theorem dX8_readTenant_76 : decode cX8_readTenant 76 = .ok (.aload_n 0, 1) := by decide +kernel
theorem dX8_readTenant_77 : decode cX8_readTenant 77 = .ok (.getfield 22, 3) := by decide +kernel
theorem dX8_readTenant_80 : decode cX8_readTenant 80 = .ok (.getfield 89, 3) := by decide +kernel
theorem dX8_readTenant_83 : decode cX8_readTenant 83 = .ok (.iload_n 1, 1) := by decide +kernel
theorem dX8_readTenant_84 : decode cX8_readTenant 84 = .ok (.iastore, 1) := by decide +kernel
theorem dX8_readTenant_85 : decode cX8_readTenant 85 = .ok (.aload_n 0, 1) := by decide +kernel
theorem dX8_readTenant_86 : decode cX8_readTenant 86 = .ok (.getfield 22, 3) := by decide +kernel
theorem dX8_readTenant_89 : decode cX8_readTenant 89 = .ok (.dup, 1) := by decide +kernel
theorem dX8_readTenant_90 : decode cX8_readTenant 90 = .ok (.getfield 123, 3) := by decide +kernel
theorem dX8_readTenant_93 : decode cX8_readTenant 93 = .ok (.iload_n 1, 1) := by decide +kernel
theorem dX8_readTenant_94 : decode cX8_readTenant 94 = .ok (.iadd, 1) := by decide +kernel
theorem dX8_readTenant_95 : decode cX8_readTenant 95 = .ok (.putfield 123, 3) := by decide +kernel
theorem dX8_readTenant_98 : decode cX8_readTenant 98 = .ok (.aload_n 0, 1) := by decide +kernel
theorem dX8_readTenant_99 : decode cX8_readTenant 99 = .ok (.getfield 22, 3) := by decide +kernel
theorem dX8_readTenant_102 : decode cX8_readTenant 102 = .ok (.aload_n 0, 1) := by decide +kernel
theorem dX8_readTenant_103 : decode cX8_readTenant 103 = .ok (.getfield 126, 3) := by decide +kernel
theorem dX8_readTenant_106 : decode cX8_readTenant 106 = .ok (.aload_n 0, 1) := by decide +kernel
theorem dX8_readTenant_107 : decode cX8_readTenant 107 = .ok (.getfield 129, 3) := by decide +kernel
theorem dX8_readTenant_110 : decode cX8_readTenant 110 = .ok (.iconst (-1), 1) := by decide +kernel
theorem dX8_readTenant_111 : decode cX8_readTenant 111 = .ok (.invokevirtual 132, 3) := by decide +kernel
theorem dX8_readTenant_114 : decode cX8_readTenant 114 = .ok (.iconst 1, 1) := by decide +kernel
theorem dX8_readTenant_115 : decode cX8_readTenant 115 = .ok (.ireturn, 1) := by decide +kernel
theorem dX8_readChild_0 : decode cX8_readChild 0 = .ok (.aload_n 0, 1) := by decide +kernel
theorem dX8_readChild_1 : decode cX8_readChild 1 = .ok (.getfield 22, 3) := by decide +kernel
theorem dX8_readChild_4 : decode cX8_readChild 4 = .ok (.getfield 89, 3) := by decide +kernel
theorem dX8_readChild_7 : decode cX8_readChild 7 = .ok (.bipush 10, 2) := by decide +kernel
theorem dX8_readChild_9 : decode cX8_readChild 9 = .ok (.if_icmp .lt 8, 3) := by decide +kernel
theorem dX8_readChild_12 : decode cX8_readChild 12 = .ok (.aload_n 0, 1) := by decide +kernel
theorem dX8_readChild_13 : decode cX8_readChild 13 = .ok (.invokevirtual 38, 3) := by decide +kernel
theorem dX8_readChild_16 : decode cX8_readChild 16 = .ok (.ireturn, 1) := by decide +kernel
theorem dX8_readChild_17 : decode cX8_readChild 17 = .ok (.aload_n 0, 1) := by decide +kernel
theorem dX8_readChild_18 : decode cX8_readChild 18 = .ok (.invokevirtual 95, 3) := by decide +kernel
theorem dX8_readChild_21 : decode cX8_readChild 21 = .ok (.aload_n 0, 1) := by decide +kernel
theorem dX8_readChild_22 : decode cX8_readChild 22 = .ok (.ldc 136, 2) := by decide +kernel
theorem dX8_readChild_24 : decode cX8_readChild 24 = .ok (.invokevirtual 108, 3) := by decide +kernel
theorem dX8_readChild_27 : decode cX8_readChild 27 = .ok (.ifCond .eq 10, 3) := by decide +kernel
theorem dX8_readChild_30 : decode cX8_readChild 30 = .ok (.aload_n 0, 1) := by decide +kernel
theorem dX8_readChild_31 : decode cX8_readChild 31 = .ok (.invokevirtual 138, 3) := by decide +kernel
theorem dX8_readChild_34 : decode cX8_readChild 34 = .ok (.ifCond .ne 5, 3) := by decide +kernel
theorem dX8_readChild_37 : decode cX8_readChild 37 = .ok (.iconst 0, 1) := by decide +kernel
theorem dX8_readChild_38 : decode cX8_readChild 38 = .ok (.ireturn, 1) := by decide +kernel
theorem dX8_readChild_39 : decode cX8_readChild 39 = .ok (.aload_n 0, 1) := by decide +kernel
theorem dX8_readChild_40 : decode cX8_readChild 40 = .ok (.invokevirtual 95, 3) := by decide +kernel
theorem dX8_readChild_43 : decode cX8_readChild 43 = .ok (.aload_n 0, 1) := by decide +kernel
theorem dX8_readChild_44 : decode cX8_readChild 44 = .ok (.getfield 22, 3) := by decide +kernel
theorem dX8_readChild_47 : decode cX8_readChild 47 = .ok (.iconst (-1), 1) := by decide +kernel
theorem dX8_readChild_48 : decode cX8_readChild 48 = .ok (.iconst (-1), 1) := by decide +kernel
theorem dX8_readChild_49 : decode cX8_readChild 49 = .ok (.aload_n 0, 1) := by decide +kernel
theorem dX8_readChild_50 : decode cX8_readChild 50 = .ok (.getfield 141, 3) := by decide +kernel
theorem dX8_readChild_53 : decode cX8_readChild 53 = .ok (.invokevirtual 132, 3) := by decide +kernel
theorem dX8_readChild_56 : decode cX8_readChild 56 = .ok (.iconst 1, 1) := by decide +kernel
theorem dX8_readChild_57 : decode cX8_readChild 57 = .ok (.ireturn, 1) := by decide +kernel
theorem dX8_readLet_0 : decode cX8_readLet 0 = .ok (.aload_n 0, 1) := by decide +kernel
theorem dX8_readLet_1 : decode cX8_readLet 1 = .ok (.invokevirtual 95, 3) := by decide +kernel
theorem dX8_readLet_4 : decode cX8_readLet 4 = .ok (.aload_n 0, 1) := by decide +kernel
theorem dX8_readLet_5 : decode cX8_readLet 5 = .ok (.invokevirtual 143, 3) := by decide +kernel
theorem dX8_readLet_8 : decode cX8_readLet 8 = .ok (.ifCond .eq 17, 3) := by decide +kernel
theorem dX8_readLet_11 : decode cX8_readLet 11 = .ok (.aload_n 0, 1) := by decide +kernel
theorem dX8_readLet_12 : decode cX8_readLet 12 = .ok (.invokevirtual 111, 3) := by decide +kernel
theorem dX8_readLet_15 : decode cX8_readLet 15 = .ok (.ifCond .eq 10, 3) := by decide +kernel
theorem dX8_readLet_18 : decode cX8_readLet 18 = .ok (.aload_n 0, 1) := by decide +kernel
theorem dX8_readLet_19 : decode cX8_readLet 19 = .ok (.invokevirtual 114, 3) := by decide +kernel
theorem dX8_readLet_22 : decode cX8_readLet 22 = .ok (.ifCond .ne 5, 3) := by decide +kernel
theorem dX8_readLet_25 : decode cX8_readLet 25 = .ok (.iconst 0, 1) := by decide +kernel
theorem dX8_readLet_26 : decode cX8_readLet 26 = .ok (.ireturn, 1) := by decide +kernel
theorem dX8_readLet_27 : decode cX8_readLet 27 = .ok (.aload_n 0, 1) := by decide +kernel
theorem dX8_readLet_28 : decode cX8_readLet 28 = .ok (.getfield 126, 3) := by decide +kernel
theorem dX8_readLet_31 : decode cX8_readLet 31 = .ok (.istore_n 1, 1) := by decide +kernel
theorem dX8_readLet_32 : decode cX8_readLet 32 = .ok (.iload_n 1, 1) := by decide +kernel
theorem dX8_readLet_33 : decode cX8_readLet 33 = .ok (.aload_n 0, 1) := by decide +kernel
theorem dX8_readLet_34 : decode cX8_readLet 34 = .ok (.getfield 129, 3) := by decide +kernel
theorem dX8_readLet_37 : decode cX8_readLet 37 = .ok (.if_icmp .gt 49, 3) := by decide +kernel
theorem dX8_readLet_40 : decode cX8_readLet 40 = .ok (.aload_n 0, 1) := by decide +kernel
theorem dX8_readLet_41 : decode cX8_readLet 41 = .ok (.getfield 15, 3) := by decide +kernel
theorem dX8_readLet_44 : decode cX8_readLet 44 = .ok (.getfield 146, 3) := by decide +kernel
theorem dX8_readLet_47 : decode cX8_readLet 47 = .ok (.aload_n 0, 1) := by decide +kernel
theorem dX8_readLet_48 : decode cX8_readLet 48 = .ok (.getfield 149, 3) := by decide +kernel
theorem dX8_readLet_51 : decode cX8_readLet 51 = .ok (.iload_n 1, 1) := by decide +kernel
theorem dX8_readLet_52 : decode cX8_readLet 52 = .ok (.iadd, 1) := by decide +kernel
theorem dX8_readLet_53 : decode cX8_readLet 53 = .ok (.iaload, 1) := by decide +kernel
theorem dX8_readLet_54 : decode cX8_readLet 54 = .ok (.iconst (-1), 1) := by decide +kernel
theorem dX8_readLet_55 : decode cX8_readLet 55 = .ok (.if_icmp .ne 20, 3) := by decide +kernel
theorem dX8_readLet_58 : decode cX8_readLet 58 = .ok (.aload_n 0, 1) := by decide +kernel
theorem dX8_readLet_59 : decode cX8_readLet 59 = .ok (.getfield 22, 3) := by decide +kernel
theorem dX8_readLet_62 : decode cX8_readLet 62 = .ok (.getfield 152, 3) := by decide +kernel
theorem dX8_readLet_65 : decode cX8_readLet 65 = .ok (.aload_n 0, 1) := by decide +kernel
theorem dX8_readLet_66 : decode cX8_readLet 66 = .ok (.getfield 149, 3) := by decide +kernel
theorem dX8_readLet_69 : decode cX8_readLet 69 = .ok (.iload_n 1, 1) := by decide +kernel
theorem dX8_readLet_70 : decode cX8_readLet 70 = .ok (.iadd, 1) := by decide +kernel
theorem dX8_readLet_71 : decode cX8_readLet 71 = .ok (.iaload, 1) := by decide +kernel
theorem dX8_readLet_72 : decode cX8_readLet 72 = .ok (.ifCond .eq 8, 3) := by decide +kernel
theorem dX8_readLet_75 : decode cX8_readLet 75 = .ok (.aload_n 0, 1) := by decide +kernel
theorem dX8_readLet_76 : decode cX8_readLet 76 = .ok (.invokevirtual 38, 3) := by decide +kernel
theorem dX8_readLet_79 : decode cX8_readLet 79 = .ok (.ireturn, 1) := by decide +kernel
theorem dX8_readLet_80 : decode cX8_readLet 80 = .ok (.iinc 1 1, 3) := by decide +kernel
theorem dX8_readLet_83 : decode cX8_readLet 83 = .ok (.goto (-51), 3) := by decide +kernel
theorem dX8_readLet_86 : decode cX8_readLet 86 = .ok (.aload_n 0, 1) := by decide +kernel
theorem dX8_readLet_87 : decode cX8_readLet 87 = .ok (.invokevirtual 95, 3) := by decide +kernel
theorem dX8_readLet_90 : decode cX8_readLet 90 = .ok (.aload_n 0, 1) := by decide +kernel
theorem dX8_readLet_91 : decode cX8_readLet 91 = .ok (.invokevirtual 138, 3) := by decide +kernel
theorem dX8_readLet_94 : decode cX8_readLet 94 = .ok (.ifCond .ne 5, 3) := by decide +kernel
theorem dX8_readLet_97 : decode cX8_readLet 97 = .ok (.iconst 0, 1) := by decide +kernel
theorem dX8_readLet_98 : decode cX8_readLet 98 = .ok (.ireturn, 1) := by decide +kernel
theorem dX8_readLet_99 : decode cX8_readLet 99 = .ok (.aload_n 0, 1) := by decide +kernel
theorem dX8_readLet_100 : decode cX8_readLet 100 = .ok (.invokevirtual 95, 3) := by decide +kernel
theorem dX8_readLet_103 : decode cX8_readLet 103 = .ok (.aload_n 0, 1) := by decide +kernel
theorem dX8_readLet_104 : decode cX8_readLet 104 = .ok (.getfield 126, 3) := by decide +kernel
theorem dX8_readLet_107 : decode cX8_readLet 107 = .ok (.istore_n 1, 1) := by decide +kernel
theorem dX8_readLet_108 : decode cX8_readLet 108 = .ok (.iload_n 1, 1) := by decide +kernel
theorem dX8_readLet_109 : decode cX8_readLet 109 = .ok (.aload_n 0, 1) := by decide +kernel
theorem dX8_readLet_110 : decode cX8_readLet 110 = .ok (.getfield 129, 3) := by decide +kernel
theorem dX8_readLet_113 : decode cX8_readLet 113 = .ok (.if_icmp .gt 26, 3) := by decide +kernel
theorem dX8_readLet_116 : decode cX8_readLet 116 = .ok (.aload_n 0, 1) := by decide +kernel
theorem dX8_readLet_117 : decode cX8_readLet 117 = .ok (.getfield 15, 3) := by decide +kernel
theorem dX8_readLet_120 : decode cX8_readLet 120 = .ok (.aload_n 0, 1) := by decide +kernel
theorem dX8_readLet_121 : decode cX8_readLet 121 = .ok (.getfield 149, 3) := by decide +kernel
theorem dX8_readLet_124 : decode cX8_readLet 124 = .ok (.iload_n 1, 1) := by decide +kernel
theorem dX8_readLet_125 : decode cX8_readLet 125 = .ok (.iadd, 1) := by decide +kernel
theorem dX8_readLet_126 : decode cX8_readLet 126 = .ok (.aload_n 0, 1) := by decide +kernel
theorem dX8_readLet_127 : decode cX8_readLet 127 = .ok (.getfield 141, 3) := by decide +kernel
theorem dX8_readLet_130 : decode cX8_readLet 130 = .ok (.invokevirtual 154, 3) := by decide +kernel
theorem dX8_readLet_133 : decode cX8_readLet 133 = .ok (.iinc 1 1, 3) := by decide +kernel
theorem dX8_readLet_136 : decode cX8_readLet 136 = .ok (.goto (-28), 3) := by decide +kernel
theorem dX8_readLet_139 : decode cX8_readLet 139 = .ok (.iconst 1, 1) := by decide +kernel
theorem dX8_readLet_140 : decode cX8_readLet 140 = .ok (.ireturn, 1) := by decide +kernel
theorem dX8_readGoods_0 : decode cX8_readGoods 0 = .ok (.aload_n 0, 1) := by decide +kernel
theorem dX8_readGoods_1 : decode cX8_readGoods 1 = .ok (.invokevirtual 95, 3) := by decide +kernel
theorem dX8_readGoods_4 : decode cX8_readGoods 4 = .ok (.aload_n 0, 1) := by decide +kernel
theorem dX8_readGoods_5 : decode cX8_readGoods 5 = .ok (.invokevirtual 143, 3) := by decide +kernel
theorem dX8_readGoods_8 : decode cX8_readGoods 8 = .ok (.ifCond .eq 10, 3) := by decide +kernel
theorem dX8_readGoods_11 : decode cX8_readGoods 11 = .ok (.aload_n 0, 1) := by decide +kernel
theorem dX8_readGoods_12 : decode cX8_readGoods 12 = .ok (.invokevirtual 158, 3) := by decide +kernel
theorem dX8_readGoods_15 : decode cX8_readGoods 15 = .ok (.ifCond .ne 5, 3) := by decide +kernel
theorem dX8_readGoods_18 : decode cX8_readGoods 18 = .ok (.iconst 0, 1) := by decide +kernel
theorem dX8_readGoods_19 : decode cX8_readGoods 19 = .ok (.ireturn, 1) := by decide +kernel
theorem dX8_readGoods_20 : decode cX8_readGoods 20 = .ok (.aload_n 0, 1) := by decide +kernel
theorem dX8_readGoods_21 : decode cX8_readGoods 21 = .ok (.invokevirtual 95, 3) := by decide +kernel
theorem dX8_readGoods_24 : decode cX8_readGoods 24 = .ok (.aload_n 0, 1) := by decide +kernel
theorem dX8_readGoods_25 : decode cX8_readGoods 25 = .ok (.iconst 3, 1) := by decide +kernel
theorem dX8_readGoods_26 : decode cX8_readGoods 26 = .ok (.iconst 0, 1) := by decide +kernel
theorem dX8_readGoods_27 : decode cX8_readGoods 27 = .ok (.bipush 99, 2) := by decide +kernel
theorem dX8_readGoods_29 : decode cX8_readGoods 29 = .ok (.invokevirtual 99, 3) := by decide +kernel
theorem dX8_readGoods_32 : decode cX8_readGoods 32 = .ok (.ifCond .ne 5, 3) := by decide +kernel
theorem dX8_readGoods_35 : decode cX8_readGoods 35 = .ok (.iconst 0, 1) := by decide +kernel
theorem dX8_readGoods_36 : decode cX8_readGoods 36 = .ok (.ireturn, 1) := by decide +kernel
theorem dX8_readGoods_37 : decode cX8_readGoods 37 = .ok (.aload_n 0, 1) := by decide +kernel
theorem dX8_readGoods_38 : decode cX8_readGoods 38 = .ok (.getfield 15, 3) := by decide +kernel
theorem dX8_readGoods_41 : decode cX8_readGoods 41 = .ok (.getfield 161, 3) := by decide +kernel
theorem dX8_readGoods_44 : decode cX8_readGoods 44 = .ok (.aload_n 0, 1) := by decide +kernel
theorem dX8_readGoods_45 : decode cX8_readGoods 45 = .ok (.getfield 149, 3) := by decide +kernel
theorem dX8_readGoods_48 : decode cX8_readGoods 48 = .ok (.aload_n 0, 1) := by decide +kernel
theorem dX8_readGoods_49 : decode cX8_readGoods 49 = .ok (.invokevirtual 103, 3) := by decide +kernel
theorem dX8_readGoods_52 : decode cX8_readGoods 52 = .ok (.iastore, 1) := by decide +kernel
theorem dX8_readGoods_53 : decode cX8_readGoods 53 = .ok (.iconst 1, 1) := by decide +kernel
theorem dX8_readGoods_54 : decode cX8_readGoods 54 = .ok (.ireturn, 1) := by decide +kernel
theorem dX8_readShut_0 : decode cX8_readShut 0 = .ok (.aload_n 0, 1) := by decide +kernel
theorem dX8_readShut_1 : decode cX8_readShut 1 = .ok (.invokevirtual 95, 3) := by decide +kernel
theorem dX8_readShut_4 : decode cX8_readShut 4 = .ok (.aload_n 0, 1) := by decide +kernel
theorem dX8_readShut_5 : decode cX8_readShut 5 = .ok (.invokevirtual 143, 3) := by decide +kernel
theorem dX8_readShut_8 : decode cX8_readShut 8 = .ok (.ifCond .eq 10, 3) := by decide +kernel
theorem dX8_readShut_11 : decode cX8_readShut 11 = .ok (.aload_n 0, 1) := by decide +kernel
theorem dX8_readShut_12 : decode cX8_readShut 12 = .ok (.invokevirtual 158, 3) := by decide +kernel
theorem dX8_readShut_15 : decode cX8_readShut 15 = .ok (.ifCond .ne 5, 3) := by decide +kernel
theorem dX8_readShut_18 : decode cX8_readShut 18 = .ok (.iconst 0, 1) := by decide +kernel
theorem dX8_readShut_19 : decode cX8_readShut 19 = .ok (.ireturn, 1) := by decide +kernel
theorem dX8_readShut_20 : decode cX8_readShut 20 = .ok (.aload_n 0, 1) := by decide +kernel
theorem dX8_readShut_21 : decode cX8_readShut 21 = .ok (.getfield 15, 3) := by decide +kernel
theorem dX8_readShut_24 : decode cX8_readShut 24 = .ok (.getfield 146, 3) := by decide +kernel
theorem dX8_readShut_27 : decode cX8_readShut 27 = .ok (.aload_n 0, 1) := by decide +kernel
theorem dX8_readShut_28 : decode cX8_readShut 28 = .ok (.getfield 149, 3) := by decide +kernel
theorem dX8_readShut_31 : decode cX8_readShut 31 = .ok (.iaload, 1) := by decide +kernel
theorem dX8_readShut_32 : decode cX8_readShut 32 = .ok (.iconst (-1), 1) := by decide +kernel
theorem dX8_readShut_33 : decode cX8_readShut 33 = .ok (.if_icmp .eq 8, 3) := by decide +kernel
theorem dX8_readShut_36 : decode cX8_readShut 36 = .ok (.aload_n 0, 1) := by decide +kernel
theorem dX8_readShut_37 : decode cX8_readShut 37 = .ok (.invokevirtual 38, 3) := by decide +kernel
theorem dX8_readShut_40 : decode cX8_readShut 40 = .ok (.ireturn, 1) := by decide +kernel
theorem dX8_readShut_41 : decode cX8_readShut 41 = .ok (.aload_n 0, 1) := by decide +kernel
theorem dX8_readShut_42 : decode cX8_readShut 42 = .ok (.invokevirtual 95, 3) := by decide +kernel
theorem dX8_readShut_45 : decode cX8_readShut 45 = .ok (.aload_n 0, 1) := by decide +kernel
theorem dX8_readShut_46 : decode cX8_readShut 46 = .ok (.getfield 22, 3) := by decide +kernel
theorem dX8_readShut_49 : decode cX8_readShut 49 = .ok (.getfield 152, 3) := by decide +kernel
theorem dX8_readShut_52 : decode cX8_readShut 52 = .ok (.aload_n 0, 1) := by decide +kernel
theorem dX8_readShut_53 : decode cX8_readShut 53 = .ok (.getfield 149, 3) := by decide +kernel
theorem dX8_readShut_56 : decode cX8_readShut 56 = .ok (.iconst 1, 1) := by decide +kernel
theorem dX8_readShut_57 : decode cX8_readShut 57 = .ok (.iastore, 1) := by decide +kernel
theorem dX8_readShut_58 : decode cX8_readShut 58 = .ok (.iconst 1, 1) := by decide +kernel
theorem dX8_readShut_59 : decode cX8_readShut 59 = .ok (.ireturn, 1) := by decide +kernel
theorem dX8_readSub_0 : decode cX8_readSub 0 = .ok (.aload_n 0, 1) := by decide +kernel
theorem dX8_readSub_1 : decode cX8_readSub 1 = .ok (.invokevirtual 95, 3) := by decide +kernel
theorem dX8_readSub_4 : decode cX8_readSub 4 = .ok (.aload_n 0, 1) := by decide +kernel
theorem dX8_readSub_5 : decode cX8_readSub 5 = .ok (.invokevirtual 143, 3) := by decide +kernel
theorem dX8_readSub_8 : decode cX8_readSub 8 = .ok (.ifCond .eq 10, 3) := by decide +kernel
theorem dX8_readSub_11 : decode cX8_readSub 11 = .ok (.aload_n 0, 1) := by decide +kernel
theorem dX8_readSub_12 : decode cX8_readSub 12 = .ok (.invokevirtual 158, 3) := by decide +kernel
theorem dX8_readSub_15 : decode cX8_readSub 15 = .ok (.ifCond .ne 5, 3) := by decide +kernel
theorem dX8_readSub_18 : decode cX8_readSub 18 = .ok (.iconst 0, 1) := by decide +kernel
theorem dX8_readSub_19 : decode cX8_readSub 19 = .ok (.ireturn, 1) := by decide +kernel
theorem dX8_readSub_20 : decode cX8_readSub 20 = .ok (.aload_n 0, 1) := by decide +kernel
theorem dX8_readSub_21 : decode cX8_readSub 21 = .ok (.getfield 15, 3) := by decide +kernel
theorem dX8_readSub_24 : decode cX8_readSub 24 = .ok (.getfield 146, 3) := by decide +kernel
theorem dX8_readSub_27 : decode cX8_readSub 27 = .ok (.aload_n 0, 1) := by decide +kernel
theorem dX8_readSub_28 : decode cX8_readSub 28 = .ok (.getfield 149, 3) := by decide +kernel
theorem dX8_readSub_31 : decode cX8_readSub 31 = .ok (.iaload, 1) := by decide +kernel
theorem dX8_readSub_32 : decode cX8_readSub 32 = .ok (.iconst (-1), 1) := by decide +kernel
theorem dX8_readSub_33 : decode cX8_readSub 33 = .ok (.if_icmp .ne 8, 3) := by decide +kernel
theorem dX8_readSub_36 : decode cX8_readSub 36 = .ok (.aload_n 0, 1) := by decide +kernel
theorem dX8_readSub_37 : decode cX8_readSub 37 = .ok (.invokevirtual 38, 3) := by decide +kernel
theorem dX8_readSub_40 : decode cX8_readSub 40 = .ok (.ireturn, 1) := by decide +kernel
theorem dX8_readSub_41 : decode cX8_readSub 41 = .ok (.aload_n 0, 1) := by decide +kernel
theorem dX8_readSub_42 : decode cX8_readSub 42 = .ok (.invokevirtual 95, 3) := by decide +kernel
theorem dX8_readSub_45 : decode cX8_readSub 45 = .ok (.aload_n 0, 1) := by decide +kernel
theorem dX8_readSub_46 : decode cX8_readSub 46 = .ok (.invokevirtual 138, 3) := by decide +kernel
theorem dX8_readSub_49 : decode cX8_readSub 49 = .ok (.ifCond .ne 5, 3) := by decide +kernel
theorem dX8_readSub_52 : decode cX8_readSub 52 = .ok (.iconst 0, 1) := by decide +kernel
theorem dX8_readSub_53 : decode cX8_readSub 53 = .ok (.ireturn, 1) := by decide +kernel
theorem dX8_readSub_54 : decode cX8_readSub 54 = .ok (.aload_n 0, 1) := by decide +kernel
theorem dX8_readSub_55 : decode cX8_readSub 55 = .ok (.getfield 141, 3) := by decide +kernel
theorem dX8_readSub_58 : decode cX8_readSub 58 = .ok (.aload_n 0, 1) := by decide +kernel
theorem dX8_readSub_59 : decode cX8_readSub 59 = .ok (.getfield 15, 3) := by decide +kernel
theorem dX8_readSub_62 : decode cX8_readSub 62 = .ok (.getfield 146, 3) := by decide +kernel
theorem dX8_readSub_65 : decode cX8_readSub 65 = .ok (.aload_n 0, 1) := by decide +kernel
theorem dX8_readSub_66 : decode cX8_readSub 66 = .ok (.getfield 149, 3) := by decide +kernel
theorem dX8_readSub_69 : decode cX8_readSub 69 = .ok (.iaload, 1) := by decide +kernel
theorem dX8_readSub_70 : decode cX8_readSub 70 = .ok (.if_icmp .ne 8, 3) := by decide +kernel
theorem dX8_readSub_73 : decode cX8_readSub 73 = .ok (.aload_n 0, 1) := by decide +kernel
theorem dX8_readSub_74 : decode cX8_readSub 74 = .ok (.invokevirtual 38, 3) := by decide +kernel
theorem dX8_readSub_77 : decode cX8_readSub 77 = .ok (.ireturn, 1) := by decide +kernel
theorem dX8_readSub_78 : decode cX8_readSub 78 = .ok (.aload_n 0, 1) := by decide +kernel
theorem dX8_readSub_79 : decode cX8_readSub 79 = .ok (.invokevirtual 95, 3) := by decide +kernel
theorem dX8_readSub_82 : decode cX8_readSub 82 = .ok (.aload_n 0, 1) := by decide +kernel
theorem dX8_readSub_83 : decode cX8_readSub 83 = .ok (.getfield 15, 3) := by decide +kernel
theorem dX8_readSub_86 : decode cX8_readSub 86 = .ok (.getfield 163, 3) := by decide +kernel
theorem dX8_readSub_89 : decode cX8_readSub 89 = .ok (.aload_n 0, 1) := by decide +kernel
theorem dX8_readSub_90 : decode cX8_readSub 90 = .ok (.getfield 149, 3) := by decide +kernel
theorem dX8_readSub_93 : decode cX8_readSub 93 = .ok (.aload_n 0, 1) := by decide +kernel
theorem dX8_readSub_94 : decode cX8_readSub 94 = .ok (.getfield 141, 3) := by decide +kernel
theorem dX8_readSub_97 : decode cX8_readSub 97 = .ok (.iastore, 1) := by decide +kernel
theorem dX8_readSub_98 : decode cX8_readSub 98 = .ok (.iconst 1, 1) := by decide +kernel
theorem dX8_readSub_99 : decode cX8_readSub 99 = .ok (.ireturn, 1) := by decide +kernel
theorem dX8_readWant_0 : decode cX8_readWant 0 = .ok (.aload_n 0, 1) := by decide +kernel
theorem dX8_readWant_1 : decode cX8_readWant 1 = .ok (.getfield 22, 3) := by decide +kernel
theorem dX8_readWant_4 : decode cX8_readWant 4 = .ok (.getfield 165, 3) := by decide +kernel
theorem dX8_readWant_7 : decode cX8_readWant 7 = .ok (.bipush 8, 2) := by decide +kernel
theorem dX8_readWant_9 : decode cX8_readWant 9 = .ok (.if_icmp .lt 8, 3) := by decide +kernel
theorem dX8_readWant_12 : decode cX8_readWant 12 = .ok (.aload_n 0, 1) := by decide +kernel
theorem dX8_readWant_13 : decode cX8_readWant 13 = .ok (.invokevirtual 38, 3) := by decide +kernel
theorem dX8_readWant_16 : decode cX8_readWant 16 = .ok (.ireturn, 1) := by decide +kernel
theorem dX8_readWant_17 : decode cX8_readWant 17 = .ok (.aload_n 0, 1) := by decide +kernel
theorem dX8_readWant_18 : decode cX8_readWant 18 = .ok (.invokevirtual 95, 3) := by decide +kernel
theorem dX8_readWant_21 : decode cX8_readWant 21 = .ok (.aload_n 0, 1) := by decide +kernel
theorem dX8_readWant_22 : decode cX8_readWant 22 = .ok (.invokevirtual 138, 3) := by decide +kernel
theorem dX8_readWant_25 : decode cX8_readWant 25 = .ok (.ifCond .ne 5, 3) := by decide +kernel
theorem dX8_readWant_28 : decode cX8_readWant 28 = .ok (.iconst 0, 1) := by decide +kernel
theorem dX8_readWant_29 : decode cX8_readWant 29 = .ok (.ireturn, 1) := by decide +kernel
theorem dX8_readWant_30 : decode cX8_readWant 30 = .ok (.aload_n 0, 1) := by decide +kernel
theorem dX8_readWant_31 : decode cX8_readWant 31 = .ok (.invokevirtual 95, 3) := by decide +kernel
theorem dX8_readWant_34 : decode cX8_readWant 34 = .ok (.aload_n 0, 1) := by decide +kernel
theorem dX8_readWant_35 : decode cX8_readWant 35 = .ok (.iconst 3, 1) := by decide +kernel
theorem dX8_readWant_36 : decode cX8_readWant 36 = .ok (.iconst 1, 1) := by decide +kernel
theorem dX8_readWant_37 : decode cX8_readWant 37 = .ok (.bipush 20, 2) := by decide +kernel
theorem dX8_readWant_39 : decode cX8_readWant 39 = .ok (.invokevirtual 99, 3) := by decide +kernel
theorem dX8_readWant_42 : decode cX8_readWant 42 = .ok (.ifCond .ne 5, 3) := by decide +kernel
theorem dX8_readWant_45 : decode cX8_readWant 45 = .ok (.iconst 0, 1) := by decide +kernel
theorem dX8_readWant_46 : decode cX8_readWant 46 = .ok (.ireturn, 1) := by decide +kernel
theorem dX8_readWant_47 : decode cX8_readWant 47 = .ok (.aload_n 0, 1) := by decide +kernel
theorem dX8_readWant_48 : decode cX8_readWant 48 = .ok (.invokevirtual 103, 3) := by decide +kernel
theorem dX8_readWant_51 : decode cX8_readWant 51 = .ok (.istore_n 1, 1) := by decide +kernel
theorem dX8_readWant_52 : decode cX8_readWant 52 = .ok (.aload_n 0, 1) := by decide +kernel
theorem dX8_readWant_53 : decode cX8_readWant 53 = .ok (.ldc 168, 2) := by decide +kernel
theorem dX8_readWant_55 : decode cX8_readWant 55 = .ok (.invokevirtual 108, 3) := by decide +kernel
theorem dX8_readWant_58 : decode cX8_readWant 58 = .ok (.ifCond .eq 17, 3) := by decide +kernel
theorem dX8_readWant_61 : decode cX8_readWant 61 = .ok (.aload_n 0, 1) := by decide +kernel
theorem dX8_readWant_62 : decode cX8_readWant 62 = .ok (.invokevirtual 111, 3) := by decide +kernel
theorem dX8_readWant_65 : decode cX8_readWant 65 = .ok (.ifCond .eq 10, 3) := by decide +kernel
theorem dX8_readWant_68 : decode cX8_readWant 68 = .ok (.aload_n 0, 1) := by decide +kernel
theorem dX8_readWant_69 : decode cX8_readWant 69 = .ok (.invokevirtual 114, 3) := by decide +kernel
theorem dX8_readWant_72 : decode cX8_readWant 72 = .ok (.ifCond .ne 5, 3) := by decide +kernel
theorem dX8_readWant_75 : decode cX8_readWant 75 = .ok (.iconst 0, 1) := by decide +kernel
theorem dX8_readWant_76 : decode cX8_readWant 76 = .ok (.ireturn, 1) := by decide +kernel
theorem dX8_readWant_77 : decode cX8_readWant 77 = .ok (.aload_n 0, 1) := by decide +kernel
theorem dX8_readWant_78 : decode cX8_readWant 78 = .ok (.invokevirtual 95, 3) := by decide +kernel
theorem dX8_readWant_81 : decode cX8_readWant 81 = .ok (.aload_n 0, 1) := by decide +kernel
theorem dX8_readWant_82 : decode cX8_readWant 82 = .ok (.getfield 22, 3) := by decide +kernel
theorem dX8_readWant_85 : decode cX8_readWant 85 = .ok (.aload_n 0, 1) := by decide +kernel
theorem dX8_readWant_86 : decode cX8_readWant 86 = .ok (.getfield 141, 3) := by decide +kernel
theorem dX8_readWant_89 : decode cX8_readWant 89 = .ok (.iload_n 1, 1) := by decide +kernel
theorem dX8_readWant_90 : decode cX8_readWant 90 = .ok (.aload_n 0, 1) := by decide +kernel
theorem dX8_readWant_91 : decode cX8_readWant 91 = .ok (.getfield 126, 3) := by decide +kernel
theorem dX8_readWant_94 : decode cX8_readWant 94 = .ok (.aload_n 0, 1) := by decide +kernel
theorem dX8_readWant_95 : decode cX8_readWant 95 = .ok (.getfield 129, 3) := by decide +kernel
theorem dX8_readWant_98 : decode cX8_readWant 98 = .ok (.invokevirtual 169, 3) := by decide +kernel
theorem dX8_readWant_101 : decode cX8_readWant 101 = .ok (.iconst 1, 1) := by decide +kernel
theorem dX8_readWant_102 : decode cX8_readWant 102 = .ok (.ireturn, 1) := by decide +kernel
theorem dX8_readChance_0 : decode cX8_readChance 0 = .ok (.aload_n 0, 1) := by decide +kernel
theorem dX8_readChance_1 : decode cX8_readChance 1 = .ok (.invokevirtual 95, 3) := by decide +kernel
theorem dX8_readChance_4 : decode cX8_readChance 4 = .ok (.aload_n 0, 1) := by decide +kernel
theorem dX8_readChance_5 : decode cX8_readChance 5 = .ok (.iconst 3, 1) := by decide +kernel
theorem dX8_readChance_6 : decode cX8_readChance 6 = .ok (.iconst 0, 1) := by decide +kernel
theorem dX8_readChance_7 : decode cX8_readChance 7 = .ok (.bipush 100, 2) := by decide +kernel
theorem dX8_readChance_9 : decode cX8_readChance 9 = .ok (.invokevirtual 99, 3) := by decide +kernel
theorem dX8_readChance_12 : decode cX8_readChance 12 = .ok (.ifCond .ne 5, 3) := by decide +kernel
theorem dX8_readChance_15 : decode cX8_readChance 15 = .ok (.iconst 0, 1) := by decide +kernel
theorem dX8_readChance_16 : decode cX8_readChance 16 = .ok (.ireturn, 1) := by decide +kernel
theorem dX8_readChance_17 : decode cX8_readChance 17 = .ok (.aload_n 0, 1) := by decide +kernel
theorem dX8_readChance_18 : decode cX8_readChance 18 = .ok (.getfield 22, 3) := by decide +kernel
theorem dX8_readChance_21 : decode cX8_readChance 21 = .ok (.aload_n 0, 1) := by decide +kernel
theorem dX8_readChance_22 : decode cX8_readChance 22 = .ok (.invokevirtual 103, 3) := by decide +kernel
theorem dX8_readChance_25 : decode cX8_readChance 25 = .ok (.putfield 173, 3) := by decide +kernel
theorem dX8_readChance_28 : decode cX8_readChance 28 = .ok (.iconst 1, 1) := by decide +kernel
theorem dX8_readChance_29 : decode cX8_readChance 29 = .ok (.ireturn, 1) := by decide +kernel
theorem dX8_passDay_0 : decode cX8_passDay 0 = .ok (.aload_n 0, 1) := by decide +kernel
theorem dX8_passDay_1 : decode cX8_passDay 1 = .ok (.iconst 3, 1) := by decide +kernel
theorem dX8_passDay_2 : decode cX8_passDay 2 = .ok (.iconst 0, 1) := by decide +kernel
theorem dX8_passDay_3 : decode cX8_passDay 3 = .ok (.bipush 6, 2) := by decide +kernel
theorem dX8_passDay_5 : decode cX8_passDay 5 = .ok (.invokevirtual 99, 3) := by decide +kernel
theorem dX8_passDay_8 : decode cX8_passDay 8 = .ok (.ifCond .ne 5, 3) := by decide +kernel
theorem dX8_passDay_11 : decode cX8_passDay 11 = .ok (.iconst 0, 1) := by decide +kernel
theorem dX8_passDay_12 : decode cX8_passDay 12 = .ok (.ireturn, 1) := by decide +kernel
theorem dX8_passDay_13 : decode cX8_passDay 13 = .ok (.aload_n 0, 1) := by decide +kernel
theorem dX8_passDay_14 : decode cX8_passDay 14 = .ok (.aload_n 0, 1) := by decide +kernel
theorem dX8_passDay_15 : decode cX8_passDay 15 = .ok (.invokevirtual 103, 3) := by decide +kernel
theorem dX8_passDay_18 : decode cX8_passDay 18 = .ok (.bipush 24, 2) := by decide +kernel
theorem dX8_passDay_20 : decode cX8_passDay 20 = .ok (.imul, 1) := by decide +kernel
theorem dX8_passDay_21 : decode cX8_passDay 21 = .ok (.putfield 149, 3) := by decide +kernel
theorem dX8_passDay_24 : decode cX8_passDay 24 = .ok (.iconst 1, 1) := by decide +kernel
theorem dX8_passDay_25 : decode cX8_passDay 25 = .ok (.ireturn, 1) := by decide +kernel
theorem dX8_passFirstHour_0 : decode cX8_passFirstHour 0 = .ok (.aload_n 0, 1) := by decide +kernel
theorem dX8_passFirstHour_1 : decode cX8_passFirstHour 1 = .ok (.iconst 3, 1) := by decide +kernel
theorem dX8_passFirstHour_2 : decode cX8_passFirstHour 2 = .ok (.iconst 0, 1) := by decide +kernel
theorem dX8_passFirstHour_3 : decode cX8_passFirstHour 3 = .ok (.bipush 23, 2) := by decide +kernel
theorem dX8_passFirstHour_5 : decode cX8_passFirstHour 5 = .ok (.invokevirtual 99, 3) := by decide +kernel
theorem dX8_passFirstHour_8 : decode cX8_passFirstHour 8 = .ok (.ifCond .ne 5, 3) := by decide +kernel
theorem dX8_passFirstHour_11 : decode cX8_passFirstHour 11 = .ok (.iconst 0, 1) := by decide +kernel
theorem dX8_passFirstHour_12 : decode cX8_passFirstHour 12 = .ok (.ireturn, 1) := by decide +kernel
theorem dX8_passFirstHour_13 : decode cX8_passFirstHour 13 = .ok (.aload_n 0, 1) := by decide +kernel
theorem dX8_passFirstHour_14 : decode cX8_passFirstHour 14 = .ok (.aload_n 0, 1) := by decide +kernel
theorem dX8_passFirstHour_15 : decode cX8_passFirstHour 15 = .ok (.invokevirtual 103, 3) := by decide +kernel
theorem dX8_passFirstHour_18 : decode cX8_passFirstHour 18 = .ok (.putfield 126, 3) := by decide +kernel
theorem dX8_passFirstHour_21 : decode cX8_passFirstHour 21 = .ok (.aload_n 0, 1) := by decide +kernel
theorem dX8_passFirstHour_22 : decode cX8_passFirstHour 22 = .ok (.ldc 175, 2) := by decide +kernel
theorem dX8_passFirstHour_24 : decode cX8_passFirstHour 24 = .ok (.invokevirtual 108, 3) := by decide +kernel
theorem dX8_passFirstHour_27 : decode cX8_passFirstHour 27 = .ok (.ireturn, 1) := by decide +kernel
theorem dX8_isSecondHour_0 : decode cX8_isSecondHour 0 = .ok (.aload_n 0, 1) := by decide +kernel
theorem dX8_isSecondHour_1 : decode cX8_isSecondHour 1 = .ok (.iconst 3, 1) := by decide +kernel
theorem dX8_isSecondHour_2 : decode cX8_isSecondHour 2 = .ok (.aload_n 0, 1) := by decide +kernel
theorem dX8_isSecondHour_3 : decode cX8_isSecondHour 3 = .ok (.getfield 126, 3) := by decide +kernel
theorem dX8_isSecondHour_6 : decode cX8_isSecondHour 6 = .ok (.bipush 23, 2) := by decide +kernel
theorem dX8_isSecondHour_8 : decode cX8_isSecondHour 8 = .ok (.invokevirtual 99, 3) := by decide +kernel
theorem dX8_isSecondHour_11 : decode cX8_isSecondHour 11 = .ok (.ifCond .ne 5, 3) := by decide +kernel
theorem dX8_isSecondHour_14 : decode cX8_isSecondHour 14 = .ok (.iconst 0, 1) := by decide +kernel
theorem dX8_isSecondHour_15 : decode cX8_isSecondHour 15 = .ok (.ireturn, 1) := by decide +kernel
theorem dX8_isSecondHour_16 : decode cX8_isSecondHour 16 = .ok (.aload_n 0, 1) := by decide +kernel
theorem dX8_isSecondHour_17 : decode cX8_isSecondHour 17 = .ok (.aload_n 0, 1) := by decide +kernel
theorem dX8_isSecondHour_18 : decode cX8_isSecondHour 18 = .ok (.invokevirtual 176, 3) := by decide +kernel
theorem dX8_isSecondHour_21 : decode cX8_isSecondHour 21 = .ok (.putfield 129, 3) := by decide +kernel
theorem dX8_isSecondHour_24 : decode cX8_isSecondHour 24 = .ok (.iconst 1, 1) := by decide +kernel
theorem dX8_isSecondHour_25 : decode cX8_isSecondHour 25 = .ok (.ireturn, 1) := by decide +kernel
theorem dX8_isHour_0 : decode cX8_isHour 0 = .ok (.aload_n 0, 1) := by decide +kernel
theorem dX8_isHour_1 : decode cX8_isHour 1 = .ok (.iconst 3, 1) := by decide +kernel
theorem dX8_isHour_2 : decode cX8_isHour 2 = .ok (.iconst 0, 1) := by decide +kernel
theorem dX8_isHour_3 : decode cX8_isHour 3 = .ok (.bipush 23, 2) := by decide +kernel
theorem dX8_isHour_5 : decode cX8_isHour 5 = .ok (.invokevirtual 99, 3) := by decide +kernel
theorem dX8_isHour_8 : decode cX8_isHour 8 = .ok (.ifCond .ne 5, 3) := by decide +kernel
theorem dX8_isHour_11 : decode cX8_isHour 11 = .ok (.iconst 0, 1) := by decide +kernel
theorem dX8_isHour_12 : decode cX8_isHour 12 = .ok (.ireturn, 1) := by decide +kernel
theorem dX8_isHour_13 : decode cX8_isHour 13 = .ok (.aload_n 0, 1) := by decide +kernel
theorem dX8_isHour_14 : decode cX8_isHour 14 = .ok (.dup, 1) := by decide +kernel
theorem dX8_isHour_15 : decode cX8_isHour 15 = .ok (.getfield 149, 3) := by decide +kernel
theorem dX8_isHour_18 : decode cX8_isHour 18 = .ok (.aload_n 0, 1) := by decide +kernel
theorem dX8_isHour_19 : decode cX8_isHour 19 = .ok (.invokevirtual 176, 3) := by decide +kernel
theorem dX8_isHour_22 : decode cX8_isHour 22 = .ok (.iadd, 1) := by decide +kernel
theorem dX8_isHour_23 : decode cX8_isHour 23 = .ok (.putfield 149, 3) := by decide +kernel
theorem dX8_isHour_26 : decode cX8_isHour 26 = .ok (.iconst 1, 1) := by decide +kernel
theorem dX8_isHour_27 : decode cX8_isHour 27 = .ok (.ireturn, 1) := by decide +kernel
theorem dX8_isTenant_0 : decode cX8_isTenant 0 = .ok (.aload_n 0, 1) := by decide +kernel
theorem dX8_isTenant_1 : decode cX8_isTenant 1 = .ok (.iconst 3, 1) := by decide +kernel
theorem dX8_isTenant_2 : decode cX8_isTenant 2 = .ok (.iconst 0, 1) := by decide +kernel
theorem dX8_isTenant_3 : decode cX8_isTenant 3 = .ok (.aload_n 0, 1) := by decide +kernel
theorem dX8_isTenant_4 : decode cX8_isTenant 4 = .ok (.getfield 22, 3) := by decide +kernel
theorem dX8_isTenant_7 : decode cX8_isTenant 7 = .ok (.getfield 89, 3) := by decide +kernel
theorem dX8_isTenant_10 : decode cX8_isTenant 10 = .ok (.iconst 1, 1) := by decide +kernel
theorem dX8_isTenant_11 : decode cX8_isTenant 11 = .ok (.isub, 1) := by decide +kernel
theorem dX8_isTenant_12 : decode cX8_isTenant 12 = .ok (.invokevirtual 99, 3) := by decide +kernel
theorem dX8_isTenant_15 : decode cX8_isTenant 15 = .ok (.ifCond .ne 5, 3) := by decide +kernel
theorem dX8_isTenant_18 : decode cX8_isTenant 18 = .ok (.iconst 0, 1) := by decide +kernel
theorem dX8_isTenant_19 : decode cX8_isTenant 19 = .ok (.ireturn, 1) := by decide +kernel
theorem dX8_isTenant_20 : decode cX8_isTenant 20 = .ok (.aload_n 0, 1) := by decide +kernel
theorem dX8_isTenant_21 : decode cX8_isTenant 21 = .ok (.aload_n 0, 1) := by decide +kernel
theorem dX8_isTenant_22 : decode cX8_isTenant 22 = .ok (.invokevirtual 176, 3) := by decide +kernel
theorem dX8_isTenant_25 : decode cX8_isTenant 25 = .ok (.putfield 141, 3) := by decide +kernel
theorem dX8_isTenant_28 : decode cX8_isTenant 28 = .ok (.aload_n 0, 1) := by decide +kernel
theorem dX8_isTenant_29 : decode cX8_isTenant 29 = .ok (.getfield 22, 3) := by decide +kernel
theorem dX8_isTenant_32 : decode cX8_isTenant 32 = .ok (.getfield 179, 3) := by decide +kernel
theorem dX8_isTenant_35 : decode cX8_isTenant 35 = .ok (.aload_n 0, 1) := by decide +kernel
theorem dX8_isTenant_36 : decode cX8_isTenant 36 = .ok (.getfield 141, 3) := by decide +kernel
theorem dX8_isTenant_39 : decode cX8_isTenant 39 = .ok (.iaload, 1) := by decide +kernel
theorem dX8_isTenant_40 : decode cX8_isTenant 40 = .ok (.iconst (-1), 1) := by decide +kernel
theorem dX8_isTenant_41 : decode cX8_isTenant 41 = .ok (.if_icmp .eq 10, 3) := by decide +kernel
theorem dX8_isTenant_44 : decode cX8_isTenant 44 = .ok (.aload_n 0, 1) := by decide +kernel
theorem dX8_isTenant_45 : decode cX8_isTenant 45 = .ok (.invokevirtual 38, 3) := by decide +kernel
theorem dX8_isTenant_48 : decode cX8_isTenant 48 = .ok (.ifCond .eq 7, 3) := by decide +kernel
theorem dX8_isTenant_51 : decode cX8_isTenant 51 = .ok (.iconst 1, 1) := by decide +kernel
theorem dX8_isTenant_52 : decode cX8_isTenant 52 = .ok (.goto 4, 3) := by decide +kernel
theorem dX8_isTenant_55 : decode cX8_isTenant 55 = .ok (.iconst 0, 1) := by decide +kernel
theorem dX8_isTenant_56 : decode cX8_isTenant 56 = .ok (.ireturn, 1) := by decide +kernel
theorem dX1_init_0 : decode cX1_init 0 = .ok (.aload_n 0, 1) := by decide +kernel
theorem dX1_init_1 : decode cX1_init 1 = .ok (.invokespecial 3, 3) := by decide +kernel
theorem dX1_init_4 : decode cX1_init 4 = .ok (.aload_n 0, 1) := by decide +kernel
theorem dX1_init_5 : decode cX1_init 5 = .ok (.sipush 168, 3) := by decide +kernel
theorem dX1_init_8 : decode cX1_init 8 = .ok (.newarray .int, 2) := by decide +kernel
theorem dX1_init_10 : decode cX1_init 10 = .ok (.putfield 9, 3) := by decide +kernel
theorem dX1_init_13 : decode cX1_init 13 = .ok (.aload_n 0, 1) := by decide +kernel
theorem dX1_init_14 : decode cX1_init 14 = .ok (.sipush 168, 3) := by decide +kernel
theorem dX1_init_17 : decode cX1_init 17 = .ok (.newarray .int, 2) := by decide +kernel
theorem dX1_init_19 : decode cX1_init 19 = .ok (.putfield 15, 3) := by decide +kernel
theorem dX1_init_22 : decode cX1_init 22 = .ok (.aload_n 0, 1) := by decide +kernel
theorem dX1_init_23 : decode cX1_init 23 = .ok (.bipush 8, 2) := by decide +kernel
theorem dX1_init_25 : decode cX1_init 25 = .ok (.newarray .int, 2) := by decide +kernel
theorem dX1_init_27 : decode cX1_init 27 = .ok (.putfield 18, 3) := by decide +kernel
theorem dX1_init_30 : decode cX1_init 30 = .ok (.aload_n 0, 1) := by decide +kernel
theorem dX1_init_31 : decode cX1_init 31 = .ok (.sipush 256, 3) := by decide +kernel
theorem dX1_init_34 : decode cX1_init 34 = .ok (.newarray .int, 2) := by decide +kernel
theorem dX1_init_36 : decode cX1_init 36 = .ok (.putfield 21, 3) := by decide +kernel
theorem dX1_init_39 : decode cX1_init 39 = .ok (.aload_n 0, 1) := by decide +kernel
theorem dX1_init_40 : decode cX1_init 40 = .ok (.aload_n 1, 1) := by decide +kernel
theorem dX1_init_41 : decode cX1_init 41 = .ok (.putfield 24, 3) := by decide +kernel
theorem dX1_init_44 : decode cX1_init 44 = .ok (.return_, 1) := by decide +kernel
theorem dX1_wantOf_0 : decode cX1_wantOf 0 = .ok (.aload_n 0, 1) := by decide +kernel
theorem dX1_wantOf_1 : decode cX1_wantOf 1 = .ok (.getfield 15, 3) := by decide +kernel
theorem dX1_wantOf_4 : decode cX1_wantOf 4 = .ok (.iload_n 1, 1) := by decide +kernel
theorem dX1_wantOf_5 : decode cX1_wantOf 5 = .ok (.iaload, 1) := by decide +kernel
theorem dX1_wantOf_6 : decode cX1_wantOf 6 = .ok (.ireturn, 1) := by decide +kernel
theorem dX1_fillWants_0 : decode cX1_fillWants 0 = .ok (.aload_n 0, 1) := by decide +kernel
theorem dX1_fillWants_1 : decode cX1_fillWants 1 = .ok (.invokevirtual 28, 3) := by decide +kernel
theorem dX1_fillWants_4 : decode cX1_fillWants 4 = .ok (.aload_n 0, 1) := by decide +kernel
theorem dX1_fillWants_5 : decode cX1_fillWants 5 = .ok (.invokevirtual 31, 3) := by decide +kernel
theorem dX1_fillWants_8 : decode cX1_fillWants 8 = .ok (.istore_n 1, 1) := by decide +kernel
theorem dX1_fillWants_9 : decode cX1_fillWants 9 = .ok (.iconst 0, 1) := by decide +kernel
theorem dX1_fillWants_10 : decode cX1_fillWants 10 = .ok (.istore_n 2, 1) := by decide +kernel
theorem dX1_fillWants_11 : decode cX1_fillWants 11 = .ok (.iconst 0, 1) := by decide +kernel
theorem dX1_fillWants_12 : decode cX1_fillWants 12 = .ok (.istore_n 3, 1) := by decide +kernel
theorem dX1_fillWants_13 : decode cX1_fillWants 13 = .ok (.iload_n 3, 1) := by decide +kernel
theorem dX1_fillWants_14 : decode cX1_fillWants 14 = .ok (.sipush 168, 3) := by decide +kernel
theorem dX1_fillWants_17 : decode cX1_fillWants 17 = .ok (.if_icmp .ge 83, 3) := by decide +kernel
theorem dX1_fillWants_20 : decode cX1_fillWants 20 = .ok (.aload_n 0, 1) := by decide +kernel
theorem dX1_fillWants_21 : decode cX1_fillWants 21 = .ok (.getfield 9, 3) := by decide +kernel
theorem dX1_fillWants_24 : decode cX1_fillWants 24 = .ok (.iload_n 3, 1) := by decide +kernel
theorem dX1_fillWants_25 : decode cX1_fillWants 25 = .ok (.iaload, 1) := by decide +kernel
theorem dX1_fillWants_26 : decode cX1_fillWants 26 = .ok (.ifCond .ne 7, 3) := by decide +kernel
theorem dX1_fillWants_29 : decode cX1_fillWants 29 = .ok (.iconst (-1), 1) := by decide +kernel
theorem dX1_fillWants_30 : decode cX1_fillWants 30 = .ok (.goto 14, 3) := by decide +kernel
theorem dX1_fillWants_33 : decode cX1_fillWants 33 = .ok (.aload_n 0, 1) := by decide +kernel
theorem dX1_fillWants_34 : decode cX1_fillWants 34 = .ok (.aload_n 0, 1) := by decide +kernel
theorem dX1_fillWants_35 : decode cX1_fillWants 35 = .ok (.getfield 9, 3) := by decide +kernel
theorem dX1_fillWants_38 : decode cX1_fillWants 38 = .ok (.iload_n 3, 1) := by decide +kernel
theorem dX1_fillWants_39 : decode cX1_fillWants 39 = .ok (.iaload, 1) := by decide +kernel
theorem dX1_fillWants_40 : decode cX1_fillWants 40 = .ok (.iload_n 1, 1) := by decide +kernel
theorem dX1_fillWants_41 : decode cX1_fillWants 41 = .ok (.invokevirtual 35, 3) := by decide +kernel
theorem dX1_fillWants_44 : decode cX1_fillWants 44 = .ok (.istore 4, 2) := by decide +kernel
theorem dX1_fillWants_46 : decode cX1_fillWants 46 = .ok (.aload_n 0, 1) := by decide +kernel
theorem dX1_fillWants_47 : decode cX1_fillWants 47 = .ok (.getfield 15, 3) := by decide +kernel
theorem dX1_fillWants_50 : decode cX1_fillWants 50 = .ok (.iload_n 3, 1) := by decide +kernel
theorem dX1_fillWants_51 : decode cX1_fillWants 51 = .ok (.iload 4, 2) := by decide +kernel
theorem dX1_fillWants_53 : decode cX1_fillWants 53 = .ok (.iastore, 1) := by decide +kernel
theorem dX1_fillWants_54 : decode cX1_fillWants 54 = .ok (.aload_n 0, 1) := by decide +kernel
theorem dX1_fillWants_55 : decode cX1_fillWants 55 = .ok (.aload_n 0, 1) := by decide +kernel
theorem dX1_fillWants_56 : decode cX1_fillWants 56 = .ok (.getfield 9, 3) := by decide +kernel
theorem dX1_fillWants_59 : decode cX1_fillWants 59 = .ok (.iload_n 3, 1) := by decide +kernel
theorem dX1_fillWants_60 : decode cX1_fillWants 60 = .ok (.iaload, 1) := by decide +kernel
theorem dX1_fillWants_61 : decode cX1_fillWants 61 = .ok (.iconst (-1), 1) := by decide +kernel
theorem dX1_fillWants_62 : decode cX1_fillWants 62 = .ok (.invokevirtual 39, 3) := by decide +kernel
theorem dX1_fillWants_65 : decode cX1_fillWants 65 = .ok (.iload 4, 2) := by decide +kernel
theorem dX1_fillWants_67 : decode cX1_fillWants 67 = .ok (.iconst (-1), 1) := by decide +kernel
theorem dX1_fillWants_68 : decode cX1_fillWants 68 = .ok (.if_icmp .eq 26, 3) := by decide +kernel
theorem dX1_fillWants_71 : decode cX1_fillWants 71 = .ok (.aload_n 0, 1) := by decide +kernel
theorem dX1_fillWants_72 : decode cX1_fillWants 72 = .ok (.getfield 18, 3) := by decide +kernel
theorem dX1_fillWants_75 : decode cX1_fillWants 75 = .ok (.iload 4, 2) := by decide +kernel
theorem dX1_fillWants_77 : decode cX1_fillWants 77 = .ok (.dup2, 1) := by decide +kernel
theorem dX1_fillWants_78 : decode cX1_fillWants 78 = .ok (.iaload, 1) := by decide +kernel
theorem dX1_fillWants_79 : decode cX1_fillWants 79 = .ok (.iconst 1, 1) := by decide +kernel
theorem dX1_fillWants_80 : decode cX1_fillWants 80 = .ok (.isub, 1) := by decide +kernel
theorem dX1_fillWants_81 : decode cX1_fillWants 81 = .ok (.iastore, 1) := by decide +kernel
theorem dX1_fillWants_82 : decode cX1_fillWants 82 = .ok (.aload_n 0, 1) := by decide +kernel
theorem dX1_fillWants_83 : decode cX1_fillWants 83 = .ok (.iconst 1, 1) := by decide +kernel
theorem dX1_fillWants_84 : decode cX1_fillWants 84 = .ok (.iload 4, 2) := by decide +kernel
theorem dX1_fillWants_86 : decode cX1_fillWants 86 = .ok (.ishl, 1) := by decide +kernel
theorem dX1_fillWants_87 : decode cX1_fillWants 87 = .ok (.iconst 1, 1) := by decide +kernel
theorem dX1_fillWants_88 : decode cX1_fillWants 88 = .ok (.invokevirtual 39, 3) := by decide +kernel
theorem dX1_fillWants_91 : decode cX1_fillWants 91 = .ok (.iinc 2 1, 3) := by decide +kernel
theorem dX1_fillWants_94 : decode cX1_fillWants 94 = .ok (.iinc 3 1, 3) := by decide +kernel
theorem dX1_fillWants_97 : decode cX1_fillWants 97 = .ok (.goto (-84), 3) := by decide +kernel
theorem dX1_fillWants_100 : decode cX1_fillWants 100 = .ok (.iload_n 2, 1) := by decide +kernel
theorem dX1_fillWants_101 : decode cX1_fillWants 101 = .ok (.ireturn, 1) := by decide +kernel
theorem dX1_prepare_0 : decode cX1_prepare 0 = .ok (.aload_n 0, 1) := by decide +kernel
theorem dX1_prepare_1 : decode cX1_prepare 1 = .ok (.getfield 24, 3) := by decide +kernel
theorem dX1_prepare_4 : decode cX1_prepare 4 = .ok (.getfield 43, 3) := by decide +kernel
theorem dX1_prepare_7 : decode cX1_prepare 7 = .ok (.astore_n 1, 1) := by decide +kernel
theorem dX1_prepare_8 : decode cX1_prepare 8 = .ok (.aload_n 0, 1) := by decide +kernel
theorem dX1_prepare_9 : decode cX1_prepare 9 = .ok (.iconst 1, 1) := by decide +kernel
theorem dX1_prepare_10 : decode cX1_prepare 10 = .ok (.aload_n 1, 1) := by decide +kernel
theorem dX1_prepare_11 : decode cX1_prepare 11 = .ok (.getfield 49, 3) := by decide +kernel
theorem dX1_prepare_14 : decode cX1_prepare 14 = .ok (.ishl, 1) := by decide +kernel
theorem dX1_prepare_15 : decode cX1_prepare 15 = .ok (.putfield 55, 3) := by decide +kernel
theorem dX1_prepare_18 : decode cX1_prepare 18 = .ok (.aload_n 0, 1) := by decide +kernel
theorem dX1_prepare_19 : decode cX1_prepare 19 = .ok (.getfield 21, 3) := by decide +kernel
theorem dX1_prepare_22 : decode cX1_prepare 22 = .ok (.iconst 0, 1) := by decide +kernel
theorem dX1_prepare_23 : decode cX1_prepare 23 = .ok (.invokestatic 58, 3) := by decide +kernel
theorem dX1_prepare_26 : decode cX1_prepare 26 = .ok (.iconst 0, 1) := by decide +kernel
theorem dX1_prepare_27 : decode cX1_prepare 27 = .ok (.istore_n 2, 1) := by decide +kernel
theorem dX1_prepare_28 : decode cX1_prepare 28 = .ok (.iload_n 2, 1) := by decide +kernel
theorem dX1_prepare_29 : decode cX1_prepare 29 = .ok (.aload_n 1, 1) := by decide +kernel
theorem dX1_prepare_30 : decode cX1_prepare 30 = .ok (.getfield 49, 3) := by decide +kernel
theorem dX1_prepare_33 : decode cX1_prepare 33 = .ok (.if_icmp .ge 35, 3) := by decide +kernel
theorem dX1_prepare_36 : decode cX1_prepare 36 = .ok (.aload_n 0, 1) := by decide +kernel
theorem dX1_prepare_37 : decode cX1_prepare 37 = .ok (.getfield 18, 3) := by decide +kernel
theorem dX1_prepare_40 : decode cX1_prepare 40 = .ok (.iload_n 2, 1) := by decide +kernel
theorem dX1_prepare_41 : decode cX1_prepare 41 = .ok (.aload_n 1, 1) := by decide +kernel
theorem dX1_prepare_42 : decode cX1_prepare 42 = .ok (.getfield 64, 3) := by decide +kernel
theorem dX1_prepare_45 : decode cX1_prepare 45 = .ok (.iload_n 2, 1) := by decide +kernel
theorem dX1_prepare_46 : decode cX1_prepare 46 = .ok (.iaload, 1) := by decide +kernel
theorem dX1_prepare_47 : decode cX1_prepare 47 = .ok (.iastore, 1) := by decide +kernel
theorem dX1_prepare_48 : decode cX1_prepare 48 = .ok (.aload_n 0, 1) := by decide +kernel
theorem dX1_prepare_49 : decode cX1_prepare 49 = .ok (.iconst 1, 1) := by decide +kernel
theorem dX1_prepare_50 : decode cX1_prepare 50 = .ok (.iload_n 2, 1) := by decide +kernel
theorem dX1_prepare_51 : decode cX1_prepare 51 = .ok (.ishl, 1) := by decide +kernel
theorem dX1_prepare_52 : decode cX1_prepare 52 = .ok (.aload_n 0, 1) := by decide +kernel
theorem dX1_prepare_53 : decode cX1_prepare 53 = .ok (.getfield 18, 3) := by decide +kernel
theorem dX1_prepare_56 : decode cX1_prepare 56 = .ok (.iload_n 2, 1) := by decide +kernel
theorem dX1_prepare_57 : decode cX1_prepare 57 = .ok (.iaload, 1) := by decide +kernel
theorem dX1_prepare_58 : decode cX1_prepare 58 = .ok (.ineg, 1) := by decide +kernel
theorem dX1_prepare_59 : decode cX1_prepare 59 = .ok (.invokevirtual 39, 3) := by decide +kernel
theorem dX1_prepare_62 : decode cX1_prepare 62 = .ok (.iinc 2 1, 3) := by decide +kernel
theorem dX1_prepare_65 : decode cX1_prepare 65 = .ok (.goto (-37), 3) := by decide +kernel
theorem dX1_prepare_68 : decode cX1_prepare 68 = .ok (.iconst 0, 1) := by decide +kernel
theorem dX1_prepare_69 : decode cX1_prepare 69 = .ok (.istore_n 2, 1) := by decide +kernel
theorem dX1_prepare_70 : decode cX1_prepare 70 = .ok (.iload_n 2, 1) := by decide +kernel
theorem dX1_prepare_71 : decode cX1_prepare 71 = .ok (.sipush 168, 3) := by decide +kernel
theorem dX1_prepare_74 : decode cX1_prepare 74 = .ok (.if_icmp .ge 46, 3) := by decide +kernel
theorem dX1_prepare_77 : decode cX1_prepare 77 = .ok (.aload_n 0, 1) := by decide +kernel
theorem dX1_prepare_78 : decode cX1_prepare 78 = .ok (.getfield 9, 3) := by decide +kernel
theorem dX1_prepare_81 : decode cX1_prepare 81 = .ok (.iload_n 2, 1) := by decide +kernel
theorem dX1_prepare_82 : decode cX1_prepare 82 = .ok (.aload_n 0, 1) := by decide +kernel
theorem dX1_prepare_83 : decode cX1_prepare 83 = .ok (.getfield 24, 3) := by decide +kernel
theorem dX1_prepare_86 : decode cX1_prepare 86 = .ok (.iload_n 2, 1) := by decide +kernel
theorem dX1_prepare_87 : decode cX1_prepare 87 = .ok (.invokevirtual 67, 3) := by decide +kernel
theorem dX1_prepare_90 : decode cX1_prepare 90 = .ok (.ifCond .eq 11, 3) := by decide +kernel
theorem dX1_prepare_93 : decode cX1_prepare 93 = .ok (.aload_n 0, 1) := by decide +kernel
theorem dX1_prepare_94 : decode cX1_prepare 94 = .ok (.iload_n 2, 1) := by decide +kernel
theorem dX1_prepare_95 : decode cX1_prepare 95 = .ok (.invokevirtual 71, 3) := by decide +kernel
theorem dX1_prepare_98 : decode cX1_prepare 98 = .ok (.goto 4, 3) := by decide +kernel
theorem dX1_prepare_101 : decode cX1_prepare 101 = .ok (.iconst 0, 1) := by decide +kernel
theorem dX1_prepare_102 : decode cX1_prepare 102 = .ok (.iastore, 1) := by decide +kernel
theorem dX1_prepare_103 : decode cX1_prepare 103 = .ok (.aload_n 0, 1) := by decide +kernel
theorem dX1_prepare_104 : decode cX1_prepare 104 = .ok (.aload_n 0, 1) := by decide +kernel
theorem dX1_prepare_105 : decode cX1_prepare 105 = .ok (.getfield 9, 3) := by decide +kernel
theorem dX1_prepare_108 : decode cX1_prepare 108 = .ok (.iload_n 2, 1) := by decide +kernel
theorem dX1_prepare_109 : decode cX1_prepare 109 = .ok (.iaload, 1) := by decide +kernel
theorem dX1_prepare_110 : decode cX1_prepare 110 = .ok (.iconst 1, 1) := by decide +kernel
theorem dX1_prepare_111 : decode cX1_prepare 111 = .ok (.invokevirtual 39, 3) := by decide +kernel
theorem dX1_prepare_114 : decode cX1_prepare 114 = .ok (.iinc 2 1, 3) := by decide +kernel
theorem dX1_prepare_117 : decode cX1_prepare 117 = .ok (.goto (-47), 3) := by decide +kernel
theorem dX1_prepare_120 : decode cX1_prepare 120 = .ok (.return_, 1) := by decide +kernel
theorem dX1_wantsThatFit_0 : decode cX1_wantsThatFit 0 = .ok (.aload_n 0, 1) := by decide +kernel
theorem dX1_wantsThatFit_1 : decode cX1_wantsThatFit 1 = .ok (.getfield 24, 3) := by decide +kernel
theorem dX1_wantsThatFit_4 : decode cX1_wantsThatFit 4 = .ok (.getfield 43, 3) := by decide +kernel
theorem dX1_wantsThatFit_7 : decode cX1_wantsThatFit 7 = .ok (.astore_n 2, 1) := by decide +kernel
theorem dX1_wantsThatFit_8 : decode cX1_wantsThatFit 8 = .ok (.iload_n 1, 1) := by decide +kernel
theorem dX1_wantsThatFit_9 : decode cX1_wantsThatFit 9 = .ok (.bipush 24, 2) := by decide +kernel
theorem dX1_wantsThatFit_11 : decode cX1_wantsThatFit 11 = .ok (.irem, 1) := by decide +kernel
theorem dX1_wantsThatFit_12 : decode cX1_wantsThatFit 12 = .ok (.istore_n 3, 1) := by decide +kernel
theorem dX1_wantsThatFit_13 : decode cX1_wantsThatFit 13 = .ok (.iconst 0, 1) := by decide +kernel
theorem dX1_wantsThatFit_14 : decode cX1_wantsThatFit 14 = .ok (.istore 4, 2) := by decide +kernel
theorem dX1_wantsThatFit_16 : decode cX1_wantsThatFit 16 = .ok (.iconst 0, 1) := by decide +kernel
theorem dX1_wantsThatFit_17 : decode cX1_wantsThatFit 17 = .ok (.istore 5, 2) := by decide +kernel
theorem dX1_wantsThatFit_19 : decode cX1_wantsThatFit 19 = .ok (.iload 5, 2) := by decide +kernel
theorem dX1_wantsThatFit_21 : decode cX1_wantsThatFit 21 = .ok (.aload_n 2, 1) := by decide +kernel
theorem dX1_wantsThatFit_22 : decode cX1_wantsThatFit 22 = .ok (.getfield 49, 3) := by decide +kernel
theorem dX1_wantsThatFit_25 : decode cX1_wantsThatFit 25 = .ok (.if_icmp .ge 58, 3) := by decide +kernel
theorem dX1_wantsThatFit_28 : decode cX1_wantsThatFit 28 = .ok (.iload_n 3, 1) := by decide +kernel
theorem dX1_wantsThatFit_29 : decode cX1_wantsThatFit 29 = .ok (.aload_n 2, 1) := by decide +kernel
theorem dX1_wantsThatFit_30 : decode cX1_wantsThatFit 30 = .ok (.getfield 75, 3) := by decide +kernel
theorem dX1_wantsThatFit_33 : decode cX1_wantsThatFit 33 = .ok (.iload 5, 2) := by decide +kernel
theorem dX1_wantsThatFit_35 : decode cX1_wantsThatFit 35 = .ok (.iaload, 1) := by decide +kernel
theorem dX1_wantsThatFit_36 : decode cX1_wantsThatFit 36 = .ok (.if_icmp .lt 41, 3) := by decide +kernel
theorem dX1_wantsThatFit_39 : decode cX1_wantsThatFit 39 = .ok (.iload_n 3, 1) := by decide +kernel
theorem dX1_wantsThatFit_40 : decode cX1_wantsThatFit 40 = .ok (.aload_n 2, 1) := by decide +kernel
theorem dX1_wantsThatFit_41 : decode cX1_wantsThatFit 41 = .ok (.getfield 78, 3) := by decide +kernel
theorem dX1_wantsThatFit_44 : decode cX1_wantsThatFit 44 = .ok (.iload 5, 2) := by decide +kernel
theorem dX1_wantsThatFit_46 : decode cX1_wantsThatFit 46 = .ok (.iaload, 1) := by decide +kernel
theorem dX1_wantsThatFit_47 : decode cX1_wantsThatFit 47 = .ok (.if_icmp .gt 30, 3) := by decide +kernel
theorem dX1_wantsThatFit_50 : decode cX1_wantsThatFit 50 = .ok (.aload_n 0, 1) := by decide +kernel
theorem dX1_wantsThatFit_51 : decode cX1_wantsThatFit 51 = .ok (.getfield 24, 3) := by decide +kernel
theorem dX1_wantsThatFit_54 : decode cX1_wantsThatFit 54 = .ok (.aload_n 2, 1) := by decide +kernel
theorem dX1_wantsThatFit_55 : decode cX1_wantsThatFit 55 = .ok (.getfield 81, 3) := by decide +kernel
theorem dX1_wantsThatFit_58 : decode cX1_wantsThatFit 58 = .ok (.iload 5, 2) := by decide +kernel
theorem dX1_wantsThatFit_60 : decode cX1_wantsThatFit 60 = .ok (.iaload, 1) := by decide +kernel
theorem dX1_wantsThatFit_61 : decode cX1_wantsThatFit 61 = .ok (.iload_n 1, 1) := by decide +kernel
theorem dX1_wantsThatFit_62 : decode cX1_wantsThatFit 62 = .ok (.invokevirtual 84, 3) := by decide +kernel
theorem dX1_wantsThatFit_65 : decode cX1_wantsThatFit 65 = .ok (.ifCond .ne 12, 3) := by decide +kernel
theorem dX1_wantsThatFit_68 : decode cX1_wantsThatFit 68 = .ok (.iload 4, 2) := by decide +kernel
theorem dX1_wantsThatFit_70 : decode cX1_wantsThatFit 70 = .ok (.iconst 1, 1) := by decide +kernel
theorem dX1_wantsThatFit_71 : decode cX1_wantsThatFit 71 = .ok (.iload 5, 2) := by decide +kernel
theorem dX1_wantsThatFit_73 : decode cX1_wantsThatFit 73 = .ok (.ishl, 1) := by decide +kernel
theorem dX1_wantsThatFit_74 : decode cX1_wantsThatFit 74 = .ok (.ior, 1) := by decide +kernel
theorem dX1_wantsThatFit_75 : decode cX1_wantsThatFit 75 = .ok (.istore 4, 2) := by decide +kernel
theorem dX1_wantsThatFit_77 : decode cX1_wantsThatFit 77 = .ok (.iinc 5 1, 3) := by decide +kernel
theorem dX1_wantsThatFit_80 : decode cX1_wantsThatFit 80 = .ok (.goto (-61), 3) := by decide +kernel
theorem dX1_wantsThatFit_83 : decode cX1_wantsThatFit 83 = .ok (.iload 4, 2) := by decide +kernel
theorem dX1_wantsThatFit_85 : decode cX1_wantsThatFit 85 = .ok (.ireturn, 1) := by decide +kernel
theorem dX1_change_0 : decode cX1_change 0 = .ok (.iload_n 1, 1) := by decide +kernel
theorem dX1_change_1 : decode cX1_change 1 = .ok (.ifCond .ne 4, 3) := by decide +kernel
theorem dX1_change_4 : decode cX1_change 4 = .ok (.return_, 1) := by decide +kernel
theorem dX1_change_5 : decode cX1_change 5 = .ok (.iconst 0, 1) := by decide +kernel
theorem dX1_change_6 : decode cX1_change 6 = .ok (.istore_n 3, 1) := by decide +kernel
theorem dX1_change_7 : decode cX1_change 7 = .ok (.iload_n 3, 1) := by decide +kernel
theorem dX1_change_8 : decode cX1_change 8 = .ok (.aload_n 0, 1) := by decide +kernel
theorem dX1_change_9 : decode cX1_change 9 = .ok (.getfield 55, 3) := by decide +kernel
theorem dX1_change_12 : decode cX1_change 12 = .ok (.if_icmp .ge 25, 3) := by decide +kernel
theorem dX1_change_15 : decode cX1_change 15 = .ok (.iload_n 3, 1) := by decide +kernel
theorem dX1_change_16 : decode cX1_change 16 = .ok (.iload_n 1, 1) := by decide +kernel
theorem dX1_change_17 : decode cX1_change 17 = .ok (.iand, 1) := by decide +kernel
theorem dX1_change_18 : decode cX1_change 18 = .ok (.ifCond .eq 13, 3) := by decide +kernel
theorem dX1_change_21 : decode cX1_change 21 = .ok (.aload_n 0, 1) := by decide +kernel
theorem dX1_change_22 : decode cX1_change 22 = .ok (.getfield 21, 3) := by decide +kernel
theorem dX1_change_25 : decode cX1_change 25 = .ok (.iload_n 3, 1) := by decide +kernel
theorem dX1_change_26 : decode cX1_change 26 = .ok (.dup2, 1) := by decide +kernel
theorem dX1_change_27 : decode cX1_change 27 = .ok (.iaload, 1) := by decide +kernel
theorem dX1_change_28 : decode cX1_change 28 = .ok (.iload_n 2, 1) := by decide +kernel
theorem dX1_change_29 : decode cX1_change 29 = .ok (.iadd, 1) := by decide +kernel
theorem dX1_change_30 : decode cX1_change 30 = .ok (.iastore, 1) := by decide +kernel
theorem dX1_change_31 : decode cX1_change 31 = .ok (.iinc 3 1, 3) := by decide +kernel
theorem dX1_change_34 : decode cX1_change 34 = .ok (.goto (-27), 3) := by decide +kernel
theorem dX1_change_37 : decode cX1_change 37 = .ok (.return_, 1) := by decide +kernel
theorem dX1_leastSpare_0 : decode cX1_leastSpare 0 = .ok (.iconst 0, 1) := by decide +kernel
theorem dX1_leastSpare_1 : decode cX1_leastSpare 1 = .ok (.istore_n 1, 1) := by decide +kernel
theorem dX1_leastSpare_2 : decode cX1_leastSpare 2 = .ok (.iconst 0, 1) := by decide +kernel
theorem dX1_leastSpare_3 : decode cX1_leastSpare 3 = .ok (.istore_n 2, 1) := by decide +kernel
theorem dX1_leastSpare_4 : decode cX1_leastSpare 4 = .ok (.iload_n 2, 1) := by decide +kernel
theorem dX1_leastSpare_5 : decode cX1_leastSpare 5 = .ok (.aload_n 0, 1) := by decide +kernel
theorem dX1_leastSpare_6 : decode cX1_leastSpare 6 = .ok (.getfield 55, 3) := by decide +kernel
theorem dX1_leastSpare_9 : decode cX1_leastSpare 9 = .ok (.if_icmp .ge 20, 3) := by decide +kernel
theorem dX1_leastSpare_12 : decode cX1_leastSpare 12 = .ok (.iload_n 1, 1) := by decide +kernel
theorem dX1_leastSpare_13 : decode cX1_leastSpare 13 = .ok (.aload_n 0, 1) := by decide +kernel
theorem dX1_leastSpare_14 : decode cX1_leastSpare 14 = .ok (.getfield 21, 3) := by decide +kernel
theorem dX1_leastSpare_17 : decode cX1_leastSpare 17 = .ok (.iload_n 2, 1) := by decide +kernel
theorem dX1_leastSpare_18 : decode cX1_leastSpare 18 = .ok (.iaload, 1) := by decide +kernel
theorem dX1_leastSpare_19 : decode cX1_leastSpare 19 = .ok (.invokestatic 88, 3) := by decide +kernel
theorem dX1_leastSpare_22 : decode cX1_leastSpare 22 = .ok (.istore_n 1, 1) := by decide +kernel
theorem dX1_leastSpare_23 : decode cX1_leastSpare 23 = .ok (.iinc 2 1, 3) := by decide +kernel
theorem dX1_leastSpare_26 : decode cX1_leastSpare 26 = .ok (.goto (-22), 3) := by decide +kernel
theorem dX1_leastSpare_29 : decode cX1_leastSpare 29 = .ok (.iload_n 1, 1) := by decide +kernel
theorem dX1_leastSpare_30 : decode cX1_leastSpare 30 = .ok (.ireturn, 1) := by decide +kernel
theorem dX1_firstWant_0 : decode cX1_firstWant 0 = .ok (.iload_n 1, 1) := by decide +kernel
theorem dX1_firstWant_1 : decode cX1_firstWant 1 = .ok (.istore_n 3, 1) := by decide +kernel
theorem dX1_firstWant_2 : decode cX1_firstWant 2 = .ok (.iconst 0, 1) := by decide +kernel
theorem dX1_firstWant_3 : decode cX1_firstWant 3 = .ok (.istore 4, 2) := by decide +kernel
theorem dX1_firstWant_5 : decode cX1_firstWant 5 = .ok (.iload 4, 2) := by decide +kernel
theorem dX1_firstWant_7 : decode cX1_firstWant 7 = .ok (.aload_n 0, 1) := by decide +kernel
theorem dX1_firstWant_8 : decode cX1_firstWant 8 = .ok (.getfield 55, 3) := by decide +kernel
theorem dX1_firstWant_11 : decode cX1_firstWant 11 = .ok (.if_icmp .ge 32, 3) := by decide +kernel
theorem dX1_firstWant_14 : decode cX1_firstWant 14 = .ok (.aload_n 0, 1) := by decide +kernel
theorem dX1_firstWant_15 : decode cX1_firstWant 15 = .ok (.getfield 21, 3) := by decide +kernel
theorem dX1_firstWant_18 : decode cX1_firstWant 18 = .ok (.iload 4, 2) := by decide +kernel
theorem dX1_firstWant_20 : decode cX1_firstWant 20 = .ok (.iaload, 1) := by decide +kernel
theorem dX1_firstWant_21 : decode cX1_firstWant 21 = .ok (.iload_n 2, 1) := by decide +kernel
theorem dX1_firstWant_22 : decode cX1_firstWant 22 = .ok (.if_icmp .ne 15, 3) := by decide +kernel
theorem dX1_firstWant_25 : decode cX1_firstWant 25 = .ok (.iload 4, 2) := by decide +kernel
theorem dX1_firstWant_27 : decode cX1_firstWant 27 = .ok (.iload_n 1, 1) := by decide +kernel
theorem dX1_firstWant_28 : decode cX1_firstWant 28 = .ok (.iand, 1) := by decide +kernel
theorem dX1_firstWant_29 : decode cX1_firstWant 29 = .ok (.ifCond .eq 8, 3) := by decide +kernel
theorem dX1_firstWant_32 : decode cX1_firstWant 32 = .ok (.iload_n 3, 1) := by decide +kernel
theorem dX1_firstWant_33 : decode cX1_firstWant 33 = .ok (.iload 4, 2) := by decide +kernel
theorem dX1_firstWant_35 : decode cX1_firstWant 35 = .ok (.iand, 1) := by decide +kernel
theorem dX1_firstWant_36 : decode cX1_firstWant 36 = .ok (.istore_n 3, 1) := by decide +kernel
theorem dX1_firstWant_37 : decode cX1_firstWant 37 = .ok (.iinc 4 1, 3) := by decide +kernel
theorem dX1_firstWant_40 : decode cX1_firstWant 40 = .ok (.goto (-35), 3) := by decide +kernel
theorem dX1_firstWant_43 : decode cX1_firstWant 43 = .ok (.iconst 0, 1) := by decide +kernel
theorem dX1_firstWant_44 : decode cX1_firstWant 44 = .ok (.istore 4, 2) := by decide +kernel
theorem dX1_firstWant_46 : decode cX1_firstWant 46 = .ok (.iload 4, 2) := by decide +kernel
theorem dX1_firstWant_48 : decode cX1_firstWant 48 = .ok (.bipush 8, 2) := by decide +kernel
theorem dX1_firstWant_50 : decode cX1_firstWant 50 = .ok (.if_icmp .ge 31, 3) := by decide +kernel
theorem dX1_firstWant_53 : decode cX1_firstWant 53 = .ok (.iload_n 3, 1) := by decide +kernel
theorem dX1_firstWant_54 : decode cX1_firstWant 54 = .ok (.iload 4, 2) := by decide +kernel
theorem dX1_firstWant_56 : decode cX1_firstWant 56 = .ok (.iushr, 1) := by decide +kernel
theorem dX1_firstWant_57 : decode cX1_firstWant 57 = .ok (.iconst 1, 1) := by decide +kernel
theorem dX1_firstWant_58 : decode cX1_firstWant 58 = .ok (.iand, 1) := by decide +kernel
theorem dX1_firstWant_59 : decode cX1_firstWant 59 = .ok (.ifCond .eq 16, 3) := by decide +kernel
theorem dX1_firstWant_62 : decode cX1_firstWant 62 = .ok (.aload_n 0, 1) := by decide +kernel
theorem dX1_firstWant_63 : decode cX1_firstWant 63 = .ok (.getfield 18, 3) := by decide +kernel
theorem dX1_firstWant_66 : decode cX1_firstWant 66 = .ok (.iload 4, 2) := by decide +kernel
theorem dX1_firstWant_68 : decode cX1_firstWant 68 = .ok (.iaload, 1) := by decide +kernel
theorem dX1_firstWant_69 : decode cX1_firstWant 69 = .ok (.ifCond .le 6, 3) := by decide +kernel
theorem dX1_firstWant_72 : decode cX1_firstWant 72 = .ok (.iload 4, 2) := by decide +kernel
theorem dX1_firstWant_74 : decode cX1_firstWant 74 = .ok (.ireturn, 1) := by decide +kernel
theorem dX1_firstWant_75 : decode cX1_firstWant 75 = .ok (.iinc 4 1, 3) := by decide +kernel
theorem dX1_firstWant_78 : decode cX1_firstWant 78 = .ok (.goto (-32), 3) := by decide +kernel
theorem dX1_firstWant_81 : decode cX1_firstWant 81 = .ok (.iconst (-1), 1) := by decide +kernel
theorem dX1_firstWant_82 : decode cX1_firstWant 82 = .ok (.ireturn, 1) := by decide +kernel
theorem dX0_init_0 : decode cX0_init 0 = .ok (.aload_n 0, 1) := by decide +kernel
theorem dX0_init_1 : decode cX0_init 1 = .ok (.invokespecial 3, 3) := by decide +kernel
theorem dX0_init_4 : decode cX0_init 4 = .ok (.aload_n 0, 1) := by decide +kernel
theorem dX0_init_5 : decode cX0_init 5 = .ok (.sipush 168, 3) := by decide +kernel
theorem dX0_init_8 : decode cX0_init 8 = .ok (.newarray .int, 2) := by decide +kernel
theorem dX0_init_10 : decode cX0_init 10 = .ok (.putfield 9, 3) := by decide +kernel
theorem dX0_init_13 : decode cX0_init 13 = .ok (.aload_n 0, 1) := by decide +kernel
theorem dX0_init_14 : decode cX0_init 14 = .ok (.bipush 10, 2) := by decide +kernel
theorem dX0_init_16 : decode cX0_init 16 = .ok (.newarray .int, 2) := by decide +kernel
theorem dX0_init_18 : decode cX0_init 18 = .ok (.putfield 15, 3) := by decide +kernel
theorem dX0_init_21 : decode cX0_init 21 = .ok (.aload_n 0, 1) := by decide +kernel
theorem dX0_init_22 : decode cX0_init 22 = .ok (.iconst 3, 1) := by decide +kernel
theorem dX0_init_23 : decode cX0_init 23 = .ok (.newarray .int, 2) := by decide +kernel
theorem dX0_init_25 : decode cX0_init 25 = .ok (.putfield 18, 3) := by decide +kernel
theorem dX0_init_28 : decode cX0_init 28 = .ok (.aload_n 0, 1) := by decide +kernel
theorem dX0_init_29 : decode cX0_init 29 = .ok (.bipush 18, 2) := by decide +kernel
theorem dX0_init_31 : decode cX0_init 31 = .ok (.newarray .int, 2) := by decide +kernel
theorem dX0_init_33 : decode cX0_init 33 = .ok (.putfield 21, 3) := by decide +kernel
theorem dX0_init_36 : decode cX0_init 36 = .ok (.aload_n 0, 1) := by decide +kernel
theorem dX0_init_37 : decode cX0_init 37 = .ok (.bipush 6, 2) := by decide +kernel
theorem dX0_init_39 : decode cX0_init 39 = .ok (.newarray .int, 2) := by decide +kernel
theorem dX0_init_41 : decode cX0_init 41 = .ok (.putfield 24, 3) := by decide +kernel
theorem dX0_init_44 : decode cX0_init 44 = .ok (.aload_n 0, 1) := by decide +kernel
theorem dX0_init_45 : decode cX0_init 45 = .ok (.bipush 6, 2) := by decide +kernel
theorem dX0_init_47 : decode cX0_init 47 = .ok (.newarray .int, 2) := by decide +kernel
theorem dX0_init_49 : decode cX0_init 49 = .ok (.putfield 27, 3) := by decide +kernel
theorem dX0_init_52 : decode cX0_init 52 = .ok (.aload_n 0, 1) := by decide +kernel
theorem dX0_init_53 : decode cX0_init 53 = .ok (.bipush 10, 2) := by decide +kernel
theorem dX0_init_55 : decode cX0_init 55 = .ok (.newarray .int, 2) := by decide +kernel
theorem dX0_init_57 : decode cX0_init 57 = .ok (.putfield 30, 3) := by decide +kernel
theorem dX0_init_60 : decode cX0_init 60 = .ok (.aload_n 0, 1) := by decide +kernel
theorem dX0_init_61 : decode cX0_init 61 = .ok (.bipush 10, 2) := by decide +kernel
theorem dX0_init_63 : decode cX0_init 63 = .ok (.newarray .int, 2) := by decide +kernel
theorem dX0_init_65 : decode cX0_init 65 = .ok (.putfield 33, 3) := by decide +kernel
theorem dX0_init_68 : decode cX0_init 68 = .ok (.aload_n 0, 1) := by decide +kernel
theorem dX0_init_69 : decode cX0_init 69 = .ok (.aload_n 1, 1) := by decide +kernel
theorem dX0_init_70 : decode cX0_init 70 = .ok (.putfield 36, 3) := by decide +kernel
theorem dX0_init_73 : decode cX0_init 73 = .ok (.aload_n 0, 1) := by decide +kernel
theorem dX0_init_74 : decode cX0_init 74 = .ok (.aload_n 1, 1) := by decide +kernel
theorem dX0_init_75 : decode cX0_init 75 = .ok (.getfield 40, 3) := by decide +kernel
theorem dX0_init_78 : decode cX0_init 78 = .ok (.putfield 46, 3) := by decide +kernel
theorem dX0_init_81 : decode cX0_init 81 = .ok (.return_, 1) := by decide +kernel
theorem dX0_cheapest_0 : decode cX0_cheapest 0 = .ok (.iconst 0, 1) := by decide +kernel
theorem dX0_cheapest_1 : decode cX0_cheapest 1 = .ok (.istore 4, 2) := by decide +kernel
theorem dX0_cheapest_3 : decode cX0_cheapest 3 = .ok (.iload 4, 2) := by decide +kernel
theorem dX0_cheapest_5 : decode cX0_cheapest 5 = .ok (.sipush 168, 3) := by decide +kernel
theorem dX0_cheapest_8 : decode cX0_cheapest 8 = .ok (.if_icmp .ge 49, 3) := by decide +kernel
theorem dX0_cheapest_11 : decode cX0_cheapest 11 = .ok (.aload_n 0, 1) := by decide +kernel
theorem dX0_cheapest_12 : decode cX0_cheapest 12 = .ok (.getfield 36, 3) := by decide +kernel
theorem dX0_cheapest_15 : decode cX0_cheapest 15 = .ok (.iload_n 1, 1) := by decide +kernel
theorem dX0_cheapest_16 : decode cX0_cheapest 16 = .ok (.iload 4, 2) := by decide +kernel
theorem dX0_cheapest_18 : decode cX0_cheapest 18 = .ok (.ldc 47, 2) := by decide +kernel
theorem dX0_cheapest_20 : decode cX0_cheapest 20 = .ok (.invokevirtual 48, 3) := by decide +kernel
theorem dX0_cheapest_23 : decode cX0_cheapest 23 = .ok (.istore 5, 2) := by decide +kernel
theorem dX0_cheapest_25 : decode cX0_cheapest 25 = .ok (.aload_n 0, 1) := by decide +kernel
theorem dX0_cheapest_26 : decode cX0_cheapest 26 = .ok (.getfield 9, 3) := by decide +kernel
theorem dX0_cheapest_29 : decode cX0_cheapest 29 = .ok (.iload 4, 2) := by decide +kernel
theorem dX0_cheapest_31 : decode cX0_cheapest 31 = .ok (.iload 5, 2) := by decide +kernel
theorem dX0_cheapest_33 : decode cX0_cheapest 33 = .ok (.ifCond .eq 16, 3) := by decide +kernel
theorem dX0_cheapest_36 : decode cX0_cheapest 36 = .ok (.aload_n 0, 1) := by decide +kernel
theorem dX0_cheapest_37 : decode cX0_cheapest 37 = .ok (.getfield 36, 3) := by decide +kernel
theorem dX0_cheapest_40 : decode cX0_cheapest 40 = .ok (.iload_n 1, 1) := by decide +kernel
theorem dX0_cheapest_41 : decode cX0_cheapest 41 = .ok (.iload 4, 2) := by decide +kernel
theorem dX0_cheapest_43 : decode cX0_cheapest 43 = .ok (.invokevirtual 52, 3) := by decide +kernel
theorem dX0_cheapest_46 : decode cX0_cheapest 46 = .ok (.goto 4, 3) := by decide +kernel
theorem dX0_cheapest_49 : decode cX0_cheapest 49 = .ok (.iconst (-1), 1) := by decide +kernel
theorem dX0_cheapest_50 : decode cX0_cheapest 50 = .ok (.iastore, 1) := by decide +kernel
theorem dX0_cheapest_51 : decode cX0_cheapest 51 = .ok (.iinc 4 1, 3) := by decide +kernel
theorem dX0_cheapest_54 : decode cX0_cheapest 54 = .ok (.goto (-51), 3) := by decide +kernel
theorem dX0_cheapest_57 : decode cX0_cheapest 57 = .ok (.iconst 0, 1) := by decide +kernel
theorem dX0_cheapest_58 : decode cX0_cheapest 58 = .ok (.istore 4, 2) := by decide +kernel
theorem dX0_cheapest_60 : decode cX0_cheapest 60 = .ok (.iconst 0, 1) := by decide +kernel
theorem dX0_cheapest_61 : decode cX0_cheapest 61 = .ok (.istore 5, 2) := by decide +kernel
